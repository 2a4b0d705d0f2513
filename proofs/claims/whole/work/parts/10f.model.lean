set_option maxHeartbeats 4000000 in
set_option maxRecDepth 100000 in
theorem m_saves (l : Launch) (E : NE) (ad : Nat → Nat) (st : NW) (b : Nat) (N P : Nat → Int32) (kp : Nat) (C : Nat → Int32) (n : Nat) (th : Int32) (J : Nat → Nat → Int32) (hkp : kp ≤ 6) (hn : n ≤ 60) (hO : okN N) (hM : isR E ad st b sM (mG N P kp C n th J))  : nMv l yX5_saves wsX5_saves (nRm 1 24) E ad st [.ref (ad b)] (fun s1 => (∃ J1, isR E ad s1 b sM (mG N (svP P kp N) (svA kp) C n th J1)) ∧ fr b st s1) := by
  refine nSv (cc := cX5_saves) (maxL := 2) (by decide) rfl (Nat.le_of_ble_eq_true rfl) ?_
  intro pg en s mi ar bw mth cd R Q A ls hx hb hml hown hts hRm hP hK hD hZ hA hl hret
  subst hRm
  have hown : s.vm.findClass RX5 = some mi.cls := hown
  have hS : va_S A s.heap s.heap [] := va_S.rf
  have hl : lv_has ls 2 [(0, .ref (ad b))] := hl
  have hf : fr b st st := fr.rf
  have hdB := hO.1.b
  have hinX5 : ∀ w ∈ wsX50, w ∈ wsX5_saves := by decide +kernel
  refine lv_aload_n hx hb dX5_saves_0 rfl (lv_at hl 0 rfl) ?_
  refine rg (v := .int (nI kp)) (T := TX5) (N := 14) (C := RX5) hx hb hts hinX5 hown hK hP hM rfl 3 (by decide) (hts (.fieldLink RX5 36 "NeedleGridModel" "kept" "I") (by decide +kernel)) rfl dX5_saves_1 ?_
  refine lv_bipush (v := 6) hx hb dX5_saves_4 (by decide) ?_
  refine lv_icmp_ne (tgt := 50) hx hb dX5_saves_6 (by decide) (fun c6_0 => ?_) (fun c6_0 => ?_)
  · have hk6 : kp < 6 := by have : ¬ kp = 6 := fun h9 => c6_0 (by rw [h9]; rfl); omega
    refine lv_aload_n hx hb dX5_saves_50 rfl (lv_at hl 0 rfl) ?_
    refine rg (v := .ref (ad (b + 1 + 0))) (T := TX5) (N := 14) (C := RX5) hx hb hts hinX5 hown hK hP hM rfl 0 (by decide) (hts (.fieldLink RX5 7 "NeedleGridModel" "now" "[I") (by decide +kernel)) rfl dX5_saves_51 ?_
    refine lv_iconst (v := 0) hx hb dX5_saves_54 (by decide) ?_
    refine lv_aload_n hx hb dX5_saves_55 rfl (lv_at hl 0 rfl) ?_
    refine rg (v := .ref (ad (b + 1 + 2))) (T := TX5) (N := 14) (C := RX5) hx hb hts hinX5 hown hK hP hM rfl 2 (by decide) (hts (.fieldLink RX5 16 "NeedleGridModel" "past" "[I") (by decide +kernel)) rfl dX5_saves_56 ?_
    refine lv_sipush (v := 186) hx hb dX5_saves_59 (by decide) ?_
    refine lv_aload_n hx hb dX5_saves_62 rfl (lv_at hl 0 rfl) ?_
    refine rg (v := .int (nI kp)) (T := TX5) (N := 14) (C := RX5) hx hb hts hinX5 hown hK hP hM rfl 3 (by decide) (hts (.fieldLink RX5 36 "NeedleGridModel" "kept" "I") (by decide +kernel)) rfl dX5_saves_63 ?_
    refine lv_imul hx hb dX5_saves_66 ?_
    rw [show 186 * nI kp = nI (186 * kp) from pk_mul 186 kp]
    refine nS_v (As := [.ref (ad (b + 1 + 0)), .int 0, .ref (ad (b + 1 + 2)), .int (nI (186 * kp))]) (rest := _) hx hb hml hown hts hP hK hD hZ hA hS ⟨Nat.zero_le _, Nat.zero_le _⟩ (m_copies02 l E ad st b (mG N P kp C n th J) hM 0 (186 * kp) (by omega) (by omega)) (va_cwS 4 hts gX5_saves_X5_copies rfl rfl rfl (by decide +kernel) ⟨Nat.le_of_ble_eq_true rfl, Nat.le_of_ble_eq_true rfl⟩) hl.1 rfl (Nat.le_of_ble_eq_true rfl) dX5_saves_67 (fun s_4 H locs hq hP hD hS => ?_)
    obtain ⟨hM, hf_3⟩ := hq
    have hf := hf.tr hf_3
    refine lv_aload_n hx hb dX5_saves_70 rfl (lv_at hl 0 rfl) ?_
    refine lv_dup hx hb dX5_saves_71 rfl ?_
    refine rg (v := .int (nI kp)) (T := TX5) (N := 14) (C := RX5) hx hb hts hinX5 hown hK hP hM rfl 3 (by decide) (hts (.fieldLink RX5 36 "NeedleGridModel" "kept" "I") (by decide +kernel)) rfl dX5_saves_72 ?_
    refine lv_iconst (v := 1) hx hb dX5_saves_75 (by decide) ?_
    refine lv_iadd hx hb dX5_saves_76 ?_
    rw [nI_1]
    refine rp (v := nI (kp + 1)) (ty := .int) (T := TX5) (N := 14) (C := RX5) hx hb hts hinX5 tyX5 tyX5_ok nmX5 hown hK hP hD hS hM rfl 3 (by decide) (hts (.fieldLink RX5 36 "NeedleGridModel" "kept" "I") (by decide +kernel)) rfl rfl (by decide +kernel) rfl rfl dX5_saves_77 (fun s_5 H locs hM hf_6 hP hD hS => ?_)
    have hf := hf.tr hf_6
    exact hret _ _ _ _ _ hP hD hS (⟨⟨J, hM.eq (all14 rfl rfl (svP_l hk6).symm (funext fun _ => congrArg nI (svA_l hk6).symm) rfl rfl rfl rfl rfl rfl rfl rfl rfl rfl)⟩, hf⟩) dX5_saves_80
  · have hk6 : kp = 6 := (nI_eq (b := 6) (by omega) (by omega)).mp c6_0
    subst hk6
    refine lv_iconst (v := 0) hx hb dX5_saves_9 (by decide) ?_
    refine lv_istore_n (lv' := [(1, .int 0), (0, .ref (ad b))]) hx hb dX5_saves_10 rfl hl (by decide) rfl (fun ls hl => ?_)
    have LP_7 : ∀ (k9 i : Nat), i ≤ 930 → 930 - i < k9 → ∀ (sL_8 : NW) (H : Heap) (locs : List Loc) (ls : Array Slot), isR E ad sL_8 b sM (gu (mG N P 6 C n th J) 2 (shP P i)) → fr b st sL_8 → nP E ad sL_8 H → nD A ad sL_8 → va_S A s.heap H locs → lv_has ls 2 [(1, .int (nI i)), (0, .ref (ad b))] → W pg l en (nRm 1 24) s mi ar bw mth cd H locs 0 0 Q (F0 mi 11 ls []) := by
      intro k9
      induction k9 with
      | zero => intro i _ h9; exact absurd h9 (Nat.not_lt_zero _)
      | succ k9 ih11 =>
        intro i hi hk9 sL_8 H locs ls hM hf hP hD hS hl
        refine lv_iload_n hx hb dX5_saves_11 rfl (lv_at hl 0 rfl) ?_
        refine lv_sipush (v := 930) hx hb dX5_saves_12 (by decide) ?_
        refine lv_icmp_ge (tgt := 40) hx hb dX5_saves_15 (by decide) (fun c15_8 => ?_) (fun c15_8 => ?_)
        · have h36 : 930 ≤ i := (nI_geL (n := 930) rfl (by decide) (by omega)).mp c15_8
          obtain rfl : i = 930 := by omega
          refine lv_aload_n hx hb dX5_saves_40 rfl (lv_at hl 1 rfl) ?_
          refine lv_dup hx hb dX5_saves_41 rfl ?_
          refine rg (v := .int (nI 6)) (T := TX5) (N := 14) (C := RX5) hx hb hts hinX5 hown hK hP hM rfl 3 (by decide) (hts (.fieldLink RX5 36 "NeedleGridModel" "kept" "I") (by decide +kernel)) rfl dX5_saves_42 ?_
          refine lv_iconst (v := 1) hx hb dX5_saves_45 (by decide) ?_
          refine lv_isub hx hb dX5_saves_46 ?_
          rw [show nI 6 - 1 = nI 5 from by decide]
          refine rp (v := nI 5) (ty := .int) (T := TX5) (N := 14) (C := RX5) hx hb hts hinX5 tyX5 tyX5_ok nmX5 hown hK hP hD hS hM rfl 3 (by decide) (hts (.fieldLink RX5 36 "NeedleGridModel" "kept" "I") (by decide +kernel)) rfl rfl (by decide +kernel) rfl rfl dX5_saves_47 (fun s_10 H locs hM hf_11 hP hD hS => ?_)
          have hf := hf.tr hf_11
          refine lv_aload_n hx hb dX5_saves_50 rfl (lv_at hl 1 rfl) ?_
          refine rg (v := .ref (ad (b + 1 + 0))) (T := TX5) (N := 14) (C := RX5) hx hb hts hinX5 hown hK hP hM rfl 0 (by decide) (hts (.fieldLink RX5 7 "NeedleGridModel" "now" "[I") (by decide +kernel)) rfl dX5_saves_51 ?_
          refine lv_iconst (v := 0) hx hb dX5_saves_54 (by decide) ?_
          refine lv_aload_n hx hb dX5_saves_55 rfl (lv_at hl 1 rfl) ?_
          refine rg (v := .ref (ad (b + 1 + 2))) (T := TX5) (N := 14) (C := RX5) hx hb hts hinX5 hown hK hP hM rfl 2 (by decide) (hts (.fieldLink RX5 16 "NeedleGridModel" "past" "[I") (by decide +kernel)) rfl dX5_saves_56 ?_
          refine lv_sipush (v := 186) hx hb dX5_saves_59 (by decide) ?_
          refine lv_aload_n hx hb dX5_saves_62 rfl (lv_at hl 1 rfl) ?_
          refine rg (v := .int (nI 5)) (T := TX5) (N := 14) (C := RX5) hx hb hts hinX5 hown hK hP hM rfl 3 (by decide) (hts (.fieldLink RX5 36 "NeedleGridModel" "kept" "I") (by decide +kernel)) rfl dX5_saves_63 ?_
          refine lv_imul hx hb dX5_saves_66 ?_
          rw [show 186 * nI 5 = nI (186 * 5) from pk_mul 186 5]
          refine nS_v (As := [.ref (ad (b + 1 + 0)), .int 0, .ref (ad (b + 1 + 2)), .int (nI (186 * 5))]) (rest := _) hx hb hml hown hts hP hK hD hZ hA hS ⟨Nat.zero_le _, Nat.zero_le _⟩ (m_copies02 l E ad s_10 b (gu (gu (mG N P 6 C n th J) 2 (shP P 930)) 3 (fun _ => nI 5)) hM 0 (186 * 5) (by omega) (by omega)) (va_cwS 4 hts gX5_saves_X5_copies rfl rfl rfl (by decide +kernel) ⟨Nat.le_of_ble_eq_true rfl, Nat.le_of_ble_eq_true rfl⟩) hl.1 rfl (Nat.le_of_ble_eq_true rfl) dX5_saves_67 (fun s_14 H locs hq hP hD hS => ?_)
          obtain ⟨hM, hf_13⟩ := hq
          have hf := hf.tr hf_13
          have hM : isR E ad s_14 b sM (gu (gu (mG N P 6 C n th J) 3 (fun _ => nI 5)) 2 (cpI N (shP P 930) 0 (186 * 5) 186)) := hM.eq (all14 rfl rfl rfl rfl rfl rfl rfl rfl rfl rfl rfl rfl rfl rfl)
          refine lv_aload_n hx hb dX5_saves_70 rfl (lv_at hl 1 rfl) ?_
          refine lv_dup hx hb dX5_saves_71 rfl ?_
          refine rg (v := .int (nI 5)) (T := TX5) (N := 14) (C := RX5) hx hb hts hinX5 hown hK hP hM rfl 3 (by decide) (hts (.fieldLink RX5 36 "NeedleGridModel" "kept" "I") (by decide +kernel)) rfl dX5_saves_72 ?_
          refine lv_iconst (v := 1) hx hb dX5_saves_75 (by decide) ?_
          refine lv_iadd hx hb dX5_saves_76 ?_
          rw [nI_1]
          refine rp (v := nI (5 + 1)) (ty := .int) (T := TX5) (N := 14) (C := RX5) hx hb hts hinX5 tyX5 tyX5_ok nmX5 hown hK hP hD hS hM rfl 3 (by decide) (hts (.fieldLink RX5 36 "NeedleGridModel" "kept" "I") (by decide +kernel)) rfl rfl (by decide +kernel) rfl rfl dX5_saves_77 (fun s_15 H locs hM hf_16 hP hD hS => ?_)
          have hf := hf.tr hf_16
          have hM : isR E ad s_15 b sM (gu (gu (mG N P 6 C n th J) 2 (cpI N (shP P 930) 0 (186 * 5) 186)) 3 (fun _ => nI (5 + 1))) := hM.eq (all14 rfl rfl rfl rfl rfl rfl rfl rfl rfl rfl rfl rfl rfl rfl)
          exact hret _ _ _ _ _ hP hD hS (⟨⟨J, hM.eq (all14 rfl rfl (svP_6).symm rfl rfl rfl rfl rfl rfl rfl rfl rfl rfl rfl)⟩, hf⟩) dX5_saves_80
        · have hlt : i < 930 := by have := mt (nI_geL (n := 930) (i := i) rfl (by decide) (by omega)).mpr c15_8; omega
          refine lv_aload_n hx hb dX5_saves_18 rfl (lv_at hl 1 rfl) ?_
          refine rg (v := .ref (ad (b + 1 + 2))) (T := TX5) (N := 14) (C := RX5) hx hb hts hinX5 hown hK hP hM rfl 2 (by decide) (hts (.fieldLink RX5 16 "NeedleGridModel" "past" "[I") (by decide +kernel)) rfl dX5_saves_19 ?_
          refine lv_iload_n hx hb dX5_saves_22 rfl (lv_at hl 0 rfl) ?_
          refine lv_aload_n hx hb dX5_saves_23 rfl (lv_at hl 1 rfl) ?_
          refine rg (v := .ref (ad (b + 1 + 2))) (T := TX5) (N := 14) (C := RX5) hx hb hts hinX5 hown hK hP hM rfl 2 (by decide) (hts (.fieldLink RX5 16 "NeedleGridModel" "past" "[I") (by decide +kernel)) rfl dX5_saves_24 ?_
          refine lv_iload_n hx hb dX5_saves_27 rfl (lv_at hl 0 rfl) ?_
          refine lv_sipush (v := 186) hx hb dX5_saves_28 (by decide) ?_
          refine lv_iadd hx hb dX5_saves_31 ?_
          rw [show nI i + 186 = nI (i + 186) from nI_add i 186]
          refine ra (j := (i + 186)) (n := 1116) hx hb hK hP hM 2 rfl (by omega) (by decide) dX5_saves_32 ?_
          refine rs (j := i) (n := 1116) (x := (shP P i) (i + 186)) hx hb hK hP hD hS hM 2 rfl (by decide) (by omega) (by decide) dX5_saves_33 (fun s_17 H locs hM hf_18 hP hD hS => ?_)
          have hf := hf.tr hf_18
          have hM : isR E ad s_17 b sM (gu (mG N P 6 C n th J) 2 (upd (shP P i) i ((shP P i) (i + 186)))) := hM.eq (all14 rfl rfl rfl rfl rfl rfl rfl rfl rfl rfl rfl rfl rfl rfl)
          refine lv_iinc (v := nI (i + 1)) (lv' := [(1, .int (nI (i + 1))), (0, .ref (ad b))]) hx hb dX5_saves_34 hl (k := 0) rfl (nI_1 _) (by decide) rfl (fun ls hl => ?_)
          refine lv_goto (tgt := 11) hx hb dX5_saves_37 (by decide) ?_
          exact ih11 (i + 1) (by omega) (by omega) _ _ _ _ (hM.eq (all14 rfl rfl (shP_s (P := P) (i := i)) rfl rfl rfl rfl rfl rfl rfl rfl rfl rfl rfl)) hf hP hD hS (lv_sub hl [0, 1] rfl)
    exact LP_7 (930 + 1) 0 (Nat.zero_le _) (by omega) _ _ _ _ (hM.eq (all14 rfl rfl (fil_0 (fun j => P (j + 186)) P).symm rfl rfl rfl rfl rfl rfl rfl rfl rfl rfl rfl)) hf hP hD hS (lv_sub hl [0, 1] rfl)

set_option maxHeartbeats 4000000 in
set_option maxRecDepth 100000 in
theorem m_needle (l : Launch) (E : NE) (ad : Nat → Nat) (st : NW) (b : Nat) (N P : Nat → Int32) (kp : Nat) (C : Nat → Int32) (n : Nat) (th : Int32) (J : Nat → Nat → Int32) (hkp : kp ≤ 6) (hn : n ≤ 60) (hO : okN N) (hM : isR E ad st b sM (mG N P kp C n th J)) (c d : Nat) (hc : c < 36) (hd : d < 8) : nMi l yX5_needle wsX5_needle (nRm 2 45) E ad st [.ref (ad b), .int (nI c), .int (nI d)] (fun r s1 => r = N (6 + c) ∧ (∃ J1, isR E ad s1 b sM (mG (upd N (6 + c) (nI d)) (svP P kp N) (svA kp) C n 0 J1)) ∧ fr b st s1) := by
  refine nSi (cc := cX5_needle) (maxL := 3) (by decide) rfl (Nat.le_of_ble_eq_true rfl) ?_
  intro pg en s mi ar bw mth cd R Q A ls hx hb hml hown hts hRm hP hK hD hZ hA hl hret
  subst hRm
  have hown : s.vm.findClass RX5 = some mi.cls := hown
  have hS : va_S A s.heap s.heap [] := va_S.rf
  have hl : lv_has ls 3 [(0, .ref (ad b)), (1, .int (nI c)), (2, .int (nI d))] := hl
  have hf : fr b st st := fr.rf
  have hdB := hO.1.b
  have hinX5 : ∀ w ∈ wsX50, w ∈ wsX5_needle := by decide +kernel
  refine lv_aload_n hx hb dX5_needle_0 rfl (lv_at hl 0 rfl) ?_
  refine lv_iconst (v := 0) hx hb dX5_needle_1 (by decide) ?_
  refine rp (v := 0) (ty := .int) (T := TX5) (N := 14) (C := RX5) hx hb hts hinX5 tyX5 tyX5_ok nmX5 hown hK hP hD hS hM rfl 6 (by decide) (hts (.fieldLink RX5 28 "NeedleGridModel" "thrown" "I") (by decide +kernel)) rfl rfl (by decide +kernel) rfl rfl dX5_needle_2 (fun s_1 H locs hM hf_2 hP hD hS => ?_)
  have hf := hf.tr hf_2
  refine lv_iload_n hx hb dX5_needle_5 rfl (lv_at hl 1 rfl) ?_
  refine nS_i (As := [.int (nI c)]) (rest := _) hx hb hml hown hts hP hK hD hZ hA hS ⟨Nat.zero_le _, Nat.zero_le _⟩ (m_isCell l E ad s_1 (nI c)) (va_cwS 1 hts gX5_needle_X5_isCell rfl rfl rfl (by decide +kernel) ⟨Nat.le_of_ble_eq_true rfl, Nat.le_of_ble_eq_true rfl⟩) hl.1 rfl (Nat.le_of_ble_eq_true rfl) dX5_needle_6 (fun r_3 s_4 H locs hq hP hD hS => ?_)
  obtain ⟨rfl, rfl⟩ := hq
  refine lv_if_ne (tgt := 18) hx hb dX5_needle_9 (by decide) (fun c9_4 => ?_) (fun c9_4 => absurd c9_4 (cell_ok hc))
  refine lv_iload_n hx hb dX5_needle_18 rfl (lv_at hl 2 rfl) ?_
  refine nS_i (As := [.int (nI d)]) (rest := _) hx hb hml hown hts hP hK hD hZ hA hS ⟨Nat.zero_le _, Nat.zero_le _⟩ (m_isDirection l E ad s_1 (nI d)) (va_cwS 1 hts gX5_needle_X5_isDirection rfl rfl rfl (by decide +kernel) ⟨Nat.le_of_ble_eq_true rfl, Nat.le_of_ble_eq_true rfl⟩) hl.1 rfl (Nat.le_of_ble_eq_true rfl) dX5_needle_19 (fun r_6 s_7 H locs hq hP hD hS => ?_)
  obtain ⟨rfl, rfl⟩ := hq
  refine lv_if_ne (tgt := 31) hx hb dX5_needle_22 (by decide) (fun c22_7 => ?_) (fun c22_7 => absurd c22_7 (dir_ok hd))
  refine lv_aload_n hx hb dX5_needle_31 rfl (lv_at hl 0 rfl) ?_
  refine nVv (As := []) (rest := _) hx hb hml hown hts hP hK hD hZ hA hS ⟨Nat.zero_le _, Nat.zero_le _⟩ hM.1 rfl (m_saves l E ad s_1 b N P kp C n 0 J hkp hn hO (hM.eq (all14 rfl rfl rfl rfl rfl rfl rfl rfl rfl rfl rfl rfl rfl rfl)) ) (cwV 0 hts gX5_needle_X5_saves rfl rfl rfl (by decide +kernel) ⟨Nat.le_of_ble_eq_true rfl, Nat.le_of_ble_eq_true rfl⟩) hl.1 rfl (Nat.le_of_ble_eq_true rfl) dX5_needle_32 (fun s_12 H locs hq hP hD hS => ?_)
  obtain ⟨⟨J_11, hM⟩, hf_10⟩ := hq
  have hf := hf.tr hf_10
  refine lv_aload_n hx hb dX5_needle_35 rfl (lv_at hl 0 rfl) ?_
  refine lv_bipush (v := 6) hx hb dX5_needle_36 (by decide) ?_
  refine lv_iload_n hx hb dX5_needle_38 rfl (lv_at hl 1 rfl) ?_
  refine lv_iadd hx hb dX5_needle_39 ?_
  rw [show 6 + nI c = nI (6 + c) from nI_add 6 c]
  refine lv_iload_n hx hb dX5_needle_40 rfl (lv_at hl 2 rfl) ?_
  refine nVi (As := [.int (nI (6 + c)), .int (nI d)]) (rest := _) hx hb hml hown hts hP hK hD hZ hA hS ⟨Nat.zero_le _, Nat.zero_le _⟩ hM.1 rfl (m_changes l E ad s_12 b (mG N (svP P kp N) (svA kp) C n 0 J_11) hM (6 + c) (by omega) (nI d)) (cwV 2 hts gX5_needle_X5_changes rfl rfl rfl (by decide +kernel) ⟨Nat.le_of_ble_eq_true rfl, Nat.le_of_ble_eq_true rfl⟩) hl.1 rfl (Nat.le_of_ble_eq_true rfl) dX5_needle_41 (fun r_13 s_15 H locs hq hP hD hS => ?_)
  obtain ⟨hrr_13, hM, hf_14⟩ := hq
  have hrr_13 : r_13 = N (6 + c) := hrr_13
  have hf := hf.tr hf_14
  exact hret _ _ _ _ _ _ hP hD hS (⟨hrr_13, ⟨J_11, hM.eq (all14 rfl rfl rfl rfl rfl rfl rfl rfl rfl rfl rfl rfl rfl rfl)⟩, hf⟩) dX5_needle_44

set_option maxHeartbeats 4000000 in
set_option maxRecDepth 100000 in
theorem m_needle_c (l : Launch) (E : NE) (ad : Nat → Nat) (st : NW) (b : Nat) (N P : Nat → Int32) (kp : Nat) (C : Nat → Int32) (n : Nat) (th : Int32) (J : Nat → Nat → Int32) (hkp : kp ≤ 6) (hn : n ≤ 60) (hO : okN N) (hM : isR E ad st b sM (mG N P kp C n th J)) (v : Int32) (hbad : inI v 0 35 = 0) (w : Int32) : nMi l yX5_needle wsX5_needle (nRm 2 45) E ad st [.ref (ad b), .int v, .int w] (fun r s1 => r = 0 ∧ (∃ J1, isR E ad s1 b sM (mG N P kp C n 1 J1)) ∧ fr b st s1) := by
  refine nSi (cc := cX5_needle) (maxL := 3) (by decide) rfl (Nat.le_of_ble_eq_true rfl) ?_
  intro pg en s mi ar bw mth cd R Q A ls hx hb hml hown hts hRm hP hK hD hZ hA hl hret
  subst hRm
  have hown : s.vm.findClass RX5 = some mi.cls := hown
  have hS : va_S A s.heap s.heap [] := va_S.rf
  have hl : lv_has ls 3 [(0, .ref (ad b)), (1, .int v), (2, .int w)] := hl
  have hf : fr b st st := fr.rf
  have hdB := hO.1.b
  have hinX5 : ∀ w ∈ wsX50, w ∈ wsX5_needle := by decide +kernel
  refine lv_aload_n hx hb dX5_needle_0 rfl (lv_at hl 0 rfl) ?_
  refine lv_iconst (v := 0) hx hb dX5_needle_1 (by decide) ?_
  refine rp (v := 0) (ty := .int) (T := TX5) (N := 14) (C := RX5) hx hb hts hinX5 tyX5 tyX5_ok nmX5 hown hK hP hD hS hM rfl 6 (by decide) (hts (.fieldLink RX5 28 "NeedleGridModel" "thrown" "I") (by decide +kernel)) rfl rfl (by decide +kernel) rfl rfl dX5_needle_2 (fun s_1 H locs hM hf_2 hP hD hS => ?_)
  have hf := hf.tr hf_2
  refine lv_iload_n hx hb dX5_needle_5 rfl (lv_at hl 1 rfl) ?_
  refine nS_i (As := [.int v]) (rest := _) hx hb hml hown hts hP hK hD hZ hA hS ⟨Nat.zero_le _, Nat.zero_le _⟩ (m_isCell l E ad s_1 v) (va_cwS 1 hts gX5_needle_X5_isCell rfl rfl rfl (by decide +kernel) ⟨Nat.le_of_ble_eq_true rfl, Nat.le_of_ble_eq_true rfl⟩) hl.1 rfl (Nat.le_of_ble_eq_true rfl) dX5_needle_6 (fun r_3 s_4 H locs hq hP hD hS => ?_)
  obtain ⟨rfl, rfl⟩ := hq
  refine lv_if_ne (tgt := 18) hx hb dX5_needle_9 (by decide) (fun c9_4 => absurd hbad c9_4) (fun c9_4 => ?_)
  refine lv_aload_n hx hb dX5_needle_12 rfl (lv_at hl 0 rfl) ?_
  refine lv_iconst (v := 1) hx hb dX5_needle_13 (by decide) ?_
  refine nVi (As := [.int 1]) (rest := _) hx hb hml hown hts hP hK hD hZ hA hS ⟨Nat.zero_le _, Nat.zero_le _⟩ hM.1 rfl (m_fails l E ad s_1 b (gu (mG N P kp C n th J) 6 (fun _ => 0)) hM 1) (cwV 1 hts gX5_needle_X5_fails rfl rfl rfl (by decide +kernel) ⟨Nat.le_of_ble_eq_true rfl, Nat.le_of_ble_eq_true rfl⟩) hl.1 rfl (Nat.le_of_ble_eq_true rfl) dX5_needle_14 (fun r_6 s_8 H locs hq hP hD hS => ?_)
  obtain ⟨hrr_6, hM, hf_7⟩ := hq
  have hrr_6 : r_6 = 0 := hrr_6
  have hf := hf.tr hf_7
  have hM : isR E ad s_8 b sM (gu (mG N P kp C n th J) 6 (fun _ => 1)) := hM.eq (all14 rfl rfl rfl rfl rfl rfl rfl rfl rfl rfl rfl rfl rfl rfl)
  exact hret _ _ _ _ _ _ hP hD hS (⟨hrr_6, ⟨J, hM.eq (all14 rfl rfl rfl rfl rfl rfl rfl rfl rfl rfl rfl rfl rfl rfl)⟩, hf⟩) dX5_needle_17

set_option maxHeartbeats 4000000 in
set_option maxRecDepth 100000 in
theorem m_needle_d (l : Launch) (E : NE) (ad : Nat → Nat) (st : NW) (b : Nat) (N P : Nat → Int32) (kp : Nat) (C : Nat → Int32) (n : Nat) (th : Int32) (J : Nat → Nat → Int32) (hkp : kp ≤ 6) (hn : n ≤ 60) (hO : okN N) (hM : isR E ad st b sM (mG N P kp C n th J)) (c : Nat) (hc : c < 36) (v : Int32) (hbad : inI v 0 7 = 0) : nMi l yX5_needle wsX5_needle (nRm 2 45) E ad st [.ref (ad b), .int (nI c), .int v] (fun r s1 => r = 0 ∧ (∃ J1, isR E ad s1 b sM (mG N P kp C n 2 J1)) ∧ fr b st s1) := by
  refine nSi (cc := cX5_needle) (maxL := 3) (by decide) rfl (Nat.le_of_ble_eq_true rfl) ?_
  intro pg en s mi ar bw mth cd R Q A ls hx hb hml hown hts hRm hP hK hD hZ hA hl hret
  subst hRm
  have hown : s.vm.findClass RX5 = some mi.cls := hown
  have hS : va_S A s.heap s.heap [] := va_S.rf
  have hl : lv_has ls 3 [(0, .ref (ad b)), (1, .int (nI c)), (2, .int v)] := hl
  have hf : fr b st st := fr.rf
  have hdB := hO.1.b
  have hinX5 : ∀ w ∈ wsX50, w ∈ wsX5_needle := by decide +kernel
  refine lv_aload_n hx hb dX5_needle_0 rfl (lv_at hl 0 rfl) ?_
  refine lv_iconst (v := 0) hx hb dX5_needle_1 (by decide) ?_
  refine rp (v := 0) (ty := .int) (T := TX5) (N := 14) (C := RX5) hx hb hts hinX5 tyX5 tyX5_ok nmX5 hown hK hP hD hS hM rfl 6 (by decide) (hts (.fieldLink RX5 28 "NeedleGridModel" "thrown" "I") (by decide +kernel)) rfl rfl (by decide +kernel) rfl rfl dX5_needle_2 (fun s_1 H locs hM hf_2 hP hD hS => ?_)
  have hf := hf.tr hf_2
  refine lv_iload_n hx hb dX5_needle_5 rfl (lv_at hl 1 rfl) ?_
  refine nS_i (As := [.int (nI c)]) (rest := _) hx hb hml hown hts hP hK hD hZ hA hS ⟨Nat.zero_le _, Nat.zero_le _⟩ (m_isCell l E ad s_1 (nI c)) (va_cwS 1 hts gX5_needle_X5_isCell rfl rfl rfl (by decide +kernel) ⟨Nat.le_of_ble_eq_true rfl, Nat.le_of_ble_eq_true rfl⟩) hl.1 rfl (Nat.le_of_ble_eq_true rfl) dX5_needle_6 (fun r_3 s_4 H locs hq hP hD hS => ?_)
  obtain ⟨rfl, rfl⟩ := hq
  refine lv_if_ne (tgt := 18) hx hb dX5_needle_9 (by decide) (fun c9_4 => ?_) (fun c9_4 => absurd c9_4 (cell_ok hc))
  refine lv_iload_n hx hb dX5_needle_18 rfl (lv_at hl 2 rfl) ?_
  refine nS_i (As := [.int v]) (rest := _) hx hb hml hown hts hP hK hD hZ hA hS ⟨Nat.zero_le _, Nat.zero_le _⟩ (m_isDirection l E ad s_1 v) (va_cwS 1 hts gX5_needle_X5_isDirection rfl rfl rfl (by decide +kernel) ⟨Nat.le_of_ble_eq_true rfl, Nat.le_of_ble_eq_true rfl⟩) hl.1 rfl (Nat.le_of_ble_eq_true rfl) dX5_needle_19 (fun r_6 s_7 H locs hq hP hD hS => ?_)
  obtain ⟨rfl, rfl⟩ := hq
  refine lv_if_ne (tgt := 31) hx hb dX5_needle_22 (by decide) (fun c22_7 => absurd hbad c22_7) (fun c22_7 => ?_)
  refine lv_aload_n hx hb dX5_needle_25 rfl (lv_at hl 0 rfl) ?_
  refine lv_iconst (v := 2) hx hb dX5_needle_26 (by decide) ?_
  refine nVi (As := [.int 2]) (rest := _) hx hb hml hown hts hP hK hD hZ hA hS ⟨Nat.zero_le _, Nat.zero_le _⟩ hM.1 rfl (m_fails l E ad s_1 b (gu (mG N P kp C n th J) 6 (fun _ => 0)) hM 2) (cwV 1 hts gX5_needle_X5_fails rfl rfl rfl (by decide +kernel) ⟨Nat.le_of_ble_eq_true rfl, Nat.le_of_ble_eq_true rfl⟩) hl.1 rfl (Nat.le_of_ble_eq_true rfl) dX5_needle_27 (fun r_9 s_11 H locs hq hP hD hS => ?_)
  obtain ⟨hrr_9, hM, hf_10⟩ := hq
  have hrr_9 : r_9 = 0 := hrr_9
  have hf := hf.tr hf_10
  have hM : isR E ad s_11 b sM (gu (mG N P kp C n th J) 6 (fun _ => 2)) := hM.eq (all14 rfl rfl rfl rfl rfl rfl rfl rfl rfl rfl rfl rfl rfl rfl)
  exact hret _ _ _ _ _ _ hP hD hS (⟨hrr_9, ⟨J, hM.eq (all14 rfl rfl rfl rfl rfl rfl rfl rfl rfl rfl rfl rfl rfl rfl)⟩, hf⟩) dX5_needle_30

set_option maxHeartbeats 4000000 in
set_option maxRecDepth 100000 in
theorem m_friction (l : Launch) (E : NE) (ad : Nat → Nat) (st : NW) (b : Nat) (N P : Nat → Int32) (kp : Nat) (C : Nat → Int32) (n : Nat) (th : Int32) (J : Nat → Nat → Int32) (hkp : kp ≤ 6) (hn : n ≤ 60) (hO : okN N) (hM : isR E ad st b sM (mG N P kp C n th J)) (c : Nat) (v : Int32) (hc : c < 36) (h1 : ¬ v < 0) (h2 : v ≤ 999) : nMi l yX5_friction wsX5_friction (nRm 2 45) E ad st [.ref (ad b), .int (nI c), .int v] (fun r s1 => r = N (42 + c) ∧ (∃ J1, isR E ad s1 b sM (mG (upd N (42 + c) v) (svP P kp N) (svA kp) C n 0 J1)) ∧ fr b st s1) := by
  refine nSi (cc := cX5_friction) (maxL := 3) (by decide) rfl (Nat.le_of_ble_eq_true rfl) ?_
  intro pg en s mi ar bw mth cd R Q A ls hx hb hml hown hts hRm hP hK hD hZ hA hl hret
  subst hRm
  have hown : s.vm.findClass RX5 = some mi.cls := hown
  have hS : va_S A s.heap s.heap [] := va_S.rf
  have hl : lv_has ls 3 [(0, .ref (ad b)), (1, .int (nI c)), (2, .int v)] := hl
  have hf : fr b st st := fr.rf
  have hdB := hO.1.b
  have hinX5 : ∀ w ∈ wsX50, w ∈ wsX5_friction := by decide +kernel
  refine lv_aload_n hx hb dX5_friction_0 rfl (lv_at hl 0 rfl) ?_
  refine lv_iconst (v := 0) hx hb dX5_friction_1 (by decide) ?_
  refine rp (v := 0) (ty := .int) (T := TX5) (N := 14) (C := RX5) hx hb hts hinX5 tyX5 tyX5_ok nmX5 hown hK hP hD hS hM rfl 6 (by decide) (hts (.fieldLink RX5 28 "NeedleGridModel" "thrown" "I") (by decide +kernel)) rfl rfl (by decide +kernel) rfl rfl dX5_friction_2 (fun s_1 H locs hM hf_2 hP hD hS => ?_)
  have hf := hf.tr hf_2
  refine lv_iload_n hx hb dX5_friction_5 rfl (lv_at hl 1 rfl) ?_
  refine nS_i (As := [.int (nI c)]) (rest := _) hx hb hml hown hts hP hK hD hZ hA hS ⟨Nat.zero_le _, Nat.zero_le _⟩ (m_isCell l E ad s_1 (nI c)) (va_cwS 1 hts gX5_friction_X5_isCell rfl rfl rfl (by decide +kernel) ⟨Nat.le_of_ble_eq_true rfl, Nat.le_of_ble_eq_true rfl⟩) hl.1 rfl (Nat.le_of_ble_eq_true rfl) dX5_friction_6 (fun r_3 s_4 H locs hq hP hD hS => ?_)
  obtain ⟨rfl, rfl⟩ := hq
  refine lv_if_ne (tgt := 18) hx hb dX5_friction_9 (by decide) (fun c9_4 => ?_) (fun c9_4 => absurd c9_4 (cell_ok hc))
  refine lv_iload_n hx hb dX5_friction_18 rfl (lv_at hl 2 rfl) ?_
  refine lv_iconst (v := 0) hx hb dX5_friction_19 (by decide) ?_
  refine lv_sipush (v := 999) hx hb dX5_friction_20 (by decide) ?_
  refine nS_i (As := [.int v, .int 0, .int 999]) (rest := _) hx hb hml hown hts hP hK hD hZ hA hS ⟨Nat.zero_le _, Nat.zero_le _⟩ (m_in l E ad s_1 v 0 999) (va_cwS 3 hts gX5_friction_X5_in rfl rfl rfl (by decide +kernel) ⟨Nat.le_of_ble_eq_true rfl, Nat.le_of_ble_eq_true rfl⟩) hl.1 rfl (Nat.le_of_ble_eq_true rfl) dX5_friction_23 (fun r_6 s_7 H locs hq hP hD hS => ?_)
  obtain ⟨rfl, rfl⟩ := hq
  refine lv_if_ne (tgt := 35) hx hb dX5_friction_26 (by decide) (fun c26_7 => ?_) (fun c26_7 => absurd c26_7 (inI_ok h1 (le_nlt h2)))
  refine lv_aload_n hx hb dX5_friction_35 rfl (lv_at hl 0 rfl) ?_
  refine nVv (As := []) (rest := _) hx hb hml hown hts hP hK hD hZ hA hS ⟨Nat.zero_le _, Nat.zero_le _⟩ hM.1 rfl (m_saves l E ad s_1 b N P kp C n 0 J hkp hn hO (hM.eq (all14 rfl rfl rfl rfl rfl rfl rfl rfl rfl rfl rfl rfl rfl rfl)) ) (cwV 0 hts gX5_friction_X5_saves rfl rfl rfl (by decide +kernel) ⟨Nat.le_of_ble_eq_true rfl, Nat.le_of_ble_eq_true rfl⟩) hl.1 rfl (Nat.le_of_ble_eq_true rfl) dX5_friction_36 (fun s_12 H locs hq hP hD hS => ?_)
  obtain ⟨⟨J_11, hM⟩, hf_10⟩ := hq
  have hf := hf.tr hf_10
  refine lv_aload_n hx hb dX5_friction_39 rfl (lv_at hl 0 rfl) ?_
  refine lv_bipush (v := 42) hx hb dX5_friction_40 (by decide) ?_
  refine lv_iload_n hx hb dX5_friction_42 rfl (lv_at hl 1 rfl) ?_
  refine lv_iadd hx hb dX5_friction_43 ?_
  rw [show 42 + nI c = nI (42 + c) from nI_add 42 c]
  refine lv_iload_n hx hb dX5_friction_44 rfl (lv_at hl 2 rfl) ?_
  refine nVi (As := [.int (nI (42 + c)), .int v]) (rest := _) hx hb hml hown hts hP hK hD hZ hA hS ⟨Nat.zero_le _, Nat.zero_le _⟩ hM.1 rfl (m_changes l E ad s_12 b (mG N (svP P kp N) (svA kp) C n 0 J_11) hM (42 + c) (by omega) v) (cwV 2 hts gX5_friction_X5_changes rfl rfl rfl (by decide +kernel) ⟨Nat.le_of_ble_eq_true rfl, Nat.le_of_ble_eq_true rfl⟩) hl.1 rfl (Nat.le_of_ble_eq_true rfl) dX5_friction_45 (fun r_13 s_15 H locs hq hP hD hS => ?_)
  obtain ⟨hrr_13, hM, hf_14⟩ := hq
  have hrr_13 : r_13 = N (42 + c) := hrr_13
  have hf := hf.tr hf_14
  exact hret _ _ _ _ _ _ hP hD hS (⟨hrr_13, ⟨J_11, hM.eq (all14 rfl rfl rfl rfl rfl rfl rfl rfl rfl rfl rfl rfl rfl rfl)⟩, hf⟩) dX5_friction_48

set_option maxHeartbeats 4000000 in
set_option maxRecDepth 100000 in
theorem m_friction_c (l : Launch) (E : NE) (ad : Nat → Nat) (st : NW) (b : Nat) (N P : Nat → Int32) (kp : Nat) (C : Nat → Int32) (n : Nat) (th : Int32) (J : Nat → Nat → Int32) (hkp : kp ≤ 6) (hn : n ≤ 60) (hO : okN N) (hM : isR E ad st b sM (mG N P kp C n th J)) (v : Int32) (hbad : inI v 0 35 = 0) (w : Int32) : nMi l yX5_friction wsX5_friction (nRm 2 45) E ad st [.ref (ad b), .int v, .int w] (fun r s1 => r = 0 ∧ (∃ J1, isR E ad s1 b sM (mG N P kp C n 1 J1)) ∧ fr b st s1) := by
  refine nSi (cc := cX5_friction) (maxL := 3) (by decide) rfl (Nat.le_of_ble_eq_true rfl) ?_
  intro pg en s mi ar bw mth cd R Q A ls hx hb hml hown hts hRm hP hK hD hZ hA hl hret
  subst hRm
  have hown : s.vm.findClass RX5 = some mi.cls := hown
  have hS : va_S A s.heap s.heap [] := va_S.rf
  have hl : lv_has ls 3 [(0, .ref (ad b)), (1, .int v), (2, .int w)] := hl
  have hf : fr b st st := fr.rf
  have hdB := hO.1.b
  have hinX5 : ∀ w ∈ wsX50, w ∈ wsX5_friction := by decide +kernel
  refine lv_aload_n hx hb dX5_friction_0 rfl (lv_at hl 0 rfl) ?_
  refine lv_iconst (v := 0) hx hb dX5_friction_1 (by decide) ?_
  refine rp (v := 0) (ty := .int) (T := TX5) (N := 14) (C := RX5) hx hb hts hinX5 tyX5 tyX5_ok nmX5 hown hK hP hD hS hM rfl 6 (by decide) (hts (.fieldLink RX5 28 "NeedleGridModel" "thrown" "I") (by decide +kernel)) rfl rfl (by decide +kernel) rfl rfl dX5_friction_2 (fun s_1 H locs hM hf_2 hP hD hS => ?_)
  have hf := hf.tr hf_2
  refine lv_iload_n hx hb dX5_friction_5 rfl (lv_at hl 1 rfl) ?_
  refine nS_i (As := [.int v]) (rest := _) hx hb hml hown hts hP hK hD hZ hA hS ⟨Nat.zero_le _, Nat.zero_le _⟩ (m_isCell l E ad s_1 v) (va_cwS 1 hts gX5_friction_X5_isCell rfl rfl rfl (by decide +kernel) ⟨Nat.le_of_ble_eq_true rfl, Nat.le_of_ble_eq_true rfl⟩) hl.1 rfl (Nat.le_of_ble_eq_true rfl) dX5_friction_6 (fun r_3 s_4 H locs hq hP hD hS => ?_)
  obtain ⟨rfl, rfl⟩ := hq
  refine lv_if_ne (tgt := 18) hx hb dX5_friction_9 (by decide) (fun c9_4 => absurd hbad c9_4) (fun c9_4 => ?_)
  refine lv_aload_n hx hb dX5_friction_12 rfl (lv_at hl 0 rfl) ?_
  refine lv_iconst (v := 1) hx hb dX5_friction_13 (by decide) ?_
  refine nVi (As := [.int 1]) (rest := _) hx hb hml hown hts hP hK hD hZ hA hS ⟨Nat.zero_le _, Nat.zero_le _⟩ hM.1 rfl (m_fails l E ad s_1 b (gu (mG N P kp C n th J) 6 (fun _ => 0)) hM 1) (cwV 1 hts gX5_friction_X5_fails rfl rfl rfl (by decide +kernel) ⟨Nat.le_of_ble_eq_true rfl, Nat.le_of_ble_eq_true rfl⟩) hl.1 rfl (Nat.le_of_ble_eq_true rfl) dX5_friction_14 (fun r_6 s_8 H locs hq hP hD hS => ?_)
  obtain ⟨hrr_6, hM, hf_7⟩ := hq
  have hrr_6 : r_6 = 0 := hrr_6
  have hf := hf.tr hf_7
  have hM : isR E ad s_8 b sM (gu (mG N P kp C n th J) 6 (fun _ => 1)) := hM.eq (all14 rfl rfl rfl rfl rfl rfl rfl rfl rfl rfl rfl rfl rfl rfl)
  exact hret _ _ _ _ _ _ hP hD hS (⟨hrr_6, ⟨J, hM.eq (all14 rfl rfl rfl rfl rfl rfl rfl rfl rfl rfl rfl rfl rfl rfl)⟩, hf⟩) dX5_friction_17

set_option maxHeartbeats 4000000 in
set_option maxRecDepth 100000 in
theorem m_friction_v (l : Launch) (E : NE) (ad : Nat → Nat) (st : NW) (b : Nat) (N P : Nat → Int32) (kp : Nat) (C : Nat → Int32) (n : Nat) (th : Int32) (J : Nat → Nat → Int32) (hkp : kp ≤ 6) (hn : n ≤ 60) (hO : okN N) (hM : isR E ad st b sM (mG N P kp C n th J)) (c : Nat) (hc : c < 36) (v : Int32) (hbad : inI v 0 999 = 0) : nMi l yX5_friction wsX5_friction (nRm 2 45) E ad st [.ref (ad b), .int (nI c), .int v] (fun r s1 => r = 0 ∧ (∃ J1, isR E ad s1 b sM (mG N P kp C n 2 J1)) ∧ fr b st s1) := by
  refine nSi (cc := cX5_friction) (maxL := 3) (by decide) rfl (Nat.le_of_ble_eq_true rfl) ?_
  intro pg en s mi ar bw mth cd R Q A ls hx hb hml hown hts hRm hP hK hD hZ hA hl hret
  subst hRm
  have hown : s.vm.findClass RX5 = some mi.cls := hown
  have hS : va_S A s.heap s.heap [] := va_S.rf
  have hl : lv_has ls 3 [(0, .ref (ad b)), (1, .int (nI c)), (2, .int v)] := hl
  have hf : fr b st st := fr.rf
  have hdB := hO.1.b
  have hinX5 : ∀ w ∈ wsX50, w ∈ wsX5_friction := by decide +kernel
  refine lv_aload_n hx hb dX5_friction_0 rfl (lv_at hl 0 rfl) ?_
  refine lv_iconst (v := 0) hx hb dX5_friction_1 (by decide) ?_
  refine rp (v := 0) (ty := .int) (T := TX5) (N := 14) (C := RX5) hx hb hts hinX5 tyX5 tyX5_ok nmX5 hown hK hP hD hS hM rfl 6 (by decide) (hts (.fieldLink RX5 28 "NeedleGridModel" "thrown" "I") (by decide +kernel)) rfl rfl (by decide +kernel) rfl rfl dX5_friction_2 (fun s_1 H locs hM hf_2 hP hD hS => ?_)
  have hf := hf.tr hf_2
  refine lv_iload_n hx hb dX5_friction_5 rfl (lv_at hl 1 rfl) ?_
  refine nS_i (As := [.int (nI c)]) (rest := _) hx hb hml hown hts hP hK hD hZ hA hS ⟨Nat.zero_le _, Nat.zero_le _⟩ (m_isCell l E ad s_1 (nI c)) (va_cwS 1 hts gX5_friction_X5_isCell rfl rfl rfl (by decide +kernel) ⟨Nat.le_of_ble_eq_true rfl, Nat.le_of_ble_eq_true rfl⟩) hl.1 rfl (Nat.le_of_ble_eq_true rfl) dX5_friction_6 (fun r_3 s_4 H locs hq hP hD hS => ?_)
  obtain ⟨rfl, rfl⟩ := hq
  refine lv_if_ne (tgt := 18) hx hb dX5_friction_9 (by decide) (fun c9_4 => ?_) (fun c9_4 => absurd c9_4 (cell_ok hc))
  refine lv_iload_n hx hb dX5_friction_18 rfl (lv_at hl 2 rfl) ?_
  refine lv_iconst (v := 0) hx hb dX5_friction_19 (by decide) ?_
  refine lv_sipush (v := 999) hx hb dX5_friction_20 (by decide) ?_
  refine nS_i (As := [.int v, .int 0, .int 999]) (rest := _) hx hb hml hown hts hP hK hD hZ hA hS ⟨Nat.zero_le _, Nat.zero_le _⟩ (m_in l E ad s_1 v 0 999) (va_cwS 3 hts gX5_friction_X5_in rfl rfl rfl (by decide +kernel) ⟨Nat.le_of_ble_eq_true rfl, Nat.le_of_ble_eq_true rfl⟩) hl.1 rfl (Nat.le_of_ble_eq_true rfl) dX5_friction_23 (fun r_6 s_7 H locs hq hP hD hS => ?_)
  obtain ⟨rfl, rfl⟩ := hq
  refine lv_if_ne (tgt := 35) hx hb dX5_friction_26 (by decide) (fun c26_7 => absurd hbad c26_7) (fun c26_7 => ?_)
  refine lv_aload_n hx hb dX5_friction_29 rfl (lv_at hl 0 rfl) ?_
  refine lv_iconst (v := 2) hx hb dX5_friction_30 (by decide) ?_
  refine nVi (As := [.int 2]) (rest := _) hx hb hml hown hts hP hK hD hZ hA hS ⟨Nat.zero_le _, Nat.zero_le _⟩ hM.1 rfl (m_fails l E ad s_1 b (gu (mG N P kp C n th J) 6 (fun _ => 0)) hM 2) (cwV 1 hts gX5_friction_X5_fails rfl rfl rfl (by decide +kernel) ⟨Nat.le_of_ble_eq_true rfl, Nat.le_of_ble_eq_true rfl⟩) hl.1 rfl (Nat.le_of_ble_eq_true rfl) dX5_friction_31 (fun r_9 s_11 H locs hq hP hD hS => ?_)
  obtain ⟨hrr_9, hM, hf_10⟩ := hq
  have hrr_9 : r_9 = 0 := hrr_9
  have hf := hf.tr hf_10
  have hM : isR E ad s_11 b sM (gu (mG N P kp C n th J) 6 (fun _ => 2)) := hM.eq (all14 rfl rfl rfl rfl rfl rfl rfl rfl rfl rfl rfl rfl rfl rfl)
  exact hret _ _ _ _ _ _ hP hD hS (⟨hrr_9, ⟨J, hM.eq (all14 rfl rfl rfl rfl rfl rfl rfl rfl rfl rfl rfl rfl rfl rfl)⟩, hf⟩) dX5_friction_34

set_option maxHeartbeats 4000000 in
set_option maxRecDepth 100000 in
theorem m_hold (l : Launch) (E : NE) (ad : Nat → Nat) (st : NW) (b : Nat) (N P : Nat → Int32) (kp : Nat) (C : Nat → Int32) (n : Nat) (th : Int32) (J : Nat → Nat → Int32) (hkp : kp ≤ 6) (hn : n ≤ 60) (hO : okN N) (hM : isR E ad st b sM (mG N P kp C n th J)) (c : Nat) (v : Int32) (hc : c < 36) (hv : v = 0 ∨ v = 1) : nMi l yX5_hold wsX5_hold (nRm 2 45) E ad st [.ref (ad b), .int (nI c), .int v] (fun r s1 => r = N (78 + c) ∧ (∃ J1, isR E ad s1 b sM (mG (upd N (78 + c) v) (svP P kp N) (svA kp) C n 0 J1)) ∧ fr b st s1) := by
  refine nSi (cc := cX5_hold) (maxL := 3) (by decide) rfl (Nat.le_of_ble_eq_true rfl) ?_
  intro pg en s mi ar bw mth cd R Q A ls hx hb hml hown hts hRm hP hK hD hZ hA hl hret
  subst hRm
  have hown : s.vm.findClass RX5 = some mi.cls := hown
  have hS : va_S A s.heap s.heap [] := va_S.rf
  have hl : lv_has ls 3 [(0, .ref (ad b)), (1, .int (nI c)), (2, .int v)] := hl
  have hf : fr b st st := fr.rf
  have hdB := hO.1.b
  have hinX5 : ∀ w ∈ wsX50, w ∈ wsX5_hold := by decide +kernel
  refine lv_aload_n hx hb dX5_hold_0 rfl (lv_at hl 0 rfl) ?_
  refine lv_iconst (v := 0) hx hb dX5_hold_1 (by decide) ?_
  refine rp (v := 0) (ty := .int) (T := TX5) (N := 14) (C := RX5) hx hb hts hinX5 tyX5 tyX5_ok nmX5 hown hK hP hD hS hM rfl 6 (by decide) (hts (.fieldLink RX5 28 "NeedleGridModel" "thrown" "I") (by decide +kernel)) rfl rfl (by decide +kernel) rfl rfl dX5_hold_2 (fun s_1 H locs hM hf_2 hP hD hS => ?_)
  have hf := hf.tr hf_2
  refine lv_iload_n hx hb dX5_hold_5 rfl (lv_at hl 1 rfl) ?_
  refine nS_i (As := [.int (nI c)]) (rest := _) hx hb hml hown hts hP hK hD hZ hA hS ⟨Nat.zero_le _, Nat.zero_le _⟩ (m_isCell l E ad s_1 (nI c)) (va_cwS 1 hts gX5_hold_X5_isCell rfl rfl rfl (by decide +kernel) ⟨Nat.le_of_ble_eq_true rfl, Nat.le_of_ble_eq_true rfl⟩) hl.1 rfl (Nat.le_of_ble_eq_true rfl) dX5_hold_6 (fun r_3 s_4 H locs hq hP hD hS => ?_)
  obtain ⟨rfl, rfl⟩ := hq
  refine lv_if_ne (tgt := 18) hx hb dX5_hold_9 (by decide) (fun c9_4 => ?_) (fun c9_4 => absurd c9_4 (cell_ok hc))
  refine lv_aload_n hx hb dX5_hold_18 rfl (lv_at hl 0 rfl) ?_
  refine nVv (As := []) (rest := _) hx hb hml hown hts hP hK hD hZ hA hS ⟨Nat.zero_le _, Nat.zero_le _⟩ hM.1 rfl (m_saves l E ad s_1 b N P kp C n 0 J hkp hn hO (hM.eq (all14 rfl rfl rfl rfl rfl rfl rfl rfl rfl rfl rfl rfl rfl rfl)) ) (cwV 0 hts gX5_hold_X5_saves rfl rfl rfl (by decide +kernel) ⟨Nat.le_of_ble_eq_true rfl, Nat.le_of_ble_eq_true rfl⟩) hl.1 rfl (Nat.le_of_ble_eq_true rfl) dX5_hold_19 (fun s_9 H locs hq hP hD hS => ?_)
  obtain ⟨⟨J_8, hM⟩, hf_7⟩ := hq
  have hf := hf.tr hf_7
  refine lv_aload_n hx hb dX5_hold_22 rfl (lv_at hl 0 rfl) ?_
  refine lv_bipush (v := 78) hx hb dX5_hold_23 (by decide) ?_
  refine lv_iload_n hx hb dX5_hold_25 rfl (lv_at hl 1 rfl) ?_
  refine lv_iadd hx hb dX5_hold_26 ?_
  rw [show 78 + nI c = nI (78 + c) from nI_add 78 c]
  refine lv_iload_n hx hb dX5_hold_27 rfl (lv_at hl 2 rfl) ?_
  refine lv_if_eq (tgt := 35) hx hb dX5_hold_28 (by decide) (fun c28_9 => ?_) (fun c28_9 => ?_)
  · refine lv_iconst (v := 0) hx hb dX5_hold_35 (by decide) ?_
    refine nVi (As := [.int (nI (78 + c)), .int 0]) (rest := _) hx hb hml hown hts hP hK hD hZ hA hS ⟨Nat.zero_le _, Nat.zero_le _⟩ hM.1 rfl (m_changes l E ad s_9 b (mG N (svP P kp N) (svA kp) C n 0 J_8) hM (78 + c) (by omega) 0) (cwV 2 hts gX5_hold_X5_changes rfl rfl rfl (by decide +kernel) ⟨Nat.le_of_ble_eq_true rfl, Nat.le_of_ble_eq_true rfl⟩) hl.1 rfl (Nat.le_of_ble_eq_true rfl) dX5_hold_36 (fun r_11 s_13 H locs hq hP hD hS => ?_)
    obtain ⟨hrr_11, hM, hf_12⟩ := hq
    have hrr_11 : r_11 = N (78 + c) := hrr_11
    have hf := hf.tr hf_12
    exact hret _ _ _ _ _ _ hP hD hS (⟨hrr_11, ⟨J_8, hM.eq (all14 (show upd N (78 + c) v = upd N (78 + c) 0 by rw [c28_9]).symm rfl rfl rfl rfl rfl rfl rfl rfl rfl rfl rfl rfl rfl)⟩, hf⟩) dX5_hold_39
  · refine lv_iconst (v := 1) hx hb dX5_hold_31 (by decide) ?_
    refine lv_goto (tgt := 36) hx hb dX5_hold_32 (by decide) ?_
    refine nVi (As := [.int (nI (78 + c)), .int 1]) (rest := _) hx hb hml hown hts hP hK hD hZ hA hS ⟨Nat.zero_le _, Nat.zero_le _⟩ hM.1 rfl (m_changes l E ad s_9 b (mG N (svP P kp N) (svA kp) C n 0 J_8) hM (78 + c) (by omega) 1) (cwV 2 hts gX5_hold_X5_changes rfl rfl rfl (by decide +kernel) ⟨Nat.le_of_ble_eq_true rfl, Nat.le_of_ble_eq_true rfl⟩) hl.1 rfl (Nat.le_of_ble_eq_true rfl) dX5_hold_36 (fun r_14 s_16 H locs hq hP hD hS => ?_)
    obtain ⟨hrr_14, hM, hf_15⟩ := hq
    have hrr_14 : r_14 = N (78 + c) := hrr_14
    have hf := hf.tr hf_15
    exact hret _ _ _ _ _ _ hP hD hS (⟨hrr_14, ⟨J_8, hM.eq (all14 (show upd N (78 + c) v = upd N (78 + c) 1 by rw [hv.resolve_left c28_9]).symm rfl rfl rfl rfl rfl rfl rfl rfl rfl rfl rfl rfl rfl)⟩, hf⟩) dX5_hold_39

set_option maxHeartbeats 4000000 in
set_option maxRecDepth 100000 in
theorem m_hold_c (l : Launch) (E : NE) (ad : Nat → Nat) (st : NW) (b : Nat) (N P : Nat → Int32) (kp : Nat) (C : Nat → Int32) (n : Nat) (th : Int32) (J : Nat → Nat → Int32) (hkp : kp ≤ 6) (hn : n ≤ 60) (hO : okN N) (hM : isR E ad st b sM (mG N P kp C n th J)) (v : Int32) (hbad : inI v 0 35 = 0) (w : Int32) : nMi l yX5_hold wsX5_hold (nRm 2 45) E ad st [.ref (ad b), .int v, .int w] (fun r s1 => r = 0 ∧ (∃ J1, isR E ad s1 b sM (mG N P kp C n 1 J1)) ∧ fr b st s1) := by
  refine nSi (cc := cX5_hold) (maxL := 3) (by decide) rfl (Nat.le_of_ble_eq_true rfl) ?_
  intro pg en s mi ar bw mth cd R Q A ls hx hb hml hown hts hRm hP hK hD hZ hA hl hret
  subst hRm
  have hown : s.vm.findClass RX5 = some mi.cls := hown
  have hS : va_S A s.heap s.heap [] := va_S.rf
  have hl : lv_has ls 3 [(0, .ref (ad b)), (1, .int v), (2, .int w)] := hl
  have hf : fr b st st := fr.rf
  have hdB := hO.1.b
  have hinX5 : ∀ w ∈ wsX50, w ∈ wsX5_hold := by decide +kernel
  refine lv_aload_n hx hb dX5_hold_0 rfl (lv_at hl 0 rfl) ?_
  refine lv_iconst (v := 0) hx hb dX5_hold_1 (by decide) ?_
  refine rp (v := 0) (ty := .int) (T := TX5) (N := 14) (C := RX5) hx hb hts hinX5 tyX5 tyX5_ok nmX5 hown hK hP hD hS hM rfl 6 (by decide) (hts (.fieldLink RX5 28 "NeedleGridModel" "thrown" "I") (by decide +kernel)) rfl rfl (by decide +kernel) rfl rfl dX5_hold_2 (fun s_1 H locs hM hf_2 hP hD hS => ?_)
  have hf := hf.tr hf_2
  refine lv_iload_n hx hb dX5_hold_5 rfl (lv_at hl 1 rfl) ?_
  refine nS_i (As := [.int v]) (rest := _) hx hb hml hown hts hP hK hD hZ hA hS ⟨Nat.zero_le _, Nat.zero_le _⟩ (m_isCell l E ad s_1 v) (va_cwS 1 hts gX5_hold_X5_isCell rfl rfl rfl (by decide +kernel) ⟨Nat.le_of_ble_eq_true rfl, Nat.le_of_ble_eq_true rfl⟩) hl.1 rfl (Nat.le_of_ble_eq_true rfl) dX5_hold_6 (fun r_3 s_4 H locs hq hP hD hS => ?_)
  obtain ⟨rfl, rfl⟩ := hq
  refine lv_if_ne (tgt := 18) hx hb dX5_hold_9 (by decide) (fun c9_4 => absurd hbad c9_4) (fun c9_4 => ?_)
  refine lv_aload_n hx hb dX5_hold_12 rfl (lv_at hl 0 rfl) ?_
  refine lv_iconst (v := 1) hx hb dX5_hold_13 (by decide) ?_
  refine nVi (As := [.int 1]) (rest := _) hx hb hml hown hts hP hK hD hZ hA hS ⟨Nat.zero_le _, Nat.zero_le _⟩ hM.1 rfl (m_fails l E ad s_1 b (gu (mG N P kp C n th J) 6 (fun _ => 0)) hM 1) (cwV 1 hts gX5_hold_X5_fails rfl rfl rfl (by decide +kernel) ⟨Nat.le_of_ble_eq_true rfl, Nat.le_of_ble_eq_true rfl⟩) hl.1 rfl (Nat.le_of_ble_eq_true rfl) dX5_hold_14 (fun r_6 s_8 H locs hq hP hD hS => ?_)
  obtain ⟨hrr_6, hM, hf_7⟩ := hq
  have hrr_6 : r_6 = 0 := hrr_6
  have hf := hf.tr hf_7
  have hM : isR E ad s_8 b sM (gu (mG N P kp C n th J) 6 (fun _ => 1)) := hM.eq (all14 rfl rfl rfl rfl rfl rfl rfl rfl rfl rfl rfl rfl rfl rfl)
  exact hret _ _ _ _ _ _ hP hD hS (⟨hrr_6, ⟨J, hM.eq (all14 rfl rfl rfl rfl rfl rfl rfl rfl rfl rfl rfl rfl rfl rfl)⟩, hf⟩) dX5_hold_17

set_option maxHeartbeats 4000000 in
set_option maxRecDepth 100000 in
theorem m_swap (l : Launch) (E : NE) (ad : Nat → Nat) (st : NW) (b : Nat) (N P : Nat → Int32) (kp : Nat) (C : Nat → Int32) (n : Nat) (th : Int32) (J : Nat → Nat → Int32) (hkp : kp ≤ 6) (hn : n ≤ 60) (hO : okN N) (hM : isR E ad st b sM (mG N P kp C n th J)) (c o : Nat) (hc : c < 36) (ho : o < 36) : nMi l yX5_swap wsX5_swap (nRm 2 45) E ad st [.ref (ad b), .int (nI c), .int (nI o)] (fun r s1 => r = swpN N c o (6 + c) ∧ (∃ J1, isR E ad s1 b sM (mG (swpN N c o) (svP P kp N) (svA kp) C n 0 J1)) ∧ fr b st s1) := by
  refine nSi (cc := cX5_swap) (maxL := 3) (by decide) rfl (Nat.le_of_ble_eq_true rfl) ?_
  intro pg en s mi ar bw mth cd R Q A ls hx hb hml hown hts hRm hP hK hD hZ hA hl hret
  subst hRm
  have hown : s.vm.findClass RX5 = some mi.cls := hown
  have hS : va_S A s.heap s.heap [] := va_S.rf
  have hl : lv_has ls 3 [(0, .ref (ad b)), (1, .int (nI c)), (2, .int (nI o))] := hl
  have hf : fr b st st := fr.rf
  have hdB := hO.1.b
  have hinX5 : ∀ w ∈ wsX50, w ∈ wsX5_swap := by decide +kernel
  refine lv_aload_n hx hb dX5_swap_0 rfl (lv_at hl 0 rfl) ?_
  refine lv_iconst (v := 0) hx hb dX5_swap_1 (by decide) ?_
  refine rp (v := 0) (ty := .int) (T := TX5) (N := 14) (C := RX5) hx hb hts hinX5 tyX5 tyX5_ok nmX5 hown hK hP hD hS hM rfl 6 (by decide) (hts (.fieldLink RX5 28 "NeedleGridModel" "thrown" "I") (by decide +kernel)) rfl rfl (by decide +kernel) rfl rfl dX5_swap_2 (fun s_1 H locs hM hf_2 hP hD hS => ?_)
  have hf := hf.tr hf_2
  refine lv_iload_n hx hb dX5_swap_5 rfl (lv_at hl 1 rfl) ?_
  refine nS_i (As := [.int (nI c)]) (rest := _) hx hb hml hown hts hP hK hD hZ hA hS ⟨Nat.zero_le _, Nat.zero_le _⟩ (m_isCell l E ad s_1 (nI c)) (va_cwS 1 hts gX5_swap_X5_isCell rfl rfl rfl (by decide +kernel) ⟨Nat.le_of_ble_eq_true rfl, Nat.le_of_ble_eq_true rfl⟩) hl.1 rfl (Nat.le_of_ble_eq_true rfl) dX5_swap_6 (fun r_3 s_4 H locs hq hP hD hS => ?_)
  obtain ⟨rfl, rfl⟩ := hq
  refine lv_if_eq (tgt := 19) hx hb dX5_swap_9 (by decide) (fun c9_4 => absurd c9_4 (cell_ok hc)) (fun c9_4 => ?_)
  refine lv_iload_n hx hb dX5_swap_12 rfl (lv_at hl 2 rfl) ?_
  refine nS_i (As := [.int (nI o)]) (rest := _) hx hb hml hown hts hP hK hD hZ hA hS ⟨Nat.zero_le _, Nat.zero_le _⟩ (m_isCell l E ad s_1 (nI o)) (va_cwS 1 hts gX5_swap_X5_isCell rfl rfl rfl (by decide +kernel) ⟨Nat.le_of_ble_eq_true rfl, Nat.le_of_ble_eq_true rfl⟩) hl.1 rfl (Nat.le_of_ble_eq_true rfl) dX5_swap_13 (fun r_6 s_7 H locs hq hP hD hS => ?_)
  obtain ⟨rfl, rfl⟩ := hq
  refine lv_if_ne (tgt := 25) hx hb dX5_swap_16 (by decide) (fun c16_7 => ?_) (fun c16_7 => absurd c16_7 (cell_ok ho))
  refine lv_aload_n hx hb dX5_swap_25 rfl (lv_at hl 0 rfl) ?_
  refine nVv (As := []) (rest := _) hx hb hml hown hts hP hK hD hZ hA hS ⟨Nat.zero_le _, Nat.zero_le _⟩ hM.1 rfl (m_saves l E ad s_1 b N P kp C n 0 J hkp hn hO (hM.eq (all14 rfl rfl rfl rfl rfl rfl rfl rfl rfl rfl rfl rfl rfl rfl)) ) (cwV 0 hts gX5_swap_X5_saves rfl rfl rfl (by decide +kernel) ⟨Nat.le_of_ble_eq_true rfl, Nat.le_of_ble_eq_true rfl⟩) hl.1 rfl (Nat.le_of_ble_eq_true rfl) dX5_swap_26 (fun s_12 H locs hq hP hD hS => ?_)
  obtain ⟨⟨J_11, hM⟩, hf_10⟩ := hq
  have hf := hf.tr hf_10
  refine lv_aload_n hx hb dX5_swap_29 rfl (lv_at hl 0 rfl) ?_
  refine lv_bipush (v := 6) hx hb dX5_swap_30 (by decide) ?_
  refine lv_iload_n hx hb dX5_swap_32 rfl (lv_at hl 2 rfl) ?_
  refine lv_iadd hx hb dX5_swap_33 ?_
  rw [show 6 + nI o = nI (6 + o) from nI_add 6 o]
  refine lv_aload_n hx hb dX5_swap_34 rfl (lv_at hl 0 rfl) ?_
  refine lv_bipush (v := 6) hx hb dX5_swap_35 (by decide) ?_
  refine lv_iload_n hx hb dX5_swap_37 rfl (lv_at hl 1 rfl) ?_
  refine lv_iadd hx hb dX5_swap_38 ?_
  rw [show 6 + nI c = nI (6 + c) from nI_add 6 c]
  refine lv_aload_n hx hb dX5_swap_39 rfl (lv_at hl 0 rfl) ?_
  refine rg (v := .ref (ad (b + 1 + 0))) (T := TX5) (N := 14) (C := RX5) hx hb hts hinX5 hown hK hP hM rfl 0 (by decide) (hts (.fieldLink RX5 7 "NeedleGridModel" "now" "[I") (by decide +kernel)) rfl dX5_swap_40 ?_
  refine lv_bipush (v := 6) hx hb dX5_swap_43 (by decide) ?_
  refine lv_iload_n hx hb dX5_swap_45 rfl (lv_at hl 2 rfl) ?_
  refine lv_iadd hx hb dX5_swap_46 ?_
  rw [show 6 + nI o = nI (6 + o) from nI_add 6 o]
  refine ra (j := (6 + o)) (n := 186) hx hb hK hP hM 0 rfl (by omega) (by decide) dX5_swap_47 ?_
  refine nVi (As := [.int (nI (6 + c)), .int (N (6 + o))]) (rest := _) hx hb hml hown hts hP hK hD hZ hA hS ⟨Nat.zero_le _, Nat.zero_le _⟩ hM.1 rfl (m_changes l E ad s_12 b (mG N (svP P kp N) (svA kp) C n 0 J_11) hM (6 + c) (by omega) (N (6 + o))) (cwV 2 hts gX5_swap_X5_changes rfl rfl rfl (by decide +kernel) ⟨Nat.le_of_ble_eq_true rfl, Nat.le_of_ble_eq_true rfl⟩) hl.1 rfl (Nat.le_of_ble_eq_true rfl) dX5_swap_48 (fun r_13 s_15 H locs hq hP hD hS => ?_)
  obtain ⟨hrr_13, hM, hf_14⟩ := hq
  have hrr_13 : r_13 = N (6 + c) := hrr_13
  have hf := hf.tr hf_14
  refine nVi (As := [.int (nI (6 + o)), .int r_13]) (rest := _) hx hb hml hown hts hP hK hD hZ hA hS ⟨Nat.zero_le _, Nat.zero_le _⟩ hM.1 rfl (m_changes l E ad s_15 b (gu (mG N (svP P kp N) (svA kp) C n 0 J_11) 0 (upd N (6 + c) (N (6 + o)))) hM (6 + o) (by omega) r_13) (cwV 2 hts gX5_swap_X5_changes rfl rfl rfl (by decide +kernel) ⟨Nat.le_of_ble_eq_true rfl, Nat.le_of_ble_eq_true rfl⟩) hl.1 rfl (Nat.le_of_ble_eq_true rfl) dX5_swap_51 (fun r_16 s_18 H locs hq hP hD hS => ?_)
  obtain ⟨hrr_16, hM, hf_17⟩ := hq
  have hrr_16 : r_16 = (upd N (6 + c) (N (6 + o))) (6 + o) := hrr_16
  have hf := hf.tr hf_17
  have hM : isR E ad s_18 b sM (gu (mG N (svP P kp N) (svA kp) C n 0 J_11) 0 (upd (upd N (6 + c) (N (6 + o))) (6 + o) r_13)) := hM.eq (all14 rfl rfl rfl rfl rfl rfl rfl rfl rfl rfl rfl rfl rfl rfl)
  refine lv_pop hx hb dX5_swap_54 rfl ?_
  refine lv_aload_n hx hb dX5_swap_55 rfl (lv_at hl 0 rfl) ?_
  refine lv_bipush (v := 42) hx hb dX5_swap_56 (by decide) ?_
  refine lv_iload_n hx hb dX5_swap_58 rfl (lv_at hl 2 rfl) ?_
  refine lv_iadd hx hb dX5_swap_59 ?_
  rw [show 42 + nI o = nI (42 + o) from nI_add 42 o]
  refine lv_aload_n hx hb dX5_swap_60 rfl (lv_at hl 0 rfl) ?_
  refine lv_bipush (v := 42) hx hb dX5_swap_61 (by decide) ?_
  refine lv_iload_n hx hb dX5_swap_63 rfl (lv_at hl 1 rfl) ?_
  refine lv_iadd hx hb dX5_swap_64 ?_
  rw [show 42 + nI c = nI (42 + c) from nI_add 42 c]
  refine lv_aload_n hx hb dX5_swap_65 rfl (lv_at hl 0 rfl) ?_
  refine rg (v := .ref (ad (b + 1 + 0))) (T := TX5) (N := 14) (C := RX5) hx hb hts hinX5 hown hK hP hM rfl 0 (by decide) (hts (.fieldLink RX5 7 "NeedleGridModel" "now" "[I") (by decide +kernel)) rfl dX5_swap_66 ?_
  refine lv_bipush (v := 42) hx hb dX5_swap_69 (by decide) ?_
  refine lv_iload_n hx hb dX5_swap_71 rfl (lv_at hl 2 rfl) ?_
  refine lv_iadd hx hb dX5_swap_72 ?_
  rw [show 42 + nI o = nI (42 + o) from nI_add 42 o]
  refine ra (j := (42 + o)) (n := 186) hx hb hK hP hM 0 rfl (by omega) (by decide) dX5_swap_73 ?_
  refine nVi (As := [.int (nI (42 + c)), .int ((upd (upd N (6 + c) (N (6 + o))) (6 + o) r_13) (42 + o))]) (rest := _) hx hb hml hown hts hP hK hD hZ hA hS ⟨Nat.zero_le _, Nat.zero_le _⟩ hM.1 rfl (m_changes l E ad s_18 b (gu (mG N (svP P kp N) (svA kp) C n 0 J_11) 0 (upd (upd N (6 + c) (N (6 + o))) (6 + o) r_13)) hM (42 + c) (by omega) ((upd (upd N (6 + c) (N (6 + o))) (6 + o) r_13) (42 + o))) (cwV 2 hts gX5_swap_X5_changes rfl rfl rfl (by decide +kernel) ⟨Nat.le_of_ble_eq_true rfl, Nat.le_of_ble_eq_true rfl⟩) hl.1 rfl (Nat.le_of_ble_eq_true rfl) dX5_swap_74 (fun r_19 s_21 H locs hq hP hD hS => ?_)
  obtain ⟨hrr_19, hM, hf_20⟩ := hq
  have hrr_19 : r_19 = (upd (upd N (6 + c) (N (6 + o))) (6 + o) r_13) (42 + c) := hrr_19
  have hf := hf.tr hf_20
  have hM : isR E ad s_21 b sM (gu (mG N (svP P kp N) (svA kp) C n 0 J_11) 0 (upd (upd (upd N (6 + c) (N (6 + o))) (6 + o) r_13) (42 + c) ((upd (upd N (6 + c) (N (6 + o))) (6 + o) r_13) (42 + o)))) := hM.eq (all14 rfl rfl rfl rfl rfl rfl rfl rfl rfl rfl rfl rfl rfl rfl)
  refine nVi (As := [.int (nI (42 + o)), .int r_19]) (rest := _) hx hb hml hown hts hP hK hD hZ hA hS ⟨Nat.zero_le _, Nat.zero_le _⟩ hM.1 rfl (m_changes l E ad s_21 b (gu (mG N (svP P kp N) (svA kp) C n 0 J_11) 0 (upd (upd (upd N (6 + c) (N (6 + o))) (6 + o) r_13) (42 + c) ((upd (upd N (6 + c) (N (6 + o))) (6 + o) r_13) (42 + o)))) hM (42 + o) (by omega) r_19) (cwV 2 hts gX5_swap_X5_changes rfl rfl rfl (by decide +kernel) ⟨Nat.le_of_ble_eq_true rfl, Nat.le_of_ble_eq_true rfl⟩) hl.1 rfl (Nat.le_of_ble_eq_true rfl) dX5_swap_77 (fun r_22 s_24 H locs hq hP hD hS => ?_)
  obtain ⟨hrr_22, hM, hf_23⟩ := hq
  have hrr_22 : r_22 = (upd (upd (upd N (6 + c) (N (6 + o))) (6 + o) r_13) (42 + c) ((upd (upd N (6 + c) (N (6 + o))) (6 + o) r_13) (42 + o))) (42 + o) := hrr_22
  have hf := hf.tr hf_23
  have hM : isR E ad s_24 b sM (gu (mG N (svP P kp N) (svA kp) C n 0 J_11) 0 (upd (upd (upd (upd N (6 + c) (N (6 + o))) (6 + o) r_13) (42 + c) ((upd (upd N (6 + c) (N (6 + o))) (6 + o) r_13) (42 + o))) (42 + o) r_19)) := hM.eq (all14 rfl rfl rfl rfl rfl rfl rfl rfl rfl rfl rfl rfl rfl rfl)
  refine lv_pop hx hb dX5_swap_80 rfl ?_
  refine lv_aload_n hx hb dX5_swap_81 rfl (lv_at hl 0 rfl) ?_
  refine rg (v := .ref (ad (b + 1 + 0))) (T := TX5) (N := 14) (C := RX5) hx hb hts hinX5 hown hK hP hM rfl 0 (by decide) (hts (.fieldLink RX5 7 "NeedleGridModel" "now" "[I") (by decide +kernel)) rfl dX5_swap_82 ?_
  refine lv_bipush (v := 6) hx hb dX5_swap_85 (by decide) ?_
  refine lv_iload_n hx hb dX5_swap_87 rfl (lv_at hl 1 rfl) ?_
  refine lv_iadd hx hb dX5_swap_88 ?_
  rw [show 6 + nI c = nI (6 + c) from nI_add 6 c]
  refine ra (j := (6 + c)) (n := 186) hx hb hK hP hM 0 rfl (by omega) (by decide) dX5_swap_89 ?_
  have hsw : upd (upd (upd (upd N (6 + c) (N (6 + o))) (6 + o) r_13) (42 + c) ((upd (upd N (6 + c) (N (6 + o))) (6 + o) r_13) (42 + o))) (42 + o) r_19 = swpN N c o := by subst hrr_13 hrr_16 hrr_19 hrr_22; exact mswp hc ho
  exact hret _ _ _ _ _ _ hP hD hS (⟨congrFun hsw (6 + c), ⟨J_11, hM.eq (all14 hsw rfl rfl rfl rfl rfl rfl rfl rfl rfl rfl rfl rfl rfl)⟩, hf⟩) dX5_swap_90

set_option maxHeartbeats 4000000 in
set_option maxRecDepth 100000 in
theorem m_swap_c (l : Launch) (E : NE) (ad : Nat → Nat) (st : NW) (b : Nat) (N P : Nat → Int32) (kp : Nat) (C : Nat → Int32) (n : Nat) (th : Int32) (J : Nat → Nat → Int32) (hkp : kp ≤ 6) (hn : n ≤ 60) (hO : okN N) (hM : isR E ad st b sM (mG N P kp C n th J)) (v : Int32) (hbad : inI v 0 35 = 0) (w : Int32) : nMi l yX5_swap wsX5_swap (nRm 2 45) E ad st [.ref (ad b), .int v, .int w] (fun r s1 => r = 0 ∧ (∃ J1, isR E ad s1 b sM (mG N P kp C n 1 J1)) ∧ fr b st s1) := by
  refine nSi (cc := cX5_swap) (maxL := 3) (by decide) rfl (Nat.le_of_ble_eq_true rfl) ?_
  intro pg en s mi ar bw mth cd R Q A ls hx hb hml hown hts hRm hP hK hD hZ hA hl hret
  subst hRm
  have hown : s.vm.findClass RX5 = some mi.cls := hown
  have hS : va_S A s.heap s.heap [] := va_S.rf
  have hl : lv_has ls 3 [(0, .ref (ad b)), (1, .int v), (2, .int w)] := hl
  have hf : fr b st st := fr.rf
  have hdB := hO.1.b
  have hinX5 : ∀ w ∈ wsX50, w ∈ wsX5_swap := by decide +kernel
  refine lv_aload_n hx hb dX5_swap_0 rfl (lv_at hl 0 rfl) ?_
  refine lv_iconst (v := 0) hx hb dX5_swap_1 (by decide) ?_
  refine rp (v := 0) (ty := .int) (T := TX5) (N := 14) (C := RX5) hx hb hts hinX5 tyX5 tyX5_ok nmX5 hown hK hP hD hS hM rfl 6 (by decide) (hts (.fieldLink RX5 28 "NeedleGridModel" "thrown" "I") (by decide +kernel)) rfl rfl (by decide +kernel) rfl rfl dX5_swap_2 (fun s_1 H locs hM hf_2 hP hD hS => ?_)
  have hf := hf.tr hf_2
  refine lv_iload_n hx hb dX5_swap_5 rfl (lv_at hl 1 rfl) ?_
  refine nS_i (As := [.int v]) (rest := _) hx hb hml hown hts hP hK hD hZ hA hS ⟨Nat.zero_le _, Nat.zero_le _⟩ (m_isCell l E ad s_1 v) (va_cwS 1 hts gX5_swap_X5_isCell rfl rfl rfl (by decide +kernel) ⟨Nat.le_of_ble_eq_true rfl, Nat.le_of_ble_eq_true rfl⟩) hl.1 rfl (Nat.le_of_ble_eq_true rfl) dX5_swap_6 (fun r_3 s_4 H locs hq hP hD hS => ?_)
  obtain ⟨rfl, rfl⟩ := hq
  refine lv_if_eq (tgt := 19) hx hb dX5_swap_9 (by decide) (fun c9_4 => ?_) (fun c9_4 => absurd hbad c9_4)
  refine lv_aload_n hx hb dX5_swap_19 rfl (lv_at hl 0 rfl) ?_
  refine lv_iconst (v := 1) hx hb dX5_swap_20 (by decide) ?_
  refine nVi (As := [.int 1]) (rest := _) hx hb hml hown hts hP hK hD hZ hA hS ⟨Nat.zero_le _, Nat.zero_le _⟩ hM.1 rfl (m_fails l E ad s_1 b (gu (mG N P kp C n th J) 6 (fun _ => 0)) hM 1) (cwV 1 hts gX5_swap_X5_fails rfl rfl rfl (by decide +kernel) ⟨Nat.le_of_ble_eq_true rfl, Nat.le_of_ble_eq_true rfl⟩) hl.1 rfl (Nat.le_of_ble_eq_true rfl) dX5_swap_21 (fun r_6 s_8 H locs hq hP hD hS => ?_)
  obtain ⟨hrr_6, hM, hf_7⟩ := hq
  have hrr_6 : r_6 = 0 := hrr_6
  have hf := hf.tr hf_7
  have hM : isR E ad s_8 b sM (gu (mG N P kp C n th J) 6 (fun _ => 1)) := hM.eq (all14 rfl rfl rfl rfl rfl rfl rfl rfl rfl rfl rfl rfl rfl rfl)
  exact hret _ _ _ _ _ _ hP hD hS (⟨hrr_6, ⟨J, hM.eq (all14 rfl rfl rfl rfl rfl rfl rfl rfl rfl rfl rfl rfl rfl rfl)⟩, hf⟩) dX5_swap_24

set_option maxHeartbeats 4000000 in
set_option maxRecDepth 100000 in
theorem m_swap_o (l : Launch) (E : NE) (ad : Nat → Nat) (st : NW) (b : Nat) (N P : Nat → Int32) (kp : Nat) (C : Nat → Int32) (n : Nat) (th : Int32) (J : Nat → Nat → Int32) (hkp : kp ≤ 6) (hn : n ≤ 60) (hO : okN N) (hM : isR E ad st b sM (mG N P kp C n th J)) (c : Nat) (hc : c < 36) (v : Int32) (hbad : inI v 0 35 = 0) : nMi l yX5_swap wsX5_swap (nRm 2 45) E ad st [.ref (ad b), .int (nI c), .int v] (fun r s1 => r = 0 ∧ (∃ J1, isR E ad s1 b sM (mG N P kp C n 1 J1)) ∧ fr b st s1) := by
  refine nSi (cc := cX5_swap) (maxL := 3) (by decide) rfl (Nat.le_of_ble_eq_true rfl) ?_
  intro pg en s mi ar bw mth cd R Q A ls hx hb hml hown hts hRm hP hK hD hZ hA hl hret
  subst hRm
  have hown : s.vm.findClass RX5 = some mi.cls := hown
  have hS : va_S A s.heap s.heap [] := va_S.rf
  have hl : lv_has ls 3 [(0, .ref (ad b)), (1, .int (nI c)), (2, .int v)] := hl
  have hf : fr b st st := fr.rf
  have hdB := hO.1.b
  have hinX5 : ∀ w ∈ wsX50, w ∈ wsX5_swap := by decide +kernel
  refine lv_aload_n hx hb dX5_swap_0 rfl (lv_at hl 0 rfl) ?_
  refine lv_iconst (v := 0) hx hb dX5_swap_1 (by decide) ?_
  refine rp (v := 0) (ty := .int) (T := TX5) (N := 14) (C := RX5) hx hb hts hinX5 tyX5 tyX5_ok nmX5 hown hK hP hD hS hM rfl 6 (by decide) (hts (.fieldLink RX5 28 "NeedleGridModel" "thrown" "I") (by decide +kernel)) rfl rfl (by decide +kernel) rfl rfl dX5_swap_2 (fun s_1 H locs hM hf_2 hP hD hS => ?_)
  have hf := hf.tr hf_2
  refine lv_iload_n hx hb dX5_swap_5 rfl (lv_at hl 1 rfl) ?_
  refine nS_i (As := [.int (nI c)]) (rest := _) hx hb hml hown hts hP hK hD hZ hA hS ⟨Nat.zero_le _, Nat.zero_le _⟩ (m_isCell l E ad s_1 (nI c)) (va_cwS 1 hts gX5_swap_X5_isCell rfl rfl rfl (by decide +kernel) ⟨Nat.le_of_ble_eq_true rfl, Nat.le_of_ble_eq_true rfl⟩) hl.1 rfl (Nat.le_of_ble_eq_true rfl) dX5_swap_6 (fun r_3 s_4 H locs hq hP hD hS => ?_)
  obtain ⟨rfl, rfl⟩ := hq
  refine lv_if_eq (tgt := 19) hx hb dX5_swap_9 (by decide) (fun c9_4 => absurd c9_4 (cell_ok hc)) (fun c9_4 => ?_)
  refine lv_iload_n hx hb dX5_swap_12 rfl (lv_at hl 2 rfl) ?_
  refine nS_i (As := [.int v]) (rest := _) hx hb hml hown hts hP hK hD hZ hA hS ⟨Nat.zero_le _, Nat.zero_le _⟩ (m_isCell l E ad s_1 v) (va_cwS 1 hts gX5_swap_X5_isCell rfl rfl rfl (by decide +kernel) ⟨Nat.le_of_ble_eq_true rfl, Nat.le_of_ble_eq_true rfl⟩) hl.1 rfl (Nat.le_of_ble_eq_true rfl) dX5_swap_13 (fun r_6 s_7 H locs hq hP hD hS => ?_)
  obtain ⟨rfl, rfl⟩ := hq
  refine lv_if_ne (tgt := 25) hx hb dX5_swap_16 (by decide) (fun c16_7 => absurd hbad c16_7) (fun c16_7 => ?_)
  refine lv_aload_n hx hb dX5_swap_19 rfl (lv_at hl 0 rfl) ?_
  refine lv_iconst (v := 1) hx hb dX5_swap_20 (by decide) ?_
  refine nVi (As := [.int 1]) (rest := _) hx hb hml hown hts hP hK hD hZ hA hS ⟨Nat.zero_le _, Nat.zero_le _⟩ hM.1 rfl (m_fails l E ad s_1 b (gu (mG N P kp C n th J) 6 (fun _ => 0)) hM 1) (cwV 1 hts gX5_swap_X5_fails rfl rfl rfl (by decide +kernel) ⟨Nat.le_of_ble_eq_true rfl, Nat.le_of_ble_eq_true rfl⟩) hl.1 rfl (Nat.le_of_ble_eq_true rfl) dX5_swap_21 (fun r_9 s_11 H locs hq hP hD hS => ?_)
  obtain ⟨hrr_9, hM, hf_10⟩ := hq
  have hrr_9 : r_9 = 0 := hrr_9
  have hf := hf.tr hf_10
  have hM : isR E ad s_11 b sM (gu (mG N P kp C n th J) 6 (fun _ => 1)) := hM.eq (all14 rfl rfl rfl rfl rfl rfl rfl rfl rfl rfl rfl rfl rfl rfl)
  exact hret _ _ _ _ _ _ hP hD hS (⟨hrr_9, ⟨J, hM.eq (all14 rfl rfl rfl rfl rfl rfl rfl rfl rfl rfl rfl rfl rfl rfl)⟩, hf⟩) dX5_swap_24

set_option maxHeartbeats 4000000 in
set_option maxRecDepth 100000 in
theorem m_bar (l : Launch) (E : NE) (ad : Nat → Nat) (st : NW) (b : Nat) (N P : Nat → Int32) (kp : Nat) (C : Nat → Int32) (n : Nat) (th : Int32) (J : Nat → Nat → Int32) (hkp : kp ≤ 6) (hn : n ≤ 60) (hO : okN N) (hM : isR E ad st b sM (mG N P kp C n th J)) (c d : Nat) (t : Int32) (hc : c < 36) (hd : d < 8) (h1 : ¬ t < 1) (h2 : t ≤ 50) (hb6 : cnI (barP N) 36 = 6 → ¬ N (150 + c) = 0) : nMi l yX5_bar wsX5_bar (nRm 3 63) E ad st [.ref (ad b), .int (nI c), .int (nI d), .int t] (fun r s1 => r = nI (cnI (barP (upd (upd N (114 + c) (nI d)) (150 + c) t)) 36) ∧ (∃ J1, isR E ad s1 b sM (mG (upd (upd N (114 + c) (nI d)) (150 + c) t) (svP P kp N) (svA kp) C n 0 J1)) ∧ fr b st s1) := by
  refine nSi (cc := cX5_bar) (maxL := 4) (by decide) rfl (Nat.le_of_ble_eq_true rfl) ?_
  intro pg en s mi ar bw mth cd R Q A ls hx hb hml hown hts hRm hP hK hD hZ hA hl hret
  subst hRm
  have hown : s.vm.findClass RX5 = some mi.cls := hown
  have hS : va_S A s.heap s.heap [] := va_S.rf
  have hl : lv_has ls 4 [(0, .ref (ad b)), (1, .int (nI c)), (2, .int (nI d)), (3, .int t)] := hl
  have hf : fr b st st := fr.rf
  have hdB := hO.1.b
  have hinX5 : ∀ w ∈ wsX50, w ∈ wsX5_bar := by decide +kernel
  refine lv_aload_n hx hb dX5_bar_0 rfl (lv_at hl 0 rfl) ?_
  refine lv_iconst (v := 0) hx hb dX5_bar_1 (by decide) ?_
  refine rp (v := 0) (ty := .int) (T := TX5) (N := 14) (C := RX5) hx hb hts hinX5 tyX5 tyX5_ok nmX5 hown hK hP hD hS hM rfl 6 (by decide) (hts (.fieldLink RX5 28 "NeedleGridModel" "thrown" "I") (by decide +kernel)) rfl rfl (by decide +kernel) rfl rfl dX5_bar_2 (fun s_1 H locs hM hf_2 hP hD hS => ?_)
  have hf := hf.tr hf_2
  refine lv_iload_n hx hb dX5_bar_5 rfl (lv_at hl 1 rfl) ?_
  refine nS_i (As := [.int (nI c)]) (rest := _) hx hb hml hown hts hP hK hD hZ hA hS ⟨Nat.zero_le _, Nat.zero_le _⟩ (m_isCell l E ad s_1 (nI c)) (va_cwS 1 hts gX5_bar_X5_isCell rfl rfl rfl (by decide +kernel) ⟨Nat.le_of_ble_eq_true rfl, Nat.le_of_ble_eq_true rfl⟩) hl.1 rfl (Nat.le_of_ble_eq_true rfl) dX5_bar_6 (fun r_3 s_4 H locs hq hP hD hS => ?_)
  obtain ⟨rfl, rfl⟩ := hq
  refine lv_if_ne (tgt := 18) hx hb dX5_bar_9 (by decide) (fun c9_4 => ?_) (fun c9_4 => absurd c9_4 (cell_ok hc))
  refine lv_iload_n hx hb dX5_bar_18 rfl (lv_at hl 2 rfl) ?_
  refine lv_iload_n hx hb dX5_bar_19 rfl (lv_at hl 3 rfl) ?_
  refine nS_i (As := [.int (nI d), .int t]) (rest := _) hx hb hml hown hts hP hK hD hZ hA hS ⟨Nat.zero_le _, Nat.zero_le _⟩ (m_isBar l E ad s_1 (nI d) t) (va_cwS 2 hts gX5_bar_X5_isBar rfl rfl rfl (by decide +kernel) ⟨Nat.le_of_ble_eq_true rfl, Nat.le_of_ble_eq_true rfl⟩) hl.1 rfl (Nat.le_of_ble_eq_true rfl) dX5_bar_20 (fun r_6 s_7 H locs hq hP hD hS => ?_)
  obtain ⟨rfl, rfl⟩ := hq
  refine lv_if_ne (tgt := 32) hx hb dX5_bar_23 (by decide) (fun c23_7 => ?_) (fun c23_7 => absurd c23_7 (bar_ok hd h1 h2))
  refine lv_aload_n hx hb dX5_bar_32 rfl (lv_at hl 0 rfl) ?_
  refine rg (v := .ref (ad (b + 1 + 0))) (T := TX5) (N := 14) (C := RX5) hx hb hts hinX5 hown hK hP hM rfl 0 (by decide) (hts (.fieldLink RX5 7 "NeedleGridModel" "now" "[I") (by decide +kernel)) rfl dX5_bar_33 ?_
  refine nS_i (As := [.ref (ad (b + 1 + 0))]) (rest := _) hx hb hml hown hts hP hK hD hZ hA hS ⟨Nat.zero_le _, Nat.zero_le _⟩ (m_lying l E ad s_1 b (gu (mG N P kp C n th J) 6 (fun _ => 0)) hM ) (va_cwS 1 hts gX5_bar_X5_lying rfl rfl rfl (by decide +kernel) ⟨Nat.le_of_ble_eq_true rfl, Nat.le_of_ble_eq_true rfl⟩) hl.1 rfl (Nat.le_of_ble_eq_true rfl) dX5_bar_36 (fun r_9 s_11 H locs hq hP hD hS => ?_)
  obtain ⟨hrr_9, rfl⟩ := hq
  have hrr_9 : r_9 = nI (cnI (barP N) 36) := hrr_9
  refine lv_bipush (v := 6) hx hb dX5_bar_39 (by decide) ?_
  refine lv_icmp_ne (tgt := 63) hx hb dX5_bar_41 (by decide) (fun c41_11 => ?_) (fun c41_11 => ?_)
  · refine lv_aload_n hx hb dX5_bar_63 rfl (lv_at hl 0 rfl) ?_
    refine nVv (As := []) (rest := _) hx hb hml hown hts hP hK hD hZ hA hS ⟨Nat.zero_le _, Nat.zero_le _⟩ hM.1 rfl (m_saves l E ad s_1 b N P kp C n 0 J hkp hn hO (hM.eq (all14 rfl rfl rfl rfl rfl rfl rfl rfl rfl rfl rfl rfl rfl rfl)) ) (cwV 0 hts gX5_bar_X5_saves rfl rfl rfl (by decide +kernel) ⟨Nat.le_of_ble_eq_true rfl, Nat.le_of_ble_eq_true rfl⟩) hl.1 rfl (Nat.le_of_ble_eq_true rfl) dX5_bar_64 (fun s_16 H locs hq hP hD hS => ?_)
    obtain ⟨⟨J_15, hM⟩, hf_14⟩ := hq
    have hf := hf.tr hf_14
    refine lv_aload_n hx hb dX5_bar_67 rfl (lv_at hl 0 rfl) ?_
    refine rg (v := .ref (ad (b + 1 + 0))) (T := TX5) (N := 14) (C := RX5) hx hb hts hinX5 hown hK hP hM rfl 0 (by decide) (hts (.fieldLink RX5 7 "NeedleGridModel" "now" "[I") (by decide +kernel)) rfl dX5_bar_68 ?_
    refine lv_iload_n hx hb dX5_bar_71 rfl (lv_at hl 1 rfl) ?_
    refine lv_iload_n hx hb dX5_bar_72 rfl (lv_at hl 2 rfl) ?_
    refine lv_iload_n hx hb dX5_bar_73 rfl (lv_at hl 3 rfl) ?_
    refine nS_v (As := [.ref (ad (b + 1 + 0)), .int (nI c), .int (nI d), .int t]) (rest := _) hx hb hml hown hts hP hK hD hZ hA hS ⟨Nat.zero_le _, Nat.zero_le _⟩ (m_laysBar0 l E ad s_16 b (mG N (svP P kp N) (svA kp) C n 0 J_15) hM c (by omega) (nI d) t) (va_cwS 4 hts gX5_bar_X5_laysBar rfl rfl rfl (by decide +kernel) ⟨Nat.le_of_ble_eq_true rfl, Nat.le_of_ble_eq_true rfl⟩) hl.1 rfl (Nat.le_of_ble_eq_true rfl) dX5_bar_74 (fun s_19 H locs hq hP hD hS => ?_)
    obtain ⟨hM, hf_18⟩ := hq
    have hf := hf.tr hf_18
    refine lv_aload_n hx hb dX5_bar_77 rfl (lv_at hl 0 rfl) ?_
    refine rg (v := .ref (ad (b + 1 + 0))) (T := TX5) (N := 14) (C := RX5) hx hb hts hinX5 hown hK hP hM rfl 0 (by decide) (hts (.fieldLink RX5 7 "NeedleGridModel" "now" "[I") (by decide +kernel)) rfl dX5_bar_78 ?_
    refine nS_i (As := [.ref (ad (b + 1 + 0))]) (rest := _) hx hb hml hown hts hP hK hD hZ hA hS ⟨Nat.zero_le _, Nat.zero_le _⟩ (m_lying l E ad s_19 b (gu (mG N (svP P kp N) (svA kp) C n 0 J_15) 0 (upd (upd N (114 + c) (nI d)) (150 + c) t)) hM ) (va_cwS 1 hts gX5_bar_X5_lying rfl rfl rfl (by decide +kernel) ⟨Nat.le_of_ble_eq_true rfl, Nat.le_of_ble_eq_true rfl⟩) hl.1 rfl (Nat.le_of_ble_eq_true rfl) dX5_bar_81 (fun r_20 s_22 H locs hq hP hD hS => ?_)
    obtain ⟨hrr_20, rfl⟩ := hq
    have hrr_20 : r_20 = nI (cnI (barP (upd (upd N (114 + c) (nI d)) (150 + c) t)) 36) := hrr_20
    exact hret _ _ _ _ _ _ hP hD hS (⟨hrr_20, ⟨J_15, hM.eq (all14 rfl rfl rfl rfl rfl rfl rfl rfl rfl rfl rfl rfl rfl rfl)⟩, hf⟩) dX5_bar_84
  · have hl6 : cnI (barP N) 36 = 6 := (nI_eq (b := 6) (by have := cnI_le (barP N) 36; omega) (by omega)).mp (hrr_9.symm.trans c41_11)
    have hs0 := hb6 hl6
    refine lv_aload_n hx hb dX5_bar_44 rfl (lv_at hl 0 rfl) ?_
    refine rg (v := .ref (ad (b + 1 + 0))) (T := TX5) (N := 14) (C := RX5) hx hb hts hinX5 hown hK hP hM rfl 0 (by decide) (hts (.fieldLink RX5 7 "NeedleGridModel" "now" "[I") (by decide +kernel)) rfl dX5_bar_45 ?_
    refine lv_sipush (v := 150) hx hb dX5_bar_48 (by decide) ?_
    refine lv_iload_n hx hb dX5_bar_51 rfl (lv_at hl 1 rfl) ?_
    refine lv_iadd hx hb dX5_bar_52 ?_
    rw [show 150 + nI c = nI (150 + c) from nI_add 150 c]
    refine ra (j := (150 + c)) (n := 186) hx hb hK hP hM 0 rfl (by omega) (by decide) dX5_bar_53 ?_
    refine lv_if_ne (tgt := 63) hx hb dX5_bar_54 (by decide) (fun c54_22 => ?_) (fun c54_22 => absurd c54_22 hs0)
    refine lv_aload_n hx hb dX5_bar_63 rfl (lv_at hl 0 rfl) ?_
    refine nVv (As := []) (rest := _) hx hb hml hown hts hP hK hD hZ hA hS ⟨Nat.zero_le _, Nat.zero_le _⟩ hM.1 rfl (m_saves l E ad s_1 b N P kp C n 0 J hkp hn hO (hM.eq (all14 rfl rfl rfl rfl rfl rfl rfl rfl rfl rfl rfl rfl rfl rfl)) ) (cwV 0 hts gX5_bar_X5_saves rfl rfl rfl (by decide +kernel) ⟨Nat.le_of_ble_eq_true rfl, Nat.le_of_ble_eq_true rfl⟩) hl.1 rfl (Nat.le_of_ble_eq_true rfl) dX5_bar_64 (fun s_27 H locs hq hP hD hS => ?_)
    obtain ⟨⟨J_26, hM⟩, hf_25⟩ := hq
    have hf := hf.tr hf_25
    refine lv_aload_n hx hb dX5_bar_67 rfl (lv_at hl 0 rfl) ?_
    refine rg (v := .ref (ad (b + 1 + 0))) (T := TX5) (N := 14) (C := RX5) hx hb hts hinX5 hown hK hP hM rfl 0 (by decide) (hts (.fieldLink RX5 7 "NeedleGridModel" "now" "[I") (by decide +kernel)) rfl dX5_bar_68 ?_
    refine lv_iload_n hx hb dX5_bar_71 rfl (lv_at hl 1 rfl) ?_
    refine lv_iload_n hx hb dX5_bar_72 rfl (lv_at hl 2 rfl) ?_
    refine lv_iload_n hx hb dX5_bar_73 rfl (lv_at hl 3 rfl) ?_
    refine nS_v (As := [.ref (ad (b + 1 + 0)), .int (nI c), .int (nI d), .int t]) (rest := _) hx hb hml hown hts hP hK hD hZ hA hS ⟨Nat.zero_le _, Nat.zero_le _⟩ (m_laysBar0 l E ad s_27 b (mG N (svP P kp N) (svA kp) C n 0 J_26) hM c (by omega) (nI d) t) (va_cwS 4 hts gX5_bar_X5_laysBar rfl rfl rfl (by decide +kernel) ⟨Nat.le_of_ble_eq_true rfl, Nat.le_of_ble_eq_true rfl⟩) hl.1 rfl (Nat.le_of_ble_eq_true rfl) dX5_bar_74 (fun s_30 H locs hq hP hD hS => ?_)
    obtain ⟨hM, hf_29⟩ := hq
    have hf := hf.tr hf_29
    refine lv_aload_n hx hb dX5_bar_77 rfl (lv_at hl 0 rfl) ?_
    refine rg (v := .ref (ad (b + 1 + 0))) (T := TX5) (N := 14) (C := RX5) hx hb hts hinX5 hown hK hP hM rfl 0 (by decide) (hts (.fieldLink RX5 7 "NeedleGridModel" "now" "[I") (by decide +kernel)) rfl dX5_bar_78 ?_
    refine nS_i (As := [.ref (ad (b + 1 + 0))]) (rest := _) hx hb hml hown hts hP hK hD hZ hA hS ⟨Nat.zero_le _, Nat.zero_le _⟩ (m_lying l E ad s_30 b (gu (mG N (svP P kp N) (svA kp) C n 0 J_26) 0 (upd (upd N (114 + c) (nI d)) (150 + c) t)) hM ) (va_cwS 1 hts gX5_bar_X5_lying rfl rfl rfl (by decide +kernel) ⟨Nat.le_of_ble_eq_true rfl, Nat.le_of_ble_eq_true rfl⟩) hl.1 rfl (Nat.le_of_ble_eq_true rfl) dX5_bar_81 (fun r_31 s_33 H locs hq hP hD hS => ?_)
    obtain ⟨hrr_31, rfl⟩ := hq
    have hrr_31 : r_31 = nI (cnI (barP (upd (upd N (114 + c) (nI d)) (150 + c) t)) 36) := hrr_31
    exact hret _ _ _ _ _ _ hP hD hS (⟨hrr_31, ⟨J_26, hM.eq (all14 rfl rfl rfl rfl rfl rfl rfl rfl rfl rfl rfl rfl rfl rfl)⟩, hf⟩) dX5_bar_84

set_option maxHeartbeats 4000000 in
set_option maxRecDepth 100000 in
theorem m_bar_c (l : Launch) (E : NE) (ad : Nat → Nat) (st : NW) (b : Nat) (N P : Nat → Int32) (kp : Nat) (C : Nat → Int32) (n : Nat) (th : Int32) (J : Nat → Nat → Int32) (hkp : kp ≤ 6) (hn : n ≤ 60) (hO : okN N) (hM : isR E ad st b sM (mG N P kp C n th J)) (v : Int32) (hbad : inI v 0 35 = 0) (w t : Int32) : nMi l yX5_bar wsX5_bar (nRm 3 63) E ad st [.ref (ad b), .int v, .int w, .int t] (fun r s1 => r = 0 ∧ (∃ J1, isR E ad s1 b sM (mG N P kp C n 1 J1)) ∧ fr b st s1) := by
  refine nSi (cc := cX5_bar) (maxL := 4) (by decide) rfl (Nat.le_of_ble_eq_true rfl) ?_
  intro pg en s mi ar bw mth cd R Q A ls hx hb hml hown hts hRm hP hK hD hZ hA hl hret
  subst hRm
  have hown : s.vm.findClass RX5 = some mi.cls := hown
  have hS : va_S A s.heap s.heap [] := va_S.rf
  have hl : lv_has ls 4 [(0, .ref (ad b)), (1, .int v), (2, .int w), (3, .int t)] := hl
  have hf : fr b st st := fr.rf
  have hdB := hO.1.b
  have hinX5 : ∀ w ∈ wsX50, w ∈ wsX5_bar := by decide +kernel
  refine lv_aload_n hx hb dX5_bar_0 rfl (lv_at hl 0 rfl) ?_
  refine lv_iconst (v := 0) hx hb dX5_bar_1 (by decide) ?_
  refine rp (v := 0) (ty := .int) (T := TX5) (N := 14) (C := RX5) hx hb hts hinX5 tyX5 tyX5_ok nmX5 hown hK hP hD hS hM rfl 6 (by decide) (hts (.fieldLink RX5 28 "NeedleGridModel" "thrown" "I") (by decide +kernel)) rfl rfl (by decide +kernel) rfl rfl dX5_bar_2 (fun s_1 H locs hM hf_2 hP hD hS => ?_)
  have hf := hf.tr hf_2
  refine lv_iload_n hx hb dX5_bar_5 rfl (lv_at hl 1 rfl) ?_
  refine nS_i (As := [.int v]) (rest := _) hx hb hml hown hts hP hK hD hZ hA hS ⟨Nat.zero_le _, Nat.zero_le _⟩ (m_isCell l E ad s_1 v) (va_cwS 1 hts gX5_bar_X5_isCell rfl rfl rfl (by decide +kernel) ⟨Nat.le_of_ble_eq_true rfl, Nat.le_of_ble_eq_true rfl⟩) hl.1 rfl (Nat.le_of_ble_eq_true rfl) dX5_bar_6 (fun r_3 s_4 H locs hq hP hD hS => ?_)
  obtain ⟨rfl, rfl⟩ := hq
  refine lv_if_ne (tgt := 18) hx hb dX5_bar_9 (by decide) (fun c9_4 => absurd hbad c9_4) (fun c9_4 => ?_)
  refine lv_aload_n hx hb dX5_bar_12 rfl (lv_at hl 0 rfl) ?_
  refine lv_iconst (v := 1) hx hb dX5_bar_13 (by decide) ?_
  refine nVi (As := [.int 1]) (rest := _) hx hb hml hown hts hP hK hD hZ hA hS ⟨Nat.zero_le _, Nat.zero_le _⟩ hM.1 rfl (m_fails l E ad s_1 b (gu (mG N P kp C n th J) 6 (fun _ => 0)) hM 1) (cwV 1 hts gX5_bar_X5_fails rfl rfl rfl (by decide +kernel) ⟨Nat.le_of_ble_eq_true rfl, Nat.le_of_ble_eq_true rfl⟩) hl.1 rfl (Nat.le_of_ble_eq_true rfl) dX5_bar_14 (fun r_6 s_8 H locs hq hP hD hS => ?_)
  obtain ⟨hrr_6, hM, hf_7⟩ := hq
  have hrr_6 : r_6 = 0 := hrr_6
  have hf := hf.tr hf_7
  have hM : isR E ad s_8 b sM (gu (mG N P kp C n th J) 6 (fun _ => 1)) := hM.eq (all14 rfl rfl rfl rfl rfl rfl rfl rfl rfl rfl rfl rfl rfl rfl)
  exact hret _ _ _ _ _ _ hP hD hS (⟨hrr_6, ⟨J, hM.eq (all14 rfl rfl rfl rfl rfl rfl rfl rfl rfl rfl rfl rfl rfl rfl)⟩, hf⟩) dX5_bar_17

set_option maxHeartbeats 4000000 in
set_option maxRecDepth 100000 in
theorem m_bar_d (l : Launch) (E : NE) (ad : Nat → Nat) (st : NW) (b : Nat) (N P : Nat → Int32) (kp : Nat) (C : Nat → Int32) (n : Nat) (th : Int32) (J : Nat → Nat → Int32) (hkp : kp ≤ 6) (hn : n ≤ 60) (hO : okN N) (hM : isR E ad st b sM (mG N P kp C n th J)) (c : Nat) (hc : c < 36) (v t : Int32) (hbad : (if inI v 0 7 = 0 then (0 : Int32) else if inI t 1 50 = 0 then 0 else 1) = 0) : nMi l yX5_bar wsX5_bar (nRm 3 63) E ad st [.ref (ad b), .int (nI c), .int v, .int t] (fun r s1 => r = 0 ∧ (∃ J1, isR E ad s1 b sM (mG N P kp C n 2 J1)) ∧ fr b st s1) := by
  refine nSi (cc := cX5_bar) (maxL := 4) (by decide) rfl (Nat.le_of_ble_eq_true rfl) ?_
  intro pg en s mi ar bw mth cd R Q A ls hx hb hml hown hts hRm hP hK hD hZ hA hl hret
  subst hRm
  have hown : s.vm.findClass RX5 = some mi.cls := hown
  have hS : va_S A s.heap s.heap [] := va_S.rf
  have hl : lv_has ls 4 [(0, .ref (ad b)), (1, .int (nI c)), (2, .int v), (3, .int t)] := hl
  have hf : fr b st st := fr.rf
  have hdB := hO.1.b
  have hinX5 : ∀ w ∈ wsX50, w ∈ wsX5_bar := by decide +kernel
  refine lv_aload_n hx hb dX5_bar_0 rfl (lv_at hl 0 rfl) ?_
  refine lv_iconst (v := 0) hx hb dX5_bar_1 (by decide) ?_
  refine rp (v := 0) (ty := .int) (T := TX5) (N := 14) (C := RX5) hx hb hts hinX5 tyX5 tyX5_ok nmX5 hown hK hP hD hS hM rfl 6 (by decide) (hts (.fieldLink RX5 28 "NeedleGridModel" "thrown" "I") (by decide +kernel)) rfl rfl (by decide +kernel) rfl rfl dX5_bar_2 (fun s_1 H locs hM hf_2 hP hD hS => ?_)
  have hf := hf.tr hf_2
  refine lv_iload_n hx hb dX5_bar_5 rfl (lv_at hl 1 rfl) ?_
  refine nS_i (As := [.int (nI c)]) (rest := _) hx hb hml hown hts hP hK hD hZ hA hS ⟨Nat.zero_le _, Nat.zero_le _⟩ (m_isCell l E ad s_1 (nI c)) (va_cwS 1 hts gX5_bar_X5_isCell rfl rfl rfl (by decide +kernel) ⟨Nat.le_of_ble_eq_true rfl, Nat.le_of_ble_eq_true rfl⟩) hl.1 rfl (Nat.le_of_ble_eq_true rfl) dX5_bar_6 (fun r_3 s_4 H locs hq hP hD hS => ?_)
  obtain ⟨rfl, rfl⟩ := hq
  refine lv_if_ne (tgt := 18) hx hb dX5_bar_9 (by decide) (fun c9_4 => ?_) (fun c9_4 => absurd c9_4 (cell_ok hc))
  refine lv_iload_n hx hb dX5_bar_18 rfl (lv_at hl 2 rfl) ?_
  refine lv_iload_n hx hb dX5_bar_19 rfl (lv_at hl 3 rfl) ?_
  refine nS_i (As := [.int v, .int t]) (rest := _) hx hb hml hown hts hP hK hD hZ hA hS ⟨Nat.zero_le _, Nat.zero_le _⟩ (m_isBar l E ad s_1 v t) (va_cwS 2 hts gX5_bar_X5_isBar rfl rfl rfl (by decide +kernel) ⟨Nat.le_of_ble_eq_true rfl, Nat.le_of_ble_eq_true rfl⟩) hl.1 rfl (Nat.le_of_ble_eq_true rfl) dX5_bar_20 (fun r_6 s_7 H locs hq hP hD hS => ?_)
  obtain ⟨rfl, rfl⟩ := hq
  refine lv_if_ne (tgt := 32) hx hb dX5_bar_23 (by decide) (fun c23_7 => absurd hbad c23_7) (fun c23_7 => ?_)
  refine lv_aload_n hx hb dX5_bar_26 rfl (lv_at hl 0 rfl) ?_
  refine lv_iconst (v := 2) hx hb dX5_bar_27 (by decide) ?_
  refine nVi (As := [.int 2]) (rest := _) hx hb hml hown hts hP hK hD hZ hA hS ⟨Nat.zero_le _, Nat.zero_le _⟩ hM.1 rfl (m_fails l E ad s_1 b (gu (mG N P kp C n th J) 6 (fun _ => 0)) hM 2) (cwV 1 hts gX5_bar_X5_fails rfl rfl rfl (by decide +kernel) ⟨Nat.le_of_ble_eq_true rfl, Nat.le_of_ble_eq_true rfl⟩) hl.1 rfl (Nat.le_of_ble_eq_true rfl) dX5_bar_28 (fun r_9 s_11 H locs hq hP hD hS => ?_)
  obtain ⟨hrr_9, hM, hf_10⟩ := hq
  have hrr_9 : r_9 = 0 := hrr_9
  have hf := hf.tr hf_10
  have hM : isR E ad s_11 b sM (gu (mG N P kp C n th J) 6 (fun _ => 2)) := hM.eq (all14 rfl rfl rfl rfl rfl rfl rfl rfl rfl rfl rfl rfl rfl rfl)
  exact hret _ _ _ _ _ _ hP hD hS (⟨hrr_9, ⟨J, hM.eq (all14 rfl rfl rfl rfl rfl rfl rfl rfl rfl rfl rfl rfl rfl rfl)⟩, hf⟩) dX5_bar_31

set_option maxHeartbeats 4000000 in
set_option maxRecDepth 100000 in
theorem m_bar_n (l : Launch) (E : NE) (ad : Nat → Nat) (st : NW) (b : Nat) (N P : Nat → Int32) (kp : Nat) (C : Nat → Int32) (n : Nat) (th : Int32) (J : Nat → Nat → Int32) (hkp : kp ≤ 6) (hn : n ≤ 60) (hO : okN N) (hM : isR E ad st b sM (mG N P kp C n th J)) (c d : Nat) (t : Int32) (hc : c < 36) (hd : d < 8) (h1 : ¬ t < 1) (h2 : t ≤ 50) (hl6 : cnI (barP N) 36 = 6) (hs0 : N (150 + c) = 0) : nMi l yX5_bar wsX5_bar (nRm 3 63) E ad st [.ref (ad b), .int (nI c), .int (nI d), .int t] (fun r s1 => r = 0 ∧ (∃ J1, isR E ad s1 b sM (mG N P kp C n 3 J1)) ∧ fr b st s1) := by
  refine nSi (cc := cX5_bar) (maxL := 4) (by decide) rfl (Nat.le_of_ble_eq_true rfl) ?_
  intro pg en s mi ar bw mth cd R Q A ls hx hb hml hown hts hRm hP hK hD hZ hA hl hret
  subst hRm
  have hown : s.vm.findClass RX5 = some mi.cls := hown
  have hS : va_S A s.heap s.heap [] := va_S.rf
  have hl : lv_has ls 4 [(0, .ref (ad b)), (1, .int (nI c)), (2, .int (nI d)), (3, .int t)] := hl
  have hf : fr b st st := fr.rf
  have hdB := hO.1.b
  have hinX5 : ∀ w ∈ wsX50, w ∈ wsX5_bar := by decide +kernel
  refine lv_aload_n hx hb dX5_bar_0 rfl (lv_at hl 0 rfl) ?_
  refine lv_iconst (v := 0) hx hb dX5_bar_1 (by decide) ?_
  refine rp (v := 0) (ty := .int) (T := TX5) (N := 14) (C := RX5) hx hb hts hinX5 tyX5 tyX5_ok nmX5 hown hK hP hD hS hM rfl 6 (by decide) (hts (.fieldLink RX5 28 "NeedleGridModel" "thrown" "I") (by decide +kernel)) rfl rfl (by decide +kernel) rfl rfl dX5_bar_2 (fun s_1 H locs hM hf_2 hP hD hS => ?_)
  have hf := hf.tr hf_2
  refine lv_iload_n hx hb dX5_bar_5 rfl (lv_at hl 1 rfl) ?_
  refine nS_i (As := [.int (nI c)]) (rest := _) hx hb hml hown hts hP hK hD hZ hA hS ⟨Nat.zero_le _, Nat.zero_le _⟩ (m_isCell l E ad s_1 (nI c)) (va_cwS 1 hts gX5_bar_X5_isCell rfl rfl rfl (by decide +kernel) ⟨Nat.le_of_ble_eq_true rfl, Nat.le_of_ble_eq_true rfl⟩) hl.1 rfl (Nat.le_of_ble_eq_true rfl) dX5_bar_6 (fun r_3 s_4 H locs hq hP hD hS => ?_)
  obtain ⟨rfl, rfl⟩ := hq
  refine lv_if_ne (tgt := 18) hx hb dX5_bar_9 (by decide) (fun c9_4 => ?_) (fun c9_4 => absurd c9_4 (cell_ok hc))
  refine lv_iload_n hx hb dX5_bar_18 rfl (lv_at hl 2 rfl) ?_
  refine lv_iload_n hx hb dX5_bar_19 rfl (lv_at hl 3 rfl) ?_
  refine nS_i (As := [.int (nI d), .int t]) (rest := _) hx hb hml hown hts hP hK hD hZ hA hS ⟨Nat.zero_le _, Nat.zero_le _⟩ (m_isBar l E ad s_1 (nI d) t) (va_cwS 2 hts gX5_bar_X5_isBar rfl rfl rfl (by decide +kernel) ⟨Nat.le_of_ble_eq_true rfl, Nat.le_of_ble_eq_true rfl⟩) hl.1 rfl (Nat.le_of_ble_eq_true rfl) dX5_bar_20 (fun r_6 s_7 H locs hq hP hD hS => ?_)
  obtain ⟨rfl, rfl⟩ := hq
  refine lv_if_ne (tgt := 32) hx hb dX5_bar_23 (by decide) (fun c23_7 => ?_) (fun c23_7 => absurd c23_7 (bar_ok hd h1 h2))
  refine lv_aload_n hx hb dX5_bar_32 rfl (lv_at hl 0 rfl) ?_
  refine rg (v := .ref (ad (b + 1 + 0))) (T := TX5) (N := 14) (C := RX5) hx hb hts hinX5 hown hK hP hM rfl 0 (by decide) (hts (.fieldLink RX5 7 "NeedleGridModel" "now" "[I") (by decide +kernel)) rfl dX5_bar_33 ?_
  refine nS_i (As := [.ref (ad (b + 1 + 0))]) (rest := _) hx hb hml hown hts hP hK hD hZ hA hS ⟨Nat.zero_le _, Nat.zero_le _⟩ (m_lying l E ad s_1 b (gu (mG N P kp C n th J) 6 (fun _ => 0)) hM ) (va_cwS 1 hts gX5_bar_X5_lying rfl rfl rfl (by decide +kernel) ⟨Nat.le_of_ble_eq_true rfl, Nat.le_of_ble_eq_true rfl⟩) hl.1 rfl (Nat.le_of_ble_eq_true rfl) dX5_bar_36 (fun r_9 s_11 H locs hq hP hD hS => ?_)
  obtain ⟨hrr_9, rfl⟩ := hq
  have hrr_9 : r_9 = nI (cnI (barP N) 36) := hrr_9
  refine lv_bipush (v := 6) hx hb dX5_bar_39 (by decide) ?_
  refine lv_icmp_ne (tgt := 63) hx hb dX5_bar_41 (by decide) (fun c41_11 => absurd (show r_9 = 6 from hrr_9.trans (congrArg nI hl6)) c41_11) (fun c41_11 => ?_)
  refine lv_aload_n hx hb dX5_bar_44 rfl (lv_at hl 0 rfl) ?_
  refine rg (v := .ref (ad (b + 1 + 0))) (T := TX5) (N := 14) (C := RX5) hx hb hts hinX5 hown hK hP hM rfl 0 (by decide) (hts (.fieldLink RX5 7 "NeedleGridModel" "now" "[I") (by decide +kernel)) rfl dX5_bar_45 ?_
  refine lv_sipush (v := 150) hx hb dX5_bar_48 (by decide) ?_
  refine lv_iload_n hx hb dX5_bar_51 rfl (lv_at hl 1 rfl) ?_
  refine lv_iadd hx hb dX5_bar_52 ?_
  rw [show 150 + nI c = nI (150 + c) from nI_add 150 c]
  refine ra (j := (150 + c)) (n := 186) hx hb hK hP hM 0 rfl (by omega) (by decide) dX5_bar_53 ?_
  refine lv_if_ne (tgt := 63) hx hb dX5_bar_54 (by decide) (fun c54_12 => absurd hs0 c54_12) (fun c54_12 => ?_)
  refine lv_aload_n hx hb dX5_bar_57 rfl (lv_at hl 0 rfl) ?_
  refine lv_iconst (v := 3) hx hb dX5_bar_58 (by decide) ?_
  refine nVi (As := [.int 3]) (rest := _) hx hb hml hown hts hP hK hD hZ hA hS ⟨Nat.zero_le _, Nat.zero_le _⟩ hM.1 rfl (m_fails l E ad s_1 b (gu (mG N P kp C n th J) 6 (fun _ => 0)) hM 3) (cwV 1 hts gX5_bar_X5_fails rfl rfl rfl (by decide +kernel) ⟨Nat.le_of_ble_eq_true rfl, Nat.le_of_ble_eq_true rfl⟩) hl.1 rfl (Nat.le_of_ble_eq_true rfl) dX5_bar_59 (fun r_14 s_16 H locs hq hP hD hS => ?_)
  obtain ⟨hrr_14, hM, hf_15⟩ := hq
  have hrr_14 : r_14 = 0 := hrr_14
  have hf := hf.tr hf_15
  have hM : isR E ad s_16 b sM (gu (mG N P kp C n th J) 6 (fun _ => 3)) := hM.eq (all14 rfl rfl rfl rfl rfl rfl rfl rfl rfl rfl rfl rfl rfl rfl)
  exact hret _ _ _ _ _ _ hP hD hS (⟨hrr_14, ⟨J, hM.eq (all14 rfl rfl rfl rfl rfl rfl rfl rfl rfl rfl rfl rfl rfl rfl)⟩, hf⟩) dX5_bar_62

set_option maxHeartbeats 4000000 in
set_option maxRecDepth 100000 in
theorem m_unbar (l : Launch) (E : NE) (ad : Nat → Nat) (st : NW) (b : Nat) (N P : Nat → Int32) (kp : Nat) (C : Nat → Int32) (n : Nat) (th : Int32) (J : Nat → Nat → Int32) (hkp : kp ≤ 6) (hn : n ≤ 60) (hO : okN N) (hM : isR E ad st b sM (mG N P kp C n th J)) (c : Nat) (hc : c < 36) (hs0 : ¬ N (150 + c) = 0) : nMi l yX5_unbar wsX5_unbar (nRm 2 45) E ad st [.ref (ad b), .int (nI c)] (fun r s1 => r = nI (cnI (barP (upd (upd N (114 + c) 0) (150 + c) 0)) 36) ∧ (∃ J1, isR E ad s1 b sM (mG (upd (upd N (114 + c) 0) (150 + c) 0) (svP P kp N) (svA kp) C n 0 J1)) ∧ fr b st s1) := by
  refine nSi (cc := cX5_unbar) (maxL := 2) (by decide) rfl (Nat.le_of_ble_eq_true rfl) ?_
  intro pg en s mi ar bw mth cd R Q A ls hx hb hml hown hts hRm hP hK hD hZ hA hl hret
  subst hRm
  have hown : s.vm.findClass RX5 = some mi.cls := hown
  have hS : va_S A s.heap s.heap [] := va_S.rf
  have hl : lv_has ls 2 [(0, .ref (ad b)), (1, .int (nI c))] := hl
  have hf : fr b st st := fr.rf
  have hdB := hO.1.b
  have hinX5 : ∀ w ∈ wsX50, w ∈ wsX5_unbar := by decide +kernel
  refine lv_aload_n hx hb dX5_unbar_0 rfl (lv_at hl 0 rfl) ?_
  refine lv_iconst (v := 0) hx hb dX5_unbar_1 (by decide) ?_
  refine rp (v := 0) (ty := .int) (T := TX5) (N := 14) (C := RX5) hx hb hts hinX5 tyX5 tyX5_ok nmX5 hown hK hP hD hS hM rfl 6 (by decide) (hts (.fieldLink RX5 28 "NeedleGridModel" "thrown" "I") (by decide +kernel)) rfl rfl (by decide +kernel) rfl rfl dX5_unbar_2 (fun s_1 H locs hM hf_2 hP hD hS => ?_)
  have hf := hf.tr hf_2
  refine lv_iload_n hx hb dX5_unbar_5 rfl (lv_at hl 1 rfl) ?_
  refine nS_i (As := [.int (nI c)]) (rest := _) hx hb hml hown hts hP hK hD hZ hA hS ⟨Nat.zero_le _, Nat.zero_le _⟩ (m_isCell l E ad s_1 (nI c)) (va_cwS 1 hts gX5_unbar_X5_isCell rfl rfl rfl (by decide +kernel) ⟨Nat.le_of_ble_eq_true rfl, Nat.le_of_ble_eq_true rfl⟩) hl.1 rfl (Nat.le_of_ble_eq_true rfl) dX5_unbar_6 (fun r_3 s_4 H locs hq hP hD hS => ?_)
  obtain ⟨rfl, rfl⟩ := hq
  refine lv_if_ne (tgt := 18) hx hb dX5_unbar_9 (by decide) (fun c9_4 => ?_) (fun c9_4 => absurd c9_4 (cell_ok hc))
  refine lv_aload_n hx hb dX5_unbar_18 rfl (lv_at hl 0 rfl) ?_
  refine rg (v := .ref (ad (b + 1 + 0))) (T := TX5) (N := 14) (C := RX5) hx hb hts hinX5 hown hK hP hM rfl 0 (by decide) (hts (.fieldLink RX5 7 "NeedleGridModel" "now" "[I") (by decide +kernel)) rfl dX5_unbar_19 ?_
  refine lv_sipush (v := 150) hx hb dX5_unbar_22 (by decide) ?_
  refine lv_iload_n hx hb dX5_unbar_25 rfl (lv_at hl 1 rfl) ?_
  refine lv_iadd hx hb dX5_unbar_26 ?_
  rw [show 150 + nI c = nI (150 + c) from nI_add 150 c]
  refine ra (j := (150 + c)) (n := 186) hx hb hK hP hM 0 rfl (by omega) (by decide) dX5_unbar_27 ?_
  refine lv_if_ne (tgt := 37) hx hb dX5_unbar_28 (by decide) (fun c28_5 => ?_) (fun c28_5 => absurd c28_5 hs0)
  refine lv_aload_n hx hb dX5_unbar_37 rfl (lv_at hl 0 rfl) ?_
  refine nVv (As := []) (rest := _) hx hb hml hown hts hP hK hD hZ hA hS ⟨Nat.zero_le _, Nat.zero_le _⟩ hM.1 rfl (m_saves l E ad s_1 b N P kp C n 0 J hkp hn hO (hM.eq (all14 rfl rfl rfl rfl rfl rfl rfl rfl rfl rfl rfl rfl rfl rfl)) ) (cwV 0 hts gX5_unbar_X5_saves rfl rfl rfl (by decide +kernel) ⟨Nat.le_of_ble_eq_true rfl, Nat.le_of_ble_eq_true rfl⟩) hl.1 rfl (Nat.le_of_ble_eq_true rfl) dX5_unbar_38 (fun s_10 H locs hq hP hD hS => ?_)
  obtain ⟨⟨J_9, hM⟩, hf_8⟩ := hq
  have hf := hf.tr hf_8
  refine lv_aload_n hx hb dX5_unbar_41 rfl (lv_at hl 0 rfl) ?_
  refine rg (v := .ref (ad (b + 1 + 0))) (T := TX5) (N := 14) (C := RX5) hx hb hts hinX5 hown hK hP hM rfl 0 (by decide) (hts (.fieldLink RX5 7 "NeedleGridModel" "now" "[I") (by decide +kernel)) rfl dX5_unbar_42 ?_
  refine lv_iload_n hx hb dX5_unbar_45 rfl (lv_at hl 1 rfl) ?_
  refine lv_iconst (v := 0) hx hb dX5_unbar_46 (by decide) ?_
  refine lv_iconst (v := 0) hx hb dX5_unbar_47 (by decide) ?_
  refine nS_v (As := [.ref (ad (b + 1 + 0)), .int (nI c), .int 0, .int 0]) (rest := _) hx hb hml hown hts hP hK hD hZ hA hS ⟨Nat.zero_le _, Nat.zero_le _⟩ (m_laysBar0 l E ad s_10 b (mG N (svP P kp N) (svA kp) C n 0 J_9) hM c (by omega) 0 0) (va_cwS 4 hts gX5_unbar_X5_laysBar rfl rfl rfl (by decide +kernel) ⟨Nat.le_of_ble_eq_true rfl, Nat.le_of_ble_eq_true rfl⟩) hl.1 rfl (Nat.le_of_ble_eq_true rfl) dX5_unbar_48 (fun s_13 H locs hq hP hD hS => ?_)
  obtain ⟨hM, hf_12⟩ := hq
  have hf := hf.tr hf_12
  refine lv_aload_n hx hb dX5_unbar_51 rfl (lv_at hl 0 rfl) ?_
  refine rg (v := .ref (ad (b + 1 + 0))) (T := TX5) (N := 14) (C := RX5) hx hb hts hinX5 hown hK hP hM rfl 0 (by decide) (hts (.fieldLink RX5 7 "NeedleGridModel" "now" "[I") (by decide +kernel)) rfl dX5_unbar_52 ?_
  refine nS_i (As := [.ref (ad (b + 1 + 0))]) (rest := _) hx hb hml hown hts hP hK hD hZ hA hS ⟨Nat.zero_le _, Nat.zero_le _⟩ (m_lying l E ad s_13 b (gu (mG N (svP P kp N) (svA kp) C n 0 J_9) 0 (upd (upd N (114 + c) 0) (150 + c) 0)) hM ) (va_cwS 1 hts gX5_unbar_X5_lying rfl rfl rfl (by decide +kernel) ⟨Nat.le_of_ble_eq_true rfl, Nat.le_of_ble_eq_true rfl⟩) hl.1 rfl (Nat.le_of_ble_eq_true rfl) dX5_unbar_55 (fun r_14 s_16 H locs hq hP hD hS => ?_)
  obtain ⟨hrr_14, rfl⟩ := hq
  have hrr_14 : r_14 = nI (cnI (barP (upd (upd N (114 + c) 0) (150 + c) 0)) 36) := hrr_14
  exact hret _ _ _ _ _ _ hP hD hS (⟨hrr_14, ⟨J_9, hM.eq (all14 rfl rfl rfl rfl rfl rfl rfl rfl rfl rfl rfl rfl rfl rfl)⟩, hf⟩) dX5_unbar_58

set_option maxHeartbeats 4000000 in
set_option maxRecDepth 100000 in
theorem m_unbar_c (l : Launch) (E : NE) (ad : Nat → Nat) (st : NW) (b : Nat) (N P : Nat → Int32) (kp : Nat) (C : Nat → Int32) (n : Nat) (th : Int32) (J : Nat → Nat → Int32) (hkp : kp ≤ 6) (hn : n ≤ 60) (hO : okN N) (hM : isR E ad st b sM (mG N P kp C n th J)) (v : Int32) (hbad : inI v 0 35 = 0) : nMi l yX5_unbar wsX5_unbar (nRm 2 45) E ad st [.ref (ad b), .int v] (fun r s1 => r = 0 ∧ (∃ J1, isR E ad s1 b sM (mG N P kp C n 1 J1)) ∧ fr b st s1) := by
  refine nSi (cc := cX5_unbar) (maxL := 2) (by decide) rfl (Nat.le_of_ble_eq_true rfl) ?_
  intro pg en s mi ar bw mth cd R Q A ls hx hb hml hown hts hRm hP hK hD hZ hA hl hret
  subst hRm
  have hown : s.vm.findClass RX5 = some mi.cls := hown
  have hS : va_S A s.heap s.heap [] := va_S.rf
  have hl : lv_has ls 2 [(0, .ref (ad b)), (1, .int v)] := hl
  have hf : fr b st st := fr.rf
  have hdB := hO.1.b
  have hinX5 : ∀ w ∈ wsX50, w ∈ wsX5_unbar := by decide +kernel
  refine lv_aload_n hx hb dX5_unbar_0 rfl (lv_at hl 0 rfl) ?_
  refine lv_iconst (v := 0) hx hb dX5_unbar_1 (by decide) ?_
  refine rp (v := 0) (ty := .int) (T := TX5) (N := 14) (C := RX5) hx hb hts hinX5 tyX5 tyX5_ok nmX5 hown hK hP hD hS hM rfl 6 (by decide) (hts (.fieldLink RX5 28 "NeedleGridModel" "thrown" "I") (by decide +kernel)) rfl rfl (by decide +kernel) rfl rfl dX5_unbar_2 (fun s_1 H locs hM hf_2 hP hD hS => ?_)
  have hf := hf.tr hf_2
  refine lv_iload_n hx hb dX5_unbar_5 rfl (lv_at hl 1 rfl) ?_
  refine nS_i (As := [.int v]) (rest := _) hx hb hml hown hts hP hK hD hZ hA hS ⟨Nat.zero_le _, Nat.zero_le _⟩ (m_isCell l E ad s_1 v) (va_cwS 1 hts gX5_unbar_X5_isCell rfl rfl rfl (by decide +kernel) ⟨Nat.le_of_ble_eq_true rfl, Nat.le_of_ble_eq_true rfl⟩) hl.1 rfl (Nat.le_of_ble_eq_true rfl) dX5_unbar_6 (fun r_3 s_4 H locs hq hP hD hS => ?_)
  obtain ⟨rfl, rfl⟩ := hq
  refine lv_if_ne (tgt := 18) hx hb dX5_unbar_9 (by decide) (fun c9_4 => absurd hbad c9_4) (fun c9_4 => ?_)
  refine lv_aload_n hx hb dX5_unbar_12 rfl (lv_at hl 0 rfl) ?_
  refine lv_iconst (v := 1) hx hb dX5_unbar_13 (by decide) ?_
  refine nVi (As := [.int 1]) (rest := _) hx hb hml hown hts hP hK hD hZ hA hS ⟨Nat.zero_le _, Nat.zero_le _⟩ hM.1 rfl (m_fails l E ad s_1 b (gu (mG N P kp C n th J) 6 (fun _ => 0)) hM 1) (cwV 1 hts gX5_unbar_X5_fails rfl rfl rfl (by decide +kernel) ⟨Nat.le_of_ble_eq_true rfl, Nat.le_of_ble_eq_true rfl⟩) hl.1 rfl (Nat.le_of_ble_eq_true rfl) dX5_unbar_14 (fun r_6 s_8 H locs hq hP hD hS => ?_)
  obtain ⟨hrr_6, hM, hf_7⟩ := hq
  have hrr_6 : r_6 = 0 := hrr_6
  have hf := hf.tr hf_7
  have hM : isR E ad s_8 b sM (gu (mG N P kp C n th J) 6 (fun _ => 1)) := hM.eq (all14 rfl rfl rfl rfl rfl rfl rfl rfl rfl rfl rfl rfl rfl rfl)
  exact hret _ _ _ _ _ _ hP hD hS (⟨hrr_6, ⟨J, hM.eq (all14 rfl rfl rfl rfl rfl rfl rfl rfl rfl rfl rfl rfl rfl rfl)⟩, hf⟩) dX5_unbar_17

set_option maxHeartbeats 4000000 in
set_option maxRecDepth 100000 in
theorem m_unbar_n (l : Launch) (E : NE) (ad : Nat → Nat) (st : NW) (b : Nat) (N P : Nat → Int32) (kp : Nat) (C : Nat → Int32) (n : Nat) (th : Int32) (J : Nat → Nat → Int32) (hkp : kp ≤ 6) (hn : n ≤ 60) (hO : okN N) (hM : isR E ad st b sM (mG N P kp C n th J)) (c : Nat) (hc : c < 36) (hs0 : N (150 + c) = 0) : nMi l yX5_unbar wsX5_unbar (nRm 2 45) E ad st [.ref (ad b), .int (nI c)] (fun r s1 => r = 0 ∧ (∃ J1, isR E ad s1 b sM (mG N P kp C n 2 J1)) ∧ fr b st s1) := by
  refine nSi (cc := cX5_unbar) (maxL := 2) (by decide) rfl (Nat.le_of_ble_eq_true rfl) ?_
  intro pg en s mi ar bw mth cd R Q A ls hx hb hml hown hts hRm hP hK hD hZ hA hl hret
  subst hRm
  have hown : s.vm.findClass RX5 = some mi.cls := hown
  have hS : va_S A s.heap s.heap [] := va_S.rf
  have hl : lv_has ls 2 [(0, .ref (ad b)), (1, .int (nI c))] := hl
  have hf : fr b st st := fr.rf
  have hdB := hO.1.b
  have hinX5 : ∀ w ∈ wsX50, w ∈ wsX5_unbar := by decide +kernel
  refine lv_aload_n hx hb dX5_unbar_0 rfl (lv_at hl 0 rfl) ?_
  refine lv_iconst (v := 0) hx hb dX5_unbar_1 (by decide) ?_
  refine rp (v := 0) (ty := .int) (T := TX5) (N := 14) (C := RX5) hx hb hts hinX5 tyX5 tyX5_ok nmX5 hown hK hP hD hS hM rfl 6 (by decide) (hts (.fieldLink RX5 28 "NeedleGridModel" "thrown" "I") (by decide +kernel)) rfl rfl (by decide +kernel) rfl rfl dX5_unbar_2 (fun s_1 H locs hM hf_2 hP hD hS => ?_)
  have hf := hf.tr hf_2
  refine lv_iload_n hx hb dX5_unbar_5 rfl (lv_at hl 1 rfl) ?_
  refine nS_i (As := [.int (nI c)]) (rest := _) hx hb hml hown hts hP hK hD hZ hA hS ⟨Nat.zero_le _, Nat.zero_le _⟩ (m_isCell l E ad s_1 (nI c)) (va_cwS 1 hts gX5_unbar_X5_isCell rfl rfl rfl (by decide +kernel) ⟨Nat.le_of_ble_eq_true rfl, Nat.le_of_ble_eq_true rfl⟩) hl.1 rfl (Nat.le_of_ble_eq_true rfl) dX5_unbar_6 (fun r_3 s_4 H locs hq hP hD hS => ?_)
  obtain ⟨rfl, rfl⟩ := hq
  refine lv_if_ne (tgt := 18) hx hb dX5_unbar_9 (by decide) (fun c9_4 => ?_) (fun c9_4 => absurd c9_4 (cell_ok hc))
  refine lv_aload_n hx hb dX5_unbar_18 rfl (lv_at hl 0 rfl) ?_
  refine rg (v := .ref (ad (b + 1 + 0))) (T := TX5) (N := 14) (C := RX5) hx hb hts hinX5 hown hK hP hM rfl 0 (by decide) (hts (.fieldLink RX5 7 "NeedleGridModel" "now" "[I") (by decide +kernel)) rfl dX5_unbar_19 ?_
  refine lv_sipush (v := 150) hx hb dX5_unbar_22 (by decide) ?_
  refine lv_iload_n hx hb dX5_unbar_25 rfl (lv_at hl 1 rfl) ?_
  refine lv_iadd hx hb dX5_unbar_26 ?_
  rw [show 150 + nI c = nI (150 + c) from nI_add 150 c]
  refine ra (j := (150 + c)) (n := 186) hx hb hK hP hM 0 rfl (by omega) (by decide) dX5_unbar_27 ?_
  refine lv_if_ne (tgt := 37) hx hb dX5_unbar_28 (by decide) (fun c28_5 => absurd hs0 c28_5) (fun c28_5 => ?_)
  refine lv_aload_n hx hb dX5_unbar_31 rfl (lv_at hl 0 rfl) ?_
  refine lv_iconst (v := 2) hx hb dX5_unbar_32 (by decide) ?_
  refine nVi (As := [.int 2]) (rest := _) hx hb hml hown hts hP hK hD hZ hA hS ⟨Nat.zero_le _, Nat.zero_le _⟩ hM.1 rfl (m_fails l E ad s_1 b (gu (mG N P kp C n th J) 6 (fun _ => 0)) hM 2) (cwV 1 hts gX5_unbar_X5_fails rfl rfl rfl (by decide +kernel) ⟨Nat.le_of_ble_eq_true rfl, Nat.le_of_ble_eq_true rfl⟩) hl.1 rfl (Nat.le_of_ble_eq_true rfl) dX5_unbar_33 (fun r_7 s_9 H locs hq hP hD hS => ?_)
  obtain ⟨hrr_7, hM, hf_8⟩ := hq
  have hrr_7 : r_7 = 0 := hrr_7
  have hf := hf.tr hf_8
  have hM : isR E ad s_9 b sM (gu (mG N P kp C n th J) 6 (fun _ => 2)) := hM.eq (all14 rfl rfl rfl rfl rfl rfl rfl rfl rfl rfl rfl rfl rfl rfl)
  exact hret _ _ _ _ _ _ hP hD hS (⟨hrr_7, ⟨J, hM.eq (all14 rfl rfl rfl rfl rfl rfl rfl rfl rfl rfl rfl rfl rfl rfl)⟩, hf⟩) dX5_unbar_36

set_option maxHeartbeats 4000000 in
set_option maxRecDepth 100000 in
theorem m_coil (l : Launch) (E : NE) (ad : Nat → Nat) (st : NW) (b : Nat) (N P : Nat → Int32) (kp : Nat) (C : Nat → Int32) (n : Nat) (th : Int32) (J : Nat → Nat → Int32) (hkp : kp ≤ 6) (hn : n ≤ 60) (hO : okN N) (hM : isR E ad st b sM (mG N P kp C n th J)) (t : Int32) (d : Nat) (hd : d < 8) (h1 : ¬ t < 0) (h2 : t ≤ 50) : nMi l yX5_coil wsX5_coil (nRm 2 45) E ad st [.ref (ad b), .int t, .int (nI d)] (fun r s1 => r = N 4 ∧ (∃ J1, isR E ad s1 b sM (mG (upd (upd N 5 (nI d)) 4 t) (svP P kp N) (svA kp) C n 0 J1)) ∧ fr b st s1) := by
  refine nSi (cc := cX5_coil) (maxL := 3) (by decide) rfl (Nat.le_of_ble_eq_true rfl) ?_
  intro pg en s mi ar bw mth cd R Q A ls hx hb hml hown hts hRm hP hK hD hZ hA hl hret
  subst hRm
  have hown : s.vm.findClass RX5 = some mi.cls := hown
  have hS : va_S A s.heap s.heap [] := va_S.rf
  have hl : lv_has ls 3 [(0, .ref (ad b)), (1, .int t), (2, .int (nI d))] := hl
  have hf : fr b st st := fr.rf
  have hdB := hO.1.b
  have hinX5 : ∀ w ∈ wsX50, w ∈ wsX5_coil := by decide +kernel
  refine lv_aload_n hx hb dX5_coil_0 rfl (lv_at hl 0 rfl) ?_
  refine lv_iconst (v := 0) hx hb dX5_coil_1 (by decide) ?_
  refine rp (v := 0) (ty := .int) (T := TX5) (N := 14) (C := RX5) hx hb hts hinX5 tyX5 tyX5_ok nmX5 hown hK hP hD hS hM rfl 6 (by decide) (hts (.fieldLink RX5 28 "NeedleGridModel" "thrown" "I") (by decide +kernel)) rfl rfl (by decide +kernel) rfl rfl dX5_coil_2 (fun s_1 H locs hM hf_2 hP hD hS => ?_)
  have hf := hf.tr hf_2
  refine lv_iload_n hx hb dX5_coil_5 rfl (lv_at hl 1 rfl) ?_
  refine lv_iconst (v := 0) hx hb dX5_coil_6 (by decide) ?_
  refine lv_bipush (v := 50) hx hb dX5_coil_7 (by decide) ?_
  refine nS_i (As := [.int t, .int 0, .int 50]) (rest := _) hx hb hml hown hts hP hK hD hZ hA hS ⟨Nat.zero_le _, Nat.zero_le _⟩ (m_in l E ad s_1 t 0 50) (va_cwS 3 hts gX5_coil_X5_in rfl rfl rfl (by decide +kernel) ⟨Nat.le_of_ble_eq_true rfl, Nat.le_of_ble_eq_true rfl⟩) hl.1 rfl (Nat.le_of_ble_eq_true rfl) dX5_coil_9 (fun r_3 s_4 H locs hq hP hD hS => ?_)
  obtain ⟨rfl, rfl⟩ := hq
  refine lv_if_eq (tgt := 22) hx hb dX5_coil_12 (by decide) (fun c12_4 => absurd c12_4 (inI_ok h1 (le_nlt h2))) (fun c12_4 => ?_)
  refine lv_iload_n hx hb dX5_coil_15 rfl (lv_at hl 2 rfl) ?_
  refine nS_i (As := [.int (nI d)]) (rest := _) hx hb hml hown hts hP hK hD hZ hA hS ⟨Nat.zero_le _, Nat.zero_le _⟩ (m_isDirection l E ad s_1 (nI d)) (va_cwS 1 hts gX5_coil_X5_isDirection rfl rfl rfl (by decide +kernel) ⟨Nat.le_of_ble_eq_true rfl, Nat.le_of_ble_eq_true rfl⟩) hl.1 rfl (Nat.le_of_ble_eq_true rfl) dX5_coil_16 (fun r_6 s_7 H locs hq hP hD hS => ?_)
  obtain ⟨rfl, rfl⟩ := hq
  refine lv_if_ne (tgt := 28) hx hb dX5_coil_19 (by decide) (fun c19_7 => ?_) (fun c19_7 => absurd c19_7 (dir_ok hd))
  refine lv_aload_n hx hb dX5_coil_28 rfl (lv_at hl 0 rfl) ?_
  refine nVv (As := []) (rest := _) hx hb hml hown hts hP hK hD hZ hA hS ⟨Nat.zero_le _, Nat.zero_le _⟩ hM.1 rfl (m_saves l E ad s_1 b N P kp C n 0 J hkp hn hO (hM.eq (all14 rfl rfl rfl rfl rfl rfl rfl rfl rfl rfl rfl rfl rfl rfl)) ) (cwV 0 hts gX5_coil_X5_saves rfl rfl rfl (by decide +kernel) ⟨Nat.le_of_ble_eq_true rfl, Nat.le_of_ble_eq_true rfl⟩) hl.1 rfl (Nat.le_of_ble_eq_true rfl) dX5_coil_29 (fun s_12 H locs hq hP hD hS => ?_)
  obtain ⟨⟨J_11, hM⟩, hf_10⟩ := hq
  have hf := hf.tr hf_10
  refine lv_aload_n hx hb dX5_coil_32 rfl (lv_at hl 0 rfl) ?_
  refine rg (v := .ref (ad (b + 1 + 0))) (T := TX5) (N := 14) (C := RX5) hx hb hts hinX5 hown hK hP hM rfl 0 (by decide) (hts (.fieldLink RX5 7 "NeedleGridModel" "now" "[I") (by decide +kernel)) rfl dX5_coil_33 ?_
  refine lv_iconst (v := 5) hx hb dX5_coil_36 (by decide) ?_
  refine lv_iload_n hx hb dX5_coil_37 rfl (lv_at hl 2 rfl) ?_
  refine rs (j := 5) (n := 186) (x := nI d) hx hb hK hP hD hS hM 0 rfl (by decide) (by omega) (by decide) dX5_coil_38 (fun s_13 H locs hM hf_14 hP hD hS => ?_)
  have hf := hf.tr hf_14
  refine lv_aload_n hx hb dX5_coil_39 rfl (lv_at hl 0 rfl) ?_
  refine lv_iconst (v := 4) hx hb dX5_coil_40 (by decide) ?_
  refine lv_iload_n hx hb dX5_coil_41 rfl (lv_at hl 1 rfl) ?_
  refine nVi (As := [.int 4, .int t]) (rest := _) hx hb hml hown hts hP hK hD hZ hA hS ⟨Nat.zero_le _, Nat.zero_le _⟩ hM.1 rfl (m_changes l E ad s_13 b (gu (mG N (svP P kp N) (svA kp) C n 0 J_11) 0 (upd N 5 (nI d))) hM 4 (by omega) t) (cwV 2 hts gX5_coil_X5_changes rfl rfl rfl (by decide +kernel) ⟨Nat.le_of_ble_eq_true rfl, Nat.le_of_ble_eq_true rfl⟩) hl.1 rfl (Nat.le_of_ble_eq_true rfl) dX5_coil_42 (fun r_15 s_17 H locs hq hP hD hS => ?_)
  obtain ⟨hrr_15, hM, hf_16⟩ := hq
  have hrr_15 : r_15 = (upd N 5 (nI d)) 4 := hrr_15
  have hf := hf.tr hf_16
  have hM : isR E ad s_17 b sM (gu (mG N (svP P kp N) (svA kp) C n 0 J_11) 0 (upd (upd N 5 (nI d)) 4 t)) := hM.eq (all14 rfl rfl rfl rfl rfl rfl rfl rfl rfl rfl rfl rfl rfl rfl)
  exact hret _ _ _ _ _ _ hP hD hS (⟨hrr_15.trans (upd_n (by decide)), ⟨J_11, hM.eq (all14 rfl rfl rfl rfl rfl rfl rfl rfl rfl rfl rfl rfl rfl rfl)⟩, hf⟩) dX5_coil_45

set_option maxHeartbeats 4000000 in
set_option maxRecDepth 100000 in
theorem m_coil_t (l : Launch) (E : NE) (ad : Nat → Nat) (st : NW) (b : Nat) (N P : Nat → Int32) (kp : Nat) (C : Nat → Int32) (n : Nat) (th : Int32) (J : Nat → Nat → Int32) (hkp : kp ≤ 6) (hn : n ≤ 60) (hO : okN N) (hM : isR E ad st b sM (mG N P kp C n th J)) (v w : Int32) (hbad : inI v 0 50 = 0) : nMi l yX5_coil wsX5_coil (nRm 2 45) E ad st [.ref (ad b), .int v, .int w] (fun r s1 => r = 0 ∧ (∃ J1, isR E ad s1 b sM (mG N P kp C n 1 J1)) ∧ fr b st s1) := by
  refine nSi (cc := cX5_coil) (maxL := 3) (by decide) rfl (Nat.le_of_ble_eq_true rfl) ?_
  intro pg en s mi ar bw mth cd R Q A ls hx hb hml hown hts hRm hP hK hD hZ hA hl hret
  subst hRm
  have hown : s.vm.findClass RX5 = some mi.cls := hown
  have hS : va_S A s.heap s.heap [] := va_S.rf
  have hl : lv_has ls 3 [(0, .ref (ad b)), (1, .int v), (2, .int w)] := hl
  have hf : fr b st st := fr.rf
  have hdB := hO.1.b
  have hinX5 : ∀ w ∈ wsX50, w ∈ wsX5_coil := by decide +kernel
  refine lv_aload_n hx hb dX5_coil_0 rfl (lv_at hl 0 rfl) ?_
  refine lv_iconst (v := 0) hx hb dX5_coil_1 (by decide) ?_
  refine rp (v := 0) (ty := .int) (T := TX5) (N := 14) (C := RX5) hx hb hts hinX5 tyX5 tyX5_ok nmX5 hown hK hP hD hS hM rfl 6 (by decide) (hts (.fieldLink RX5 28 "NeedleGridModel" "thrown" "I") (by decide +kernel)) rfl rfl (by decide +kernel) rfl rfl dX5_coil_2 (fun s_1 H locs hM hf_2 hP hD hS => ?_)
  have hf := hf.tr hf_2
  refine lv_iload_n hx hb dX5_coil_5 rfl (lv_at hl 1 rfl) ?_
  refine lv_iconst (v := 0) hx hb dX5_coil_6 (by decide) ?_
  refine lv_bipush (v := 50) hx hb dX5_coil_7 (by decide) ?_
  refine nS_i (As := [.int v, .int 0, .int 50]) (rest := _) hx hb hml hown hts hP hK hD hZ hA hS ⟨Nat.zero_le _, Nat.zero_le _⟩ (m_in l E ad s_1 v 0 50) (va_cwS 3 hts gX5_coil_X5_in rfl rfl rfl (by decide +kernel) ⟨Nat.le_of_ble_eq_true rfl, Nat.le_of_ble_eq_true rfl⟩) hl.1 rfl (Nat.le_of_ble_eq_true rfl) dX5_coil_9 (fun r_3 s_4 H locs hq hP hD hS => ?_)
  obtain ⟨rfl, rfl⟩ := hq
  refine lv_if_eq (tgt := 22) hx hb dX5_coil_12 (by decide) (fun c12_4 => ?_) (fun c12_4 => absurd hbad c12_4)
  refine lv_aload_n hx hb dX5_coil_22 rfl (lv_at hl 0 rfl) ?_
  refine lv_iconst (v := 1) hx hb dX5_coil_23 (by decide) ?_
  refine nVi (As := [.int 1]) (rest := _) hx hb hml hown hts hP hK hD hZ hA hS ⟨Nat.zero_le _, Nat.zero_le _⟩ hM.1 rfl (m_fails l E ad s_1 b (gu (mG N P kp C n th J) 6 (fun _ => 0)) hM 1) (cwV 1 hts gX5_coil_X5_fails rfl rfl rfl (by decide +kernel) ⟨Nat.le_of_ble_eq_true rfl, Nat.le_of_ble_eq_true rfl⟩) hl.1 rfl (Nat.le_of_ble_eq_true rfl) dX5_coil_24 (fun r_6 s_8 H locs hq hP hD hS => ?_)
  obtain ⟨hrr_6, hM, hf_7⟩ := hq
  have hrr_6 : r_6 = 0 := hrr_6
  have hf := hf.tr hf_7
  have hM : isR E ad s_8 b sM (gu (mG N P kp C n th J) 6 (fun _ => 1)) := hM.eq (all14 rfl rfl rfl rfl rfl rfl rfl rfl rfl rfl rfl rfl rfl rfl)
  exact hret _ _ _ _ _ _ hP hD hS (⟨hrr_6, ⟨J, hM.eq (all14 rfl rfl rfl rfl rfl rfl rfl rfl rfl rfl rfl rfl rfl rfl)⟩, hf⟩) dX5_coil_27

set_option maxHeartbeats 4000000 in
set_option maxRecDepth 100000 in
theorem m_coil_d (l : Launch) (E : NE) (ad : Nat → Nat) (st : NW) (b : Nat) (N P : Nat → Int32) (kp : Nat) (C : Nat → Int32) (n : Nat) (th : Int32) (J : Nat → Nat → Int32) (hkp : kp ≤ 6) (hn : n ≤ 60) (hO : okN N) (hM : isR E ad st b sM (mG N P kp C n th J)) (t v : Int32) (h1 : ¬ t < 0) (h2 : t ≤ 50) (hbad : inI v 0 7 = 0) : nMi l yX5_coil wsX5_coil (nRm 2 45) E ad st [.ref (ad b), .int t, .int v] (fun r s1 => r = 0 ∧ (∃ J1, isR E ad s1 b sM (mG N P kp C n 1 J1)) ∧ fr b st s1) := by
  refine nSi (cc := cX5_coil) (maxL := 3) (by decide) rfl (Nat.le_of_ble_eq_true rfl) ?_
  intro pg en s mi ar bw mth cd R Q A ls hx hb hml hown hts hRm hP hK hD hZ hA hl hret
  subst hRm
  have hown : s.vm.findClass RX5 = some mi.cls := hown
  have hS : va_S A s.heap s.heap [] := va_S.rf
  have hl : lv_has ls 3 [(0, .ref (ad b)), (1, .int t), (2, .int v)] := hl
  have hf : fr b st st := fr.rf
  have hdB := hO.1.b
  have hinX5 : ∀ w ∈ wsX50, w ∈ wsX5_coil := by decide +kernel
  refine lv_aload_n hx hb dX5_coil_0 rfl (lv_at hl 0 rfl) ?_
  refine lv_iconst (v := 0) hx hb dX5_coil_1 (by decide) ?_
  refine rp (v := 0) (ty := .int) (T := TX5) (N := 14) (C := RX5) hx hb hts hinX5 tyX5 tyX5_ok nmX5 hown hK hP hD hS hM rfl 6 (by decide) (hts (.fieldLink RX5 28 "NeedleGridModel" "thrown" "I") (by decide +kernel)) rfl rfl (by decide +kernel) rfl rfl dX5_coil_2 (fun s_1 H locs hM hf_2 hP hD hS => ?_)
  have hf := hf.tr hf_2
  refine lv_iload_n hx hb dX5_coil_5 rfl (lv_at hl 1 rfl) ?_
  refine lv_iconst (v := 0) hx hb dX5_coil_6 (by decide) ?_
  refine lv_bipush (v := 50) hx hb dX5_coil_7 (by decide) ?_
  refine nS_i (As := [.int t, .int 0, .int 50]) (rest := _) hx hb hml hown hts hP hK hD hZ hA hS ⟨Nat.zero_le _, Nat.zero_le _⟩ (m_in l E ad s_1 t 0 50) (va_cwS 3 hts gX5_coil_X5_in rfl rfl rfl (by decide +kernel) ⟨Nat.le_of_ble_eq_true rfl, Nat.le_of_ble_eq_true rfl⟩) hl.1 rfl (Nat.le_of_ble_eq_true rfl) dX5_coil_9 (fun r_3 s_4 H locs hq hP hD hS => ?_)
  obtain ⟨rfl, rfl⟩ := hq
  refine lv_if_eq (tgt := 22) hx hb dX5_coil_12 (by decide) (fun c12_4 => absurd c12_4 (inI_ok h1 (le_nlt h2))) (fun c12_4 => ?_)
  refine lv_iload_n hx hb dX5_coil_15 rfl (lv_at hl 2 rfl) ?_
  refine nS_i (As := [.int v]) (rest := _) hx hb hml hown hts hP hK hD hZ hA hS ⟨Nat.zero_le _, Nat.zero_le _⟩ (m_isDirection l E ad s_1 v) (va_cwS 1 hts gX5_coil_X5_isDirection rfl rfl rfl (by decide +kernel) ⟨Nat.le_of_ble_eq_true rfl, Nat.le_of_ble_eq_true rfl⟩) hl.1 rfl (Nat.le_of_ble_eq_true rfl) dX5_coil_16 (fun r_6 s_7 H locs hq hP hD hS => ?_)
  obtain ⟨rfl, rfl⟩ := hq
  refine lv_if_ne (tgt := 28) hx hb dX5_coil_19 (by decide) (fun c19_7 => absurd hbad c19_7) (fun c19_7 => ?_)
  refine lv_aload_n hx hb dX5_coil_22 rfl (lv_at hl 0 rfl) ?_
  refine lv_iconst (v := 1) hx hb dX5_coil_23 (by decide) ?_
  refine nVi (As := [.int 1]) (rest := _) hx hb hml hown hts hP hK hD hZ hA hS ⟨Nat.zero_le _, Nat.zero_le _⟩ hM.1 rfl (m_fails l E ad s_1 b (gu (mG N P kp C n th J) 6 (fun _ => 0)) hM 1) (cwV 1 hts gX5_coil_X5_fails rfl rfl rfl (by decide +kernel) ⟨Nat.le_of_ble_eq_true rfl, Nat.le_of_ble_eq_true rfl⟩) hl.1 rfl (Nat.le_of_ble_eq_true rfl) dX5_coil_24 (fun r_9 s_11 H locs hq hP hD hS => ?_)
  obtain ⟨hrr_9, hM, hf_10⟩ := hq
  have hrr_9 : r_9 = 0 := hrr_9
  have hf := hf.tr hf_10
  have hM : isR E ad s_11 b sM (gu (mG N P kp C n th J) 6 (fun _ => 1)) := hM.eq (all14 rfl rfl rfl rfl rfl rfl rfl rfl rfl rfl rfl rfl rfl rfl)
  exact hret _ _ _ _ _ _ hP hD hS (⟨hrr_9, ⟨J, hM.eq (all14 rfl rfl rfl rfl rfl rfl rfl rfl rfl rfl rfl rfl rfl rfl)⟩, hf⟩) dX5_coil_27

set_option maxHeartbeats 4000000 in
set_option maxRecDepth 100000 in
theorem m_set (l : Launch) (E : NE) (ad : Nat → Nat) (st : NW) (b : Nat) (N P : Nat → Int32) (kp : Nat) (C : Nat → Int32) (n : Nat) (th : Int32) (J : Nat → Nat → Int32) (hkp : kp ≤ 6) (hn : n ≤ 60) (hO : okN N) (hM : isR E ad st b sM (mG N P kp C n th J)) (c : Nat) (v : Int32) (hc : c < 3) (h1 : ¬ v < 0) (h2 : v ≤ tM c) : nMi l yX5_set wsX5_set (nRm 2 45) E ad st [.ref (ad b), .int (nI c), .int v] (fun r s1 => r = N c ∧ (∃ J1, isR E ad s1 b sM (mG (upd N c v) (svP P kp N) (svA kp) C n 0 J1)) ∧ fr b st s1) := by
  refine nSi (cc := cX5_set) (maxL := 3) (by decide) rfl (Nat.le_of_ble_eq_true rfl) ?_
  intro pg en s mi ar bw mth cd R Q A ls hx hb hml hown hts hRm hP hK hD hZ hA hl hret
  subst hRm
  have hown : s.vm.findClass RX5 = some mi.cls := hown
  have hS : va_S A s.heap s.heap [] := va_S.rf
  have hl : lv_has ls 3 [(0, .ref (ad b)), (1, .int (nI c)), (2, .int v)] := hl
  have hf : fr b st st := fr.rf
  have hdB := hO.1.b
  have hinX5 : ∀ w ∈ wsX50, w ∈ wsX5_set := by decide +kernel
  refine lv_aload_n hx hb dX5_set_0 rfl (lv_at hl 0 rfl) ?_
  refine lv_iconst (v := 0) hx hb dX5_set_1 (by decide) ?_
  refine rp (v := 0) (ty := .int) (T := TX5) (N := 14) (C := RX5) hx hb hts hinX5 tyX5 tyX5_ok nmX5 hown hK hP hD hS hM rfl 6 (by decide) (hts (.fieldLink RX5 28 "NeedleGridModel" "thrown" "I") (by decide +kernel)) rfl rfl (by decide +kernel) rfl rfl dX5_set_2 (fun s_1 H locs hM hf_2 hP hD hS => ?_)
  have hf := hf.tr hf_2
  refine lv_iload_n hx hb dX5_set_5 rfl (lv_at hl 1 rfl) ?_
  refine lv_iconst (v := 0) hx hb dX5_set_6 (by decide) ?_
  refine lv_iconst (v := 2) hx hb dX5_set_7 (by decide) ?_
  refine nS_i (As := [.int (nI c), .int 0, .int 2]) (rest := _) hx hb hml hown hts hP hK hD hZ hA hS ⟨Nat.zero_le _, Nat.zero_le _⟩ (m_in l E ad s_1 (nI c) 0 2) (va_cwS 3 hts gX5_set_X5_in rfl rfl rfl (by decide +kernel) ⟨Nat.le_of_ble_eq_true rfl, Nat.le_of_ble_eq_true rfl⟩) hl.1 rfl (Nat.le_of_ble_eq_true rfl) dX5_set_8 (fun r_3 s_4 H locs hq hP hD hS => ?_)
  obtain ⟨rfl, rfl⟩ := hq
  refine lv_if_ne (tgt := 20) hx hb dX5_set_11 (by decide) (fun c11_4 => ?_) (fun c11_4 => absurd c11_4 (inI_n (b := 2) rfl (by omega) (by decide)))
  rcases (show c = 0 ∨ c = 1 ∨ c = 2 by omega) with rfl | rfl | rfl
  · refine lv_iload_n hx hb dX5_set_20 rfl (lv_at hl 2 rfl) ?_
    refine lv_iconst (v := 0) hx hb dX5_set_21 (by decide) ?_
    refine lv_iload_n hx hb dX5_set_22 rfl (lv_at hl 1 rfl) ?_
    refine lv_if_ne (tgt := 32) hx hb dX5_set_23 (by decide) (fun c23_5 => absurd (by decide) c23_5) (fun c23_5 => ?_)
    refine lv_sipush (v := 200) hx hb dX5_set_26 (by decide) ?_
    refine lv_goto (tgt := 44) hx hb dX5_set_29 (by decide) ?_
    refine nS_i (As := [.int v, .int 0, .int 200]) (rest := _) hx hb hml hown hts hP hK hD hZ hA hS ⟨Nat.zero_le _, Nat.zero_le _⟩ (m_in l E ad s_1 v 0 200) (va_cwS 3 hts gX5_set_X5_in rfl rfl rfl (by decide +kernel) ⟨Nat.le_of_ble_eq_true rfl, Nat.le_of_ble_eq_true rfl⟩) hl.1 rfl (Nat.le_of_ble_eq_true rfl) dX5_set_44 (fun r_7 s_8 H locs hq hP hD hS => ?_)
    obtain ⟨rfl, rfl⟩ := hq
    refine lv_if_ne (tgt := 56) hx hb dX5_set_47 (by decide) (fun c47_8 => ?_) (fun c47_8 => absurd c47_8 (inI_ok h1 (le_nlt h2)))
    refine lv_aload_n hx hb dX5_set_56 rfl (lv_at hl 0 rfl) ?_
    refine nVv (As := []) (rest := _) hx hb hml hown hts hP hK hD hZ hA hS ⟨Nat.zero_le _, Nat.zero_le _⟩ hM.1 rfl (m_saves l E ad s_1 b N P kp C n 0 J hkp hn hO (hM.eq (all14 rfl rfl rfl rfl rfl rfl rfl rfl rfl rfl rfl rfl rfl rfl)) ) (cwV 0 hts gX5_set_X5_saves rfl rfl rfl (by decide +kernel) ⟨Nat.le_of_ble_eq_true rfl, Nat.le_of_ble_eq_true rfl⟩) hl.1 rfl (Nat.le_of_ble_eq_true rfl) dX5_set_57 (fun s_13 H locs hq hP hD hS => ?_)
    obtain ⟨⟨J_12, hM⟩, hf_11⟩ := hq
    have hf := hf.tr hf_11
    refine lv_aload_n hx hb dX5_set_60 rfl (lv_at hl 0 rfl) ?_
    refine lv_iload_n hx hb dX5_set_61 rfl (lv_at hl 1 rfl) ?_
    refine lv_iload_n hx hb dX5_set_62 rfl (lv_at hl 2 rfl) ?_
    refine nVi (As := [.int (nI 0), .int v]) (rest := _) hx hb hml hown hts hP hK hD hZ hA hS ⟨Nat.zero_le _, Nat.zero_le _⟩ hM.1 rfl (m_changes l E ad s_13 b (mG N (svP P kp N) (svA kp) C n 0 J_12) hM 0 (by omega) v) (cwV 2 hts gX5_set_X5_changes rfl rfl rfl (by decide +kernel) ⟨Nat.le_of_ble_eq_true rfl, Nat.le_of_ble_eq_true rfl⟩) hl.1 rfl (Nat.le_of_ble_eq_true rfl) dX5_set_63 (fun r_14 s_16 H locs hq hP hD hS => ?_)
    obtain ⟨hrr_14, hM, hf_15⟩ := hq
    have hrr_14 : r_14 = N 0 := hrr_14
    have hf := hf.tr hf_15
    exact hret _ _ _ _ _ _ hP hD hS (⟨hrr_14, ⟨J_12, hM.eq (all14 rfl rfl rfl rfl rfl rfl rfl rfl rfl rfl rfl rfl rfl rfl)⟩, hf⟩) dX5_set_66
  · refine lv_iload_n hx hb dX5_set_20 rfl (lv_at hl 2 rfl) ?_
    refine lv_iconst (v := 0) hx hb dX5_set_21 (by decide) ?_
    refine lv_iload_n hx hb dX5_set_22 rfl (lv_at hl 1 rfl) ?_
    refine lv_if_ne (tgt := 32) hx hb dX5_set_23 (by decide) (fun c23_16 => ?_) (fun c23_16 => absurd c23_16 (by decide))
    refine lv_iload_n hx hb dX5_set_32 rfl (lv_at hl 1 rfl) ?_
    refine lv_iconst (v := 1) hx hb dX5_set_33 (by decide) ?_
    refine lv_icmp_ne (tgt := 42) hx hb dX5_set_34 (by decide) (fun c34_17 => absurd (by decide) c34_17) (fun c34_17 => ?_)
    refine lv_bipush (v := 20) hx hb dX5_set_37 (by decide) ?_
    refine lv_goto (tgt := 44) hx hb dX5_set_39 (by decide) ?_
    refine nS_i (As := [.int v, .int 0, .int 20]) (rest := _) hx hb hml hown hts hP hK hD hZ hA hS ⟨Nat.zero_le _, Nat.zero_le _⟩ (m_in l E ad s_1 v 0 20) (va_cwS 3 hts gX5_set_X5_in rfl rfl rfl (by decide +kernel) ⟨Nat.le_of_ble_eq_true rfl, Nat.le_of_ble_eq_true rfl⟩) hl.1 rfl (Nat.le_of_ble_eq_true rfl) dX5_set_44 (fun r_19 s_20 H locs hq hP hD hS => ?_)
    obtain ⟨rfl, rfl⟩ := hq
    refine lv_if_ne (tgt := 56) hx hb dX5_set_47 (by decide) (fun c47_20 => ?_) (fun c47_20 => absurd c47_20 (inI_ok h1 (le_nlt h2)))
    refine lv_aload_n hx hb dX5_set_56 rfl (lv_at hl 0 rfl) ?_
    refine nVv (As := []) (rest := _) hx hb hml hown hts hP hK hD hZ hA hS ⟨Nat.zero_le _, Nat.zero_le _⟩ hM.1 rfl (m_saves l E ad s_1 b N P kp C n 0 J hkp hn hO (hM.eq (all14 rfl rfl rfl rfl rfl rfl rfl rfl rfl rfl rfl rfl rfl rfl)) ) (cwV 0 hts gX5_set_X5_saves rfl rfl rfl (by decide +kernel) ⟨Nat.le_of_ble_eq_true rfl, Nat.le_of_ble_eq_true rfl⟩) hl.1 rfl (Nat.le_of_ble_eq_true rfl) dX5_set_57 (fun s_25 H locs hq hP hD hS => ?_)
    obtain ⟨⟨J_24, hM⟩, hf_23⟩ := hq
    have hf := hf.tr hf_23
    refine lv_aload_n hx hb dX5_set_60 rfl (lv_at hl 0 rfl) ?_
    refine lv_iload_n hx hb dX5_set_61 rfl (lv_at hl 1 rfl) ?_
    refine lv_iload_n hx hb dX5_set_62 rfl (lv_at hl 2 rfl) ?_
    refine nVi (As := [.int (nI 1), .int v]) (rest := _) hx hb hml hown hts hP hK hD hZ hA hS ⟨Nat.zero_le _, Nat.zero_le _⟩ hM.1 rfl (m_changes l E ad s_25 b (mG N (svP P kp N) (svA kp) C n 0 J_24) hM 1 (by omega) v) (cwV 2 hts gX5_set_X5_changes rfl rfl rfl (by decide +kernel) ⟨Nat.le_of_ble_eq_true rfl, Nat.le_of_ble_eq_true rfl⟩) hl.1 rfl (Nat.le_of_ble_eq_true rfl) dX5_set_63 (fun r_26 s_28 H locs hq hP hD hS => ?_)
    obtain ⟨hrr_26, hM, hf_27⟩ := hq
    have hrr_26 : r_26 = N 1 := hrr_26
    have hf := hf.tr hf_27
    exact hret _ _ _ _ _ _ hP hD hS (⟨hrr_26, ⟨J_24, hM.eq (all14 rfl rfl rfl rfl rfl rfl rfl rfl rfl rfl rfl rfl rfl rfl)⟩, hf⟩) dX5_set_66
  · refine lv_iload_n hx hb dX5_set_20 rfl (lv_at hl 2 rfl) ?_
    refine lv_iconst (v := 0) hx hb dX5_set_21 (by decide) ?_
    refine lv_iload_n hx hb dX5_set_22 rfl (lv_at hl 1 rfl) ?_
    refine lv_if_ne (tgt := 32) hx hb dX5_set_23 (by decide) (fun c23_28 => ?_) (fun c23_28 => absurd c23_28 (by decide))
    refine lv_iload_n hx hb dX5_set_32 rfl (lv_at hl 1 rfl) ?_
    refine lv_iconst (v := 1) hx hb dX5_set_33 (by decide) ?_
    refine lv_icmp_ne (tgt := 42) hx hb dX5_set_34 (by decide) (fun c34_29 => ?_) (fun c34_29 => absurd c34_29 (by decide))
    refine lv_bipush (v := 50) hx hb dX5_set_42 (by decide) ?_
    refine nS_i (As := [.int v, .int 0, .int 50]) (rest := _) hx hb hml hown hts hP hK hD hZ hA hS ⟨Nat.zero_le _, Nat.zero_le _⟩ (m_in l E ad s_1 v 0 50) (va_cwS 3 hts gX5_set_X5_in rfl rfl rfl (by decide +kernel) ⟨Nat.le_of_ble_eq_true rfl, Nat.le_of_ble_eq_true rfl⟩) hl.1 rfl (Nat.le_of_ble_eq_true rfl) dX5_set_44 (fun r_31 s_32 H locs hq hP hD hS => ?_)
    obtain ⟨rfl, rfl⟩ := hq
    refine lv_if_ne (tgt := 56) hx hb dX5_set_47 (by decide) (fun c47_32 => ?_) (fun c47_32 => absurd c47_32 (inI_ok h1 (le_nlt h2)))
    refine lv_aload_n hx hb dX5_set_56 rfl (lv_at hl 0 rfl) ?_
    refine nVv (As := []) (rest := _) hx hb hml hown hts hP hK hD hZ hA hS ⟨Nat.zero_le _, Nat.zero_le _⟩ hM.1 rfl (m_saves l E ad s_1 b N P kp C n 0 J hkp hn hO (hM.eq (all14 rfl rfl rfl rfl rfl rfl rfl rfl rfl rfl rfl rfl rfl rfl)) ) (cwV 0 hts gX5_set_X5_saves rfl rfl rfl (by decide +kernel) ⟨Nat.le_of_ble_eq_true rfl, Nat.le_of_ble_eq_true rfl⟩) hl.1 rfl (Nat.le_of_ble_eq_true rfl) dX5_set_57 (fun s_37 H locs hq hP hD hS => ?_)
    obtain ⟨⟨J_36, hM⟩, hf_35⟩ := hq
    have hf := hf.tr hf_35
    refine lv_aload_n hx hb dX5_set_60 rfl (lv_at hl 0 rfl) ?_
    refine lv_iload_n hx hb dX5_set_61 rfl (lv_at hl 1 rfl) ?_
    refine lv_iload_n hx hb dX5_set_62 rfl (lv_at hl 2 rfl) ?_
    refine nVi (As := [.int (nI 2), .int v]) (rest := _) hx hb hml hown hts hP hK hD hZ hA hS ⟨Nat.zero_le _, Nat.zero_le _⟩ hM.1 rfl (m_changes l E ad s_37 b (mG N (svP P kp N) (svA kp) C n 0 J_36) hM 2 (by omega) v) (cwV 2 hts gX5_set_X5_changes rfl rfl rfl (by decide +kernel) ⟨Nat.le_of_ble_eq_true rfl, Nat.le_of_ble_eq_true rfl⟩) hl.1 rfl (Nat.le_of_ble_eq_true rfl) dX5_set_63 (fun r_38 s_40 H locs hq hP hD hS => ?_)
    obtain ⟨hrr_38, hM, hf_39⟩ := hq
    have hrr_38 : r_38 = N 2 := hrr_38
    have hf := hf.tr hf_39
    exact hret _ _ _ _ _ _ hP hD hS (⟨hrr_38, ⟨J_36, hM.eq (all14 rfl rfl rfl rfl rfl rfl rfl rfl rfl rfl rfl rfl rfl rfl)⟩, hf⟩) dX5_set_66

set_option maxHeartbeats 4000000 in
set_option maxRecDepth 100000 in
theorem m_set_c (l : Launch) (E : NE) (ad : Nat → Nat) (st : NW) (b : Nat) (N P : Nat → Int32) (kp : Nat) (C : Nat → Int32) (n : Nat) (th : Int32) (J : Nat → Nat → Int32) (hkp : kp ≤ 6) (hn : n ≤ 60) (hO : okN N) (hM : isR E ad st b sM (mG N P kp C n th J)) (v w : Int32) (hbad : inI v 0 2 = 0) : nMi l yX5_set wsX5_set (nRm 2 45) E ad st [.ref (ad b), .int v, .int w] (fun r s1 => r = 0 ∧ (∃ J1, isR E ad s1 b sM (mG N P kp C n 1 J1)) ∧ fr b st s1) := by
  refine nSi (cc := cX5_set) (maxL := 3) (by decide) rfl (Nat.le_of_ble_eq_true rfl) ?_
  intro pg en s mi ar bw mth cd R Q A ls hx hb hml hown hts hRm hP hK hD hZ hA hl hret
  subst hRm
  have hown : s.vm.findClass RX5 = some mi.cls := hown
  have hS : va_S A s.heap s.heap [] := va_S.rf
  have hl : lv_has ls 3 [(0, .ref (ad b)), (1, .int v), (2, .int w)] := hl
  have hf : fr b st st := fr.rf
  have hdB := hO.1.b
  have hinX5 : ∀ w ∈ wsX50, w ∈ wsX5_set := by decide +kernel
  refine lv_aload_n hx hb dX5_set_0 rfl (lv_at hl 0 rfl) ?_
  refine lv_iconst (v := 0) hx hb dX5_set_1 (by decide) ?_
  refine rp (v := 0) (ty := .int) (T := TX5) (N := 14) (C := RX5) hx hb hts hinX5 tyX5 tyX5_ok nmX5 hown hK hP hD hS hM rfl 6 (by decide) (hts (.fieldLink RX5 28 "NeedleGridModel" "thrown" "I") (by decide +kernel)) rfl rfl (by decide +kernel) rfl rfl dX5_set_2 (fun s_1 H locs hM hf_2 hP hD hS => ?_)
  have hf := hf.tr hf_2
  refine lv_iload_n hx hb dX5_set_5 rfl (lv_at hl 1 rfl) ?_
  refine lv_iconst (v := 0) hx hb dX5_set_6 (by decide) ?_
  refine lv_iconst (v := 2) hx hb dX5_set_7 (by decide) ?_
  refine nS_i (As := [.int v, .int 0, .int 2]) (rest := _) hx hb hml hown hts hP hK hD hZ hA hS ⟨Nat.zero_le _, Nat.zero_le _⟩ (m_in l E ad s_1 v 0 2) (va_cwS 3 hts gX5_set_X5_in rfl rfl rfl (by decide +kernel) ⟨Nat.le_of_ble_eq_true rfl, Nat.le_of_ble_eq_true rfl⟩) hl.1 rfl (Nat.le_of_ble_eq_true rfl) dX5_set_8 (fun r_3 s_4 H locs hq hP hD hS => ?_)
  obtain ⟨rfl, rfl⟩ := hq
  refine lv_if_ne (tgt := 20) hx hb dX5_set_11 (by decide) (fun c11_4 => absurd hbad c11_4) (fun c11_4 => ?_)
  refine lv_aload_n hx hb dX5_set_14 rfl (lv_at hl 0 rfl) ?_
  refine lv_iconst (v := 1) hx hb dX5_set_15 (by decide) ?_
  refine nVi (As := [.int 1]) (rest := _) hx hb hml hown hts hP hK hD hZ hA hS ⟨Nat.zero_le _, Nat.zero_le _⟩ hM.1 rfl (m_fails l E ad s_1 b (gu (mG N P kp C n th J) 6 (fun _ => 0)) hM 1) (cwV 1 hts gX5_set_X5_fails rfl rfl rfl (by decide +kernel) ⟨Nat.le_of_ble_eq_true rfl, Nat.le_of_ble_eq_true rfl⟩) hl.1 rfl (Nat.le_of_ble_eq_true rfl) dX5_set_16 (fun r_6 s_8 H locs hq hP hD hS => ?_)
  obtain ⟨hrr_6, hM, hf_7⟩ := hq
  have hrr_6 : r_6 = 0 := hrr_6
  have hf := hf.tr hf_7
  have hM : isR E ad s_8 b sM (gu (mG N P kp C n th J) 6 (fun _ => 1)) := hM.eq (all14 rfl rfl rfl rfl rfl rfl rfl rfl rfl rfl rfl rfl rfl rfl)
  exact hret _ _ _ _ _ _ hP hD hS (⟨hrr_6, ⟨J, hM.eq (all14 rfl rfl rfl rfl rfl rfl rfl rfl rfl rfl rfl rfl rfl rfl)⟩, hf⟩) dX5_set_19

set_option maxHeartbeats 4000000 in
set_option maxRecDepth 100000 in
theorem m_set_v (l : Launch) (E : NE) (ad : Nat → Nat) (st : NW) (b : Nat) (N P : Nat → Int32) (kp : Nat) (C : Nat → Int32) (n : Nat) (th : Int32) (J : Nat → Nat → Int32) (hkp : kp ≤ 6) (hn : n ≤ 60) (hO : okN N) (hM : isR E ad st b sM (mG N P kp C n th J)) (c : Nat) (hc : c < 3) (v : Int32) (hbad : inI v 0 (tM c) = 0) : nMi l yX5_set wsX5_set (nRm 2 45) E ad st [.ref (ad b), .int (nI c), .int v] (fun r s1 => r = 0 ∧ (∃ J1, isR E ad s1 b sM (mG N P kp C n 2 J1)) ∧ fr b st s1) := by
  refine nSi (cc := cX5_set) (maxL := 3) (by decide) rfl (Nat.le_of_ble_eq_true rfl) ?_
  intro pg en s mi ar bw mth cd R Q A ls hx hb hml hown hts hRm hP hK hD hZ hA hl hret
  subst hRm
  have hown : s.vm.findClass RX5 = some mi.cls := hown
  have hS : va_S A s.heap s.heap [] := va_S.rf
  have hl : lv_has ls 3 [(0, .ref (ad b)), (1, .int (nI c)), (2, .int v)] := hl
  have hf : fr b st st := fr.rf
  have hdB := hO.1.b
  have hinX5 : ∀ w ∈ wsX50, w ∈ wsX5_set := by decide +kernel
  refine lv_aload_n hx hb dX5_set_0 rfl (lv_at hl 0 rfl) ?_
  refine lv_iconst (v := 0) hx hb dX5_set_1 (by decide) ?_
  refine rp (v := 0) (ty := .int) (T := TX5) (N := 14) (C := RX5) hx hb hts hinX5 tyX5 tyX5_ok nmX5 hown hK hP hD hS hM rfl 6 (by decide) (hts (.fieldLink RX5 28 "NeedleGridModel" "thrown" "I") (by decide +kernel)) rfl rfl (by decide +kernel) rfl rfl dX5_set_2 (fun s_1 H locs hM hf_2 hP hD hS => ?_)
  have hf := hf.tr hf_2
  refine lv_iload_n hx hb dX5_set_5 rfl (lv_at hl 1 rfl) ?_
  refine lv_iconst (v := 0) hx hb dX5_set_6 (by decide) ?_
  refine lv_iconst (v := 2) hx hb dX5_set_7 (by decide) ?_
  refine nS_i (As := [.int (nI c), .int 0, .int 2]) (rest := _) hx hb hml hown hts hP hK hD hZ hA hS ⟨Nat.zero_le _, Nat.zero_le _⟩ (m_in l E ad s_1 (nI c) 0 2) (va_cwS 3 hts gX5_set_X5_in rfl rfl rfl (by decide +kernel) ⟨Nat.le_of_ble_eq_true rfl, Nat.le_of_ble_eq_true rfl⟩) hl.1 rfl (Nat.le_of_ble_eq_true rfl) dX5_set_8 (fun r_3 s_4 H locs hq hP hD hS => ?_)
  obtain ⟨rfl, rfl⟩ := hq
  refine lv_if_ne (tgt := 20) hx hb dX5_set_11 (by decide) (fun c11_4 => ?_) (fun c11_4 => absurd c11_4 (inI_n (b := 2) rfl (by omega) (by decide)))
  rcases (show c = 0 ∨ c = 1 ∨ c = 2 by omega) with rfl | rfl | rfl
  · refine lv_iload_n hx hb dX5_set_20 rfl (lv_at hl 2 rfl) ?_
    refine lv_iconst (v := 0) hx hb dX5_set_21 (by decide) ?_
    refine lv_iload_n hx hb dX5_set_22 rfl (lv_at hl 1 rfl) ?_
    refine lv_if_ne (tgt := 32) hx hb dX5_set_23 (by decide) (fun c23_5 => absurd (by decide) c23_5) (fun c23_5 => ?_)
    refine lv_sipush (v := 200) hx hb dX5_set_26 (by decide) ?_
    refine lv_goto (tgt := 44) hx hb dX5_set_29 (by decide) ?_
    refine nS_i (As := [.int v, .int 0, .int 200]) (rest := _) hx hb hml hown hts hP hK hD hZ hA hS ⟨Nat.zero_le _, Nat.zero_le _⟩ (m_in l E ad s_1 v 0 200) (va_cwS 3 hts gX5_set_X5_in rfl rfl rfl (by decide +kernel) ⟨Nat.le_of_ble_eq_true rfl, Nat.le_of_ble_eq_true rfl⟩) hl.1 rfl (Nat.le_of_ble_eq_true rfl) dX5_set_44 (fun r_7 s_8 H locs hq hP hD hS => ?_)
    obtain ⟨rfl, rfl⟩ := hq
    refine lv_if_ne (tgt := 56) hx hb dX5_set_47 (by decide) (fun c47_8 => absurd hbad c47_8) (fun c47_8 => ?_)
    refine lv_aload_n hx hb dX5_set_50 rfl (lv_at hl 0 rfl) ?_
    refine lv_iconst (v := 2) hx hb dX5_set_51 (by decide) ?_
    refine nVi (As := [.int 2]) (rest := _) hx hb hml hown hts hP hK hD hZ hA hS ⟨Nat.zero_le _, Nat.zero_le _⟩ hM.1 rfl (m_fails l E ad s_1 b (gu (mG N P kp C n th J) 6 (fun _ => 0)) hM 2) (cwV 1 hts gX5_set_X5_fails rfl rfl rfl (by decide +kernel) ⟨Nat.le_of_ble_eq_true rfl, Nat.le_of_ble_eq_true rfl⟩) hl.1 rfl (Nat.le_of_ble_eq_true rfl) dX5_set_52 (fun r_10 s_12 H locs hq hP hD hS => ?_)
    obtain ⟨hrr_10, hM, hf_11⟩ := hq
    have hrr_10 : r_10 = 0 := hrr_10
    have hf := hf.tr hf_11
    have hM : isR E ad s_12 b sM (gu (mG N P kp C n th J) 6 (fun _ => 2)) := hM.eq (all14 rfl rfl rfl rfl rfl rfl rfl rfl rfl rfl rfl rfl rfl rfl)
    exact hret _ _ _ _ _ _ hP hD hS (⟨hrr_10, ⟨J, hM.eq (all14 rfl rfl rfl rfl rfl rfl rfl rfl rfl rfl rfl rfl rfl rfl)⟩, hf⟩) dX5_set_55
  · refine lv_iload_n hx hb dX5_set_20 rfl (lv_at hl 2 rfl) ?_
    refine lv_iconst (v := 0) hx hb dX5_set_21 (by decide) ?_
    refine lv_iload_n hx hb dX5_set_22 rfl (lv_at hl 1 rfl) ?_
    refine lv_if_ne (tgt := 32) hx hb dX5_set_23 (by decide) (fun c23_12 => ?_) (fun c23_12 => absurd c23_12 (by decide))
    refine lv_iload_n hx hb dX5_set_32 rfl (lv_at hl 1 rfl) ?_
    refine lv_iconst (v := 1) hx hb dX5_set_33 (by decide) ?_
    refine lv_icmp_ne (tgt := 42) hx hb dX5_set_34 (by decide) (fun c34_13 => absurd (by decide) c34_13) (fun c34_13 => ?_)
    refine lv_bipush (v := 20) hx hb dX5_set_37 (by decide) ?_
    refine lv_goto (tgt := 44) hx hb dX5_set_39 (by decide) ?_
    refine nS_i (As := [.int v, .int 0, .int 20]) (rest := _) hx hb hml hown hts hP hK hD hZ hA hS ⟨Nat.zero_le _, Nat.zero_le _⟩ (m_in l E ad s_1 v 0 20) (va_cwS 3 hts gX5_set_X5_in rfl rfl rfl (by decide +kernel) ⟨Nat.le_of_ble_eq_true rfl, Nat.le_of_ble_eq_true rfl⟩) hl.1 rfl (Nat.le_of_ble_eq_true rfl) dX5_set_44 (fun r_15 s_16 H locs hq hP hD hS => ?_)
    obtain ⟨rfl, rfl⟩ := hq
    refine lv_if_ne (tgt := 56) hx hb dX5_set_47 (by decide) (fun c47_16 => absurd hbad c47_16) (fun c47_16 => ?_)
    refine lv_aload_n hx hb dX5_set_50 rfl (lv_at hl 0 rfl) ?_
    refine lv_iconst (v := 2) hx hb dX5_set_51 (by decide) ?_
    refine nVi (As := [.int 2]) (rest := _) hx hb hml hown hts hP hK hD hZ hA hS ⟨Nat.zero_le _, Nat.zero_le _⟩ hM.1 rfl (m_fails l E ad s_1 b (gu (mG N P kp C n th J) 6 (fun _ => 0)) hM 2) (cwV 1 hts gX5_set_X5_fails rfl rfl rfl (by decide +kernel) ⟨Nat.le_of_ble_eq_true rfl, Nat.le_of_ble_eq_true rfl⟩) hl.1 rfl (Nat.le_of_ble_eq_true rfl) dX5_set_52 (fun r_18 s_20 H locs hq hP hD hS => ?_)
    obtain ⟨hrr_18, hM, hf_19⟩ := hq
    have hrr_18 : r_18 = 0 := hrr_18
    have hf := hf.tr hf_19
    have hM : isR E ad s_20 b sM (gu (mG N P kp C n th J) 6 (fun _ => 2)) := hM.eq (all14 rfl rfl rfl rfl rfl rfl rfl rfl rfl rfl rfl rfl rfl rfl)
    exact hret _ _ _ _ _ _ hP hD hS (⟨hrr_18, ⟨J, hM.eq (all14 rfl rfl rfl rfl rfl rfl rfl rfl rfl rfl rfl rfl rfl rfl)⟩, hf⟩) dX5_set_55
  · refine lv_iload_n hx hb dX5_set_20 rfl (lv_at hl 2 rfl) ?_
    refine lv_iconst (v := 0) hx hb dX5_set_21 (by decide) ?_
    refine lv_iload_n hx hb dX5_set_22 rfl (lv_at hl 1 rfl) ?_
    refine lv_if_ne (tgt := 32) hx hb dX5_set_23 (by decide) (fun c23_20 => ?_) (fun c23_20 => absurd c23_20 (by decide))
    refine lv_iload_n hx hb dX5_set_32 rfl (lv_at hl 1 rfl) ?_
    refine lv_iconst (v := 1) hx hb dX5_set_33 (by decide) ?_
    refine lv_icmp_ne (tgt := 42) hx hb dX5_set_34 (by decide) (fun c34_21 => ?_) (fun c34_21 => absurd c34_21 (by decide))
    refine lv_bipush (v := 50) hx hb dX5_set_42 (by decide) ?_
    refine nS_i (As := [.int v, .int 0, .int 50]) (rest := _) hx hb hml hown hts hP hK hD hZ hA hS ⟨Nat.zero_le _, Nat.zero_le _⟩ (m_in l E ad s_1 v 0 50) (va_cwS 3 hts gX5_set_X5_in rfl rfl rfl (by decide +kernel) ⟨Nat.le_of_ble_eq_true rfl, Nat.le_of_ble_eq_true rfl⟩) hl.1 rfl (Nat.le_of_ble_eq_true rfl) dX5_set_44 (fun r_23 s_24 H locs hq hP hD hS => ?_)
    obtain ⟨rfl, rfl⟩ := hq
    refine lv_if_ne (tgt := 56) hx hb dX5_set_47 (by decide) (fun c47_24 => absurd hbad c47_24) (fun c47_24 => ?_)
    refine lv_aload_n hx hb dX5_set_50 rfl (lv_at hl 0 rfl) ?_
    refine lv_iconst (v := 2) hx hb dX5_set_51 (by decide) ?_
    refine nVi (As := [.int 2]) (rest := _) hx hb hml hown hts hP hK hD hZ hA hS ⟨Nat.zero_le _, Nat.zero_le _⟩ hM.1 rfl (m_fails l E ad s_1 b (gu (mG N P kp C n th J) 6 (fun _ => 0)) hM 2) (cwV 1 hts gX5_set_X5_fails rfl rfl rfl (by decide +kernel) ⟨Nat.le_of_ble_eq_true rfl, Nat.le_of_ble_eq_true rfl⟩) hl.1 rfl (Nat.le_of_ble_eq_true rfl) dX5_set_52 (fun r_26 s_28 H locs hq hP hD hS => ?_)
    obtain ⟨hrr_26, hM, hf_27⟩ := hq
    have hrr_26 : r_26 = 0 := hrr_26
    have hf := hf.tr hf_27
    have hM : isR E ad s_28 b sM (gu (mG N P kp C n th J) 6 (fun _ => 2)) := hM.eq (all14 rfl rfl rfl rfl rfl rfl rfl rfl rfl rfl rfl rfl rfl rfl)
    exact hret _ _ _ _ _ _ hP hD hS (⟨hrr_26, ⟨J, hM.eq (all14 rfl rfl rfl rfl rfl rfl rfl rfl rfl rfl rfl rfl rfl rfl)⟩, hf⟩) dX5_set_55

set_option maxHeartbeats 4000000 in
set_option maxRecDepth 100000 in
theorem m_step (l : Launch) (E : NE) (ad : Nat → Nat) (st : NW) (b : Nat) (N P : Nat → Int32) (kp : Nat) (C : Nat → Int32) (n : Nat) (th : Int32) (J : Nat → Nat → Int32) (hkp : kp ≤ 6) (hn : n ≤ 60) (hO : okN N) (hM : isR E ad st b sM (mG N P kp C n th J)) (k : Nat) (hk : k ≤ 50) (hk1 : 1 ≤ k) : nMi l yX5_step wsX5_step (nRm 8 189) E ad st [.ref (ad b), .int (nI k)] (fun r s1 => r = tgN (gN N) k ∧ (∃ J1, isR E ad s1 b sM (mG (upd (itN N k) 3 (N 3 + nI k)) (svP P kp N) (svA kp) C n 0 J1)) ∧ fr b st s1) := by
  refine nSi (cc := cX5_step) (maxL := 4) (by decide) rfl (Nat.le_of_ble_eq_true rfl) ?_
  intro pg en s mi ar bw mth cd R Q A ls hx hb hml hown hts hRm hP hK hD hZ hA hl hret
  subst hRm
  have hown : s.vm.findClass RX5 = some mi.cls := hown
  have hS : va_S A s.heap s.heap [] := va_S.rf
  have hl : lv_has ls 4 [(0, .ref (ad b)), (1, .int (nI k))] := hl
  have hf : fr b st st := fr.rf
  have hdB := hO.1.b
  have hinX5 : ∀ w ∈ wsX50, w ∈ wsX5_step := by decide +kernel
  refine lv_aload_n hx hb dX5_step_0 rfl (lv_at hl 0 rfl) ?_
  refine lv_iconst (v := 0) hx hb dX5_step_1 (by decide) ?_
  refine rp (v := 0) (ty := .int) (T := TX5) (N := 14) (C := RX5) hx hb hts hinX5 tyX5 tyX5_ok nmX5 hown hK hP hD hS hM rfl 6 (by decide) (hts (.fieldLink RX5 28 "NeedleGridModel" "thrown" "I") (by decide +kernel)) rfl rfl (by decide +kernel) rfl rfl dX5_step_2 (fun s_1 H locs hM hf_2 hP hD hS => ?_)
  have hf := hf.tr hf_2
  refine lv_iload_n hx hb dX5_step_5 rfl (lv_at hl 1 rfl) ?_
  refine lv_iconst (v := 1) hx hb dX5_step_6 (by decide) ?_
  refine lv_bipush (v := 50) hx hb dX5_step_7 (by decide) ?_
  refine nS_i (As := [.int (nI k), .int 1, .int 50]) (rest := _) hx hb hml hown hts hP hK hD hZ hA hS ⟨Nat.zero_le _, Nat.zero_le _⟩ (m_in l E ad s_1 (nI k) 1 50) (va_cwS 3 hts gX5_step_X5_in rfl rfl rfl (by decide +kernel) ⟨Nat.le_of_ble_eq_true rfl, Nat.le_of_ble_eq_true rfl⟩) hl.1 rfl (Nat.le_of_ble_eq_true rfl) dX5_step_9 (fun r_3 s_4 H locs hq hP hD hS => ?_)
  obtain ⟨rfl, rfl⟩ := hq
  refine lv_if_ne (tgt := 21) hx hb dX5_step_12 (by decide) (fun c12_4 => ?_) (fun c12_4 => absurd c12_4 (inI_ok (fun h9 => by have := (nI_ltL (n := 1) rfl (by decide) (by omega)).mp h9; omega) (le_nlt ((nI_leL (n := 50) rfl (by decide) (by omega)).mpr (by omega)))))
  refine lv_aload_n hx hb dX5_step_21 rfl (lv_at hl 0 rfl) ?_
  refine nVv (As := []) (rest := _) hx hb hml hown hts hP hK hD hZ hA hS ⟨Nat.zero_le _, Nat.zero_le _⟩ hM.1 rfl (m_saves l E ad s_1 b N P kp C n 0 J hkp hn hO (hM.eq (all14 rfl rfl rfl rfl rfl rfl rfl rfl rfl rfl rfl rfl rfl rfl)) ) (cwV 0 hts gX5_step_X5_saves rfl rfl rfl (by decide +kernel) ⟨Nat.le_of_ble_eq_true rfl, Nat.le_of_ble_eq_true rfl⟩) hl.1 rfl (Nat.le_of_ble_eq_true rfl) dX5_step_22 (fun s_9 H locs hq hP hD hS => ?_)
  obtain ⟨⟨J_8, hM⟩, hf_7⟩ := hq
  have hf := hf.tr hf_7
  refine lv_iconst (v := 0) hx hb dX5_step_25 (by decide) ?_
  refine lv_istore_n (lv' := [(2, .int 0), (0, .ref (ad b)), (1, .int (nI k))]) hx hb dX5_step_26 rfl hl (by decide) rfl (fun ls hl => ?_)
  refine lv_iconst (v := 0) hx hb dX5_step_27 (by decide) ?_
  refine lv_istore_n (lv' := [(3, .int 0), (2, .int 0), (0, .ref (ad b)), (1, .int (nI k))]) hx hb dX5_step_28 rfl hl (by decide) rfl (fun ls hl => ?_)
  have hM : isR E ad s_9 b sM (mG N (svP P kp N) (svA kp) C n 0 J_8) := hM.eq (all14 rfl rfl rfl rfl rfl rfl rfl rfl rfl rfl rfl rfl rfl rfl)
  have LP_10 : ∀ (k9 i : Nat), i ≤ k → k - i < k9 → ∀ (sL_11 : NW) (H : Heap) (locs : List Loc) (ls : Array Slot) (za : Nat → Int32) (zb : Nat → Int32) (zc : Nat → Int32), isR E ad sL_11 b sM (gu (gu (gu (gu (mG N (svP P kp N) (svA kp) C n 0 J_8) 0 (itN N i)) 11 za) 12 zb) 13 zc) → fr b st sL_11 → nP E ad sL_11 H → nD A ad sL_11 → va_S A s.heap H locs → lv_has ls 4 [(2, .int (mtn N i)), (3, .int (nI i)), (0, .ref (ad b)), (1, .int (nI k))] → W pg l en (nRm 8 189) s mi ar bw mth cd H locs 0 0 Q (F0 mi 29 ls []) := by
    intro k9
    induction k9 with
    | zero => intro i _ h9; exact absurd h9 (Nat.not_lt_zero _)
    | succ k9 ih29 =>
      intro i hi hk9 sL_11 H locs ls za zb zc hM hf hP hD hS hl
      refine lv_iload_n hx hb dX5_step_29 rfl (lv_at hl 1 rfl) ?_
      refine lv_iload_n hx hb dX5_step_30 rfl (lv_at hl 3 rfl) ?_
      refine lv_icmp_ge (tgt := 51) hx hb dX5_step_31 (by decide) (fun c31_11 => ?_) (fun c31_11 => ?_)
      · have h36 : k ≤ i := (nI_leI (by omega) (by omega)).mp c31_11
        obtain rfl : k = i := by omega
        refine lv_aload_n hx hb dX5_step_51 rfl (lv_at hl 2 rfl) ?_
        refine rg (v := .ref (ad (b + 1 + 0))) (T := TX5) (N := 14) (C := RX5) hx hb hts hinX5 hown hK hP hM rfl 0 (by decide) (hts (.fieldLink RX5 7 "NeedleGridModel" "now" "[I") (by decide +kernel)) rfl dX5_step_52 ?_
        refine lv_iconst (v := 3) hx hb dX5_step_55 (by decide) ?_
        refine lv_dup2_11 hx hb dX5_step_56 rfl rfl ?_
        refine ra (j := 3) (n := 186) hx hb hK hP hM 0 rfl (by omega) (by decide) dX5_step_57 ?_
        refine lv_iload_n hx hb dX5_step_58 rfl (lv_at hl 3 rfl) ?_
        refine lv_iadd hx hb dX5_step_59 ?_
        refine rs (j := 3) (n := 186) (x := ((itN N k) 3) + (nI k)) hx hb hK hP hD hS hM 0 rfl (by decide) (by omega) (by decide) dX5_step_60 (fun s_13 H locs hM hf_14 hP hD hS => ?_)
        have hf := hf.tr hf_14
        have hM : isR E ad s_13 b sM (gu (gu (gu (gu (mG N (svP P kp N) (svA kp) C n 0 J_8) 11 za) 12 zb) 13 zc) 0 (upd (itN N k) 3 (((itN N k) 3) + (nI k)))) := hM.eq (all14 rfl rfl rfl rfl rfl rfl rfl rfl rfl rfl rfl rfl rfl rfl)
        refine lv_iload_n hx hb dX5_step_61 rfl (lv_at hl 0 rfl) ?_
        exact hret _ _ _ _ _ _ hP hD hS (⟨mtn_g hO k, ⟨(gu (gu (gu J_8 11 za) 12 zb) 13 zc), hM.eq (all14 (congrArg (upd (itN N k) 3) (by rw [itN_lo (by omega)])) rfl rfl rfl rfl rfl rfl rfl rfl rfl rfl rfl rfl rfl)⟩, hf⟩) dX5_step_62
      · have hlt : i < k := by have := mt (nI_leI (a := k) (b := i) (by omega) (by omega)).mpr c31_11; omega
        refine lv_iload_n hx hb dX5_step_34 rfl (lv_at hl 0 rfl) ?_
        refine lv_aload_n hx hb dX5_step_35 rfl (lv_at hl 2 rfl) ?_
        refine lv_aload_n hx hb dX5_step_36 rfl (lv_at hl 2 rfl) ?_
        refine rg (v := .ref (ad (b + 1 + 0))) (T := TX5) (N := 14) (C := RX5) hx hb hts hinX5 hown hK hP hM rfl 0 (by decide) (hts (.fieldLink RX5 7 "NeedleGridModel" "now" "[I") (by decide +kernel)) rfl dX5_step_37 ?_
        refine nVi (As := [.ref (ad (b + 1 + 0))]) (rest := _) hx hb hml hown hts hP hK hD hZ hA hS ⟨Nat.zero_le _, Nat.zero_le _⟩ hM.1 rfl (m_allTurn0 l E ad sL_11 b (gu (gu (gu (gu (mG N (svP P kp N) (svA kp) C n 0 J_8) 0 (itN N i)) 11 za) 12 zb) 13 zc) hM (hO.it i).1.b) (cwV 1 hts gX5_step_X5_allTurn rfl rfl rfl (by decide +kernel) ⟨Nat.le_of_ble_eq_true rfl, Nat.le_of_ble_eq_true rfl⟩) hl.1 rfl (Nat.le_of_ble_eq_true rfl) dX5_step_40 (fun r_15 s_20 H locs hq hP hD hS => ?_)
        obtain ⟨hrr_15, ⟨z_17, z_18, z_19, hM⟩, hf_16⟩ := hq
        have hrr_15 : r_15 = nI (cnI (mTP (itN N i)) 36) := hrr_15
        have hf := hf.tr hf_16
        have hM : isR E ad s_20 b sM (gu (gu (gu (gu (mG N (svP P kp N) (svA kp) C n 0 J_8) 0 (itN N (i + 1))) 11 z_17) 12 z_18) 13 z_19) := hM.eq (all14 (mStp_g (hO.it i)) rfl rfl rfl rfl rfl rfl rfl rfl rfl rfl rfl rfl rfl)
        refine lv_iadd hx hb dX5_step_43 ?_
        refine lv_topi (fun x2_44 ex2_44 => ?_)
        have ex2_44 : x2_44 = (mtn N i) + r_15 := ex2_44
        refine lv_istore_n (lv' := [(2, .int x2_44), (3, .int (nI i)), (0, .ref (ad b)), (1, .int (nI k))]) hx hb dX5_step_44 rfl hl (by decide) rfl (fun ls hl => ?_)
        refine lv_iinc (v := nI (i + 1)) (lv' := [(3, .int (nI (i + 1))), (2, .int x2_44), (0, .ref (ad b)), (1, .int (nI k))]) hx hb dX5_step_45 hl (k := 1) rfl (nI_1 _) (by decide) rfl (fun ls hl => ?_)
        refine lv_goto (tgt := 29) hx hb dX5_step_48 (by decide) ?_
        exact ih29 (i + 1) (by omega) (by omega) _ _ _ _ z_17 z_18 z_19 (hM.eq (all14 rfl rfl rfl rfl rfl rfl rfl rfl rfl rfl rfl rfl rfl rfl)) hf hP hD hS (by rw [show mtn N (i + 1) = x2_44 from by rw [ex2_44, hrr_15]; rfl]; exact lv_sub hl [1, 0, 2, 3] rfl)
  exact LP_10 (k + 1) 0 (Nat.zero_le _) (by omega) _ _ _ _ (J_8 11) (J_8 12) (J_8 13) (hM.eq (all14 rfl rfl rfl rfl rfl rfl rfl rfl rfl rfl rfl rfl rfl rfl)) hf hP hD hS (lv_sub hl [1, 0, 2, 3] rfl)

set_option maxHeartbeats 4000000 in
set_option maxRecDepth 100000 in
theorem m_step_b (l : Launch) (E : NE) (ad : Nat → Nat) (st : NW) (b : Nat) (N P : Nat → Int32) (kp : Nat) (C : Nat → Int32) (n : Nat) (th : Int32) (J : Nat → Nat → Int32) (hkp : kp ≤ 6) (hn : n ≤ 60) (hO : okN N) (hM : isR E ad st b sM (mG N P kp C n th J)) (v : Int32) (hbad : inI v 1 50 = 0) : nMi l yX5_step wsX5_step (nRm 8 189) E ad st [.ref (ad b), .int v] (fun r s1 => r = 0 ∧ (∃ J1, isR E ad s1 b sM (mG N P kp C n 1 J1)) ∧ fr b st s1) := by
  refine nSi (cc := cX5_step) (maxL := 4) (by decide) rfl (Nat.le_of_ble_eq_true rfl) ?_
  intro pg en s mi ar bw mth cd R Q A ls hx hb hml hown hts hRm hP hK hD hZ hA hl hret
  subst hRm
  have hown : s.vm.findClass RX5 = some mi.cls := hown
  have hS : va_S A s.heap s.heap [] := va_S.rf
  have hl : lv_has ls 4 [(0, .ref (ad b)), (1, .int v)] := hl
  have hf : fr b st st := fr.rf
  have hdB := hO.1.b
  have hinX5 : ∀ w ∈ wsX50, w ∈ wsX5_step := by decide +kernel
  refine lv_aload_n hx hb dX5_step_0 rfl (lv_at hl 0 rfl) ?_
  refine lv_iconst (v := 0) hx hb dX5_step_1 (by decide) ?_
  refine rp (v := 0) (ty := .int) (T := TX5) (N := 14) (C := RX5) hx hb hts hinX5 tyX5 tyX5_ok nmX5 hown hK hP hD hS hM rfl 6 (by decide) (hts (.fieldLink RX5 28 "NeedleGridModel" "thrown" "I") (by decide +kernel)) rfl rfl (by decide +kernel) rfl rfl dX5_step_2 (fun s_1 H locs hM hf_2 hP hD hS => ?_)
  have hf := hf.tr hf_2
  refine lv_iload_n hx hb dX5_step_5 rfl (lv_at hl 1 rfl) ?_
  refine lv_iconst (v := 1) hx hb dX5_step_6 (by decide) ?_
  refine lv_bipush (v := 50) hx hb dX5_step_7 (by decide) ?_
  refine nS_i (As := [.int v, .int 1, .int 50]) (rest := _) hx hb hml hown hts hP hK hD hZ hA hS ⟨Nat.zero_le _, Nat.zero_le _⟩ (m_in l E ad s_1 v 1 50) (va_cwS 3 hts gX5_step_X5_in rfl rfl rfl (by decide +kernel) ⟨Nat.le_of_ble_eq_true rfl, Nat.le_of_ble_eq_true rfl⟩) hl.1 rfl (Nat.le_of_ble_eq_true rfl) dX5_step_9 (fun r_3 s_4 H locs hq hP hD hS => ?_)
  obtain ⟨rfl, rfl⟩ := hq
  refine lv_if_ne (tgt := 21) hx hb dX5_step_12 (by decide) (fun c12_4 => absurd hbad c12_4) (fun c12_4 => ?_)
  refine lv_aload_n hx hb dX5_step_15 rfl (lv_at hl 0 rfl) ?_
  refine lv_iconst (v := 1) hx hb dX5_step_16 (by decide) ?_
  refine nVi (As := [.int 1]) (rest := _) hx hb hml hown hts hP hK hD hZ hA hS ⟨Nat.zero_le _, Nat.zero_le _⟩ hM.1 rfl (m_fails l E ad s_1 b (gu (mG N P kp C n th J) 6 (fun _ => 0)) hM 1) (cwV 1 hts gX5_step_X5_fails rfl rfl rfl (by decide +kernel) ⟨Nat.le_of_ble_eq_true rfl, Nat.le_of_ble_eq_true rfl⟩) hl.1 rfl (Nat.le_of_ble_eq_true rfl) dX5_step_17 (fun r_6 s_8 H locs hq hP hD hS => ?_)
  obtain ⟨hrr_6, hM, hf_7⟩ := hq
  have hrr_6 : r_6 = 0 := hrr_6
  have hf := hf.tr hf_7
  have hM : isR E ad s_8 b sM (gu (mG N P kp C n th J) 6 (fun _ => 1)) := hM.eq (all14 rfl rfl rfl rfl rfl rfl rfl rfl rfl rfl rfl rfl rfl rfl)
  exact hret _ _ _ _ _ _ hP hD hS (⟨hrr_6, ⟨J, hM.eq (all14 rfl rfl rfl rfl rfl rfl rfl rfl rfl rfl rfl rfl rfl rfl)⟩, hf⟩) dX5_step_20

set_option maxHeartbeats 4000000 in
set_option maxRecDepth 100000 in
theorem m_append (l : Launch) (E : NE) (ad : Nat → Nat) (st : NW) (b : Nat) (N P : Nat → Int32) (kp : Nat) (C : Nat → Int32) (n : Nat) (th : Int32) (J : Nat → Nat → Int32) (hkp : kp ≤ 6) (hn : n ≤ 60) (hO : okN N) (hM : isR E ad st b sM (mG N P kp C n th J)) (v : Int32) (h1 : ¬ v < 33) (h2 : v ≤ 126) (hn6 : n < 60) : nMi l yX5_append wsX5_append (nRm 1 22) E ad st [.ref (ad b), .int v] (fun r s1 => r = nI (n + 1) ∧ (∃ J1, isR E ad s1 b sM (mG N P kp (upd C n v) (n + 1) 0 J1)) ∧ fr b st s1) := by
  refine nSi (cc := cX5_append) (maxL := 2) (by decide) rfl (Nat.le_of_ble_eq_true rfl) ?_
  intro pg en s mi ar bw mth cd R Q A ls hx hb hml hown hts hRm hP hK hD hZ hA hl hret
  subst hRm
  have hown : s.vm.findClass RX5 = some mi.cls := hown
  have hS : va_S A s.heap s.heap [] := va_S.rf
  have hl : lv_has ls 2 [(0, .ref (ad b)), (1, .int v)] := hl
  have hf : fr b st st := fr.rf
  have hdB := hO.1.b
  have hinX5 : ∀ w ∈ wsX50, w ∈ wsX5_append := by decide +kernel
  refine lv_aload_n hx hb dX5_append_0 rfl (lv_at hl 0 rfl) ?_
  refine lv_iconst (v := 0) hx hb dX5_append_1 (by decide) ?_
  refine rp (v := 0) (ty := .int) (T := TX5) (N := 14) (C := RX5) hx hb hts hinX5 tyX5 tyX5_ok nmX5 hown hK hP hD hS hM rfl 6 (by decide) (hts (.fieldLink RX5 28 "NeedleGridModel" "thrown" "I") (by decide +kernel)) rfl rfl (by decide +kernel) rfl rfl dX5_append_2 (fun s_1 H locs hM hf_2 hP hD hS => ?_)
  have hf := hf.tr hf_2
  refine lv_iload_n hx hb dX5_append_5 rfl (lv_at hl 1 rfl) ?_
  refine lv_bipush (v := 33) hx hb dX5_append_6 (by decide) ?_
  refine lv_bipush (v := 126) hx hb dX5_append_8 (by decide) ?_
  refine nS_i (As := [.int v, .int 33, .int 126]) (rest := _) hx hb hml hown hts hP hK hD hZ hA hS ⟨Nat.zero_le _, Nat.zero_le _⟩ (m_in l E ad s_1 v 33 126) (va_cwS 3 hts gX5_append_X5_in rfl rfl rfl (by decide +kernel) ⟨Nat.le_of_ble_eq_true rfl, Nat.le_of_ble_eq_true rfl⟩) hl.1 rfl (Nat.le_of_ble_eq_true rfl) dX5_append_10 (fun r_3 s_4 H locs hq hP hD hS => ?_)
  obtain ⟨rfl, rfl⟩ := hq
  refine lv_if_ne (tgt := 22) hx hb dX5_append_13 (by decide) (fun c13_4 => ?_) (fun c13_4 => absurd c13_4 (inI_ok h1 (le_nlt h2)))
  refine lv_aload_n hx hb dX5_append_22 rfl (lv_at hl 0 rfl) ?_
  refine rg (v := .int (nI n)) (T := TX5) (N := 14) (C := RX5) hx hb hts hinX5 hown hK hP hM rfl 5 (by decide) (hts (.fieldLink RX5 110 "NeedleGridModel" "typed" "I") (by decide +kernel)) rfl dX5_append_23 ?_
  refine lv_bipush (v := 60) hx hb dX5_append_26 (by decide) ?_
  refine lv_icmp_ne (tgt := 37) hx hb dX5_append_28 (by decide) (fun c28_5 => ?_) (fun c28_5 => absurd ((nI_eq (a := n) (b := 60) (by omega) (by omega)).mp c28_5) (by omega))
  refine lv_aload_n hx hb dX5_append_37 rfl (lv_at hl 0 rfl) ?_
  refine rg (v := .ref (ad (b + 1 + 4))) (T := TX5) (N := 14) (C := RX5) hx hb hts hinX5 hown hK hP hM rfl 4 (by decide) (hts (.fieldLink RX5 19 "NeedleGridModel" "text" "[I") (by decide +kernel)) rfl dX5_append_38 ?_
  refine lv_aload_n hx hb dX5_append_41 rfl (lv_at hl 0 rfl) ?_
  refine rg (v := .int (nI n)) (T := TX5) (N := 14) (C := RX5) hx hb hts hinX5 hown hK hP hM rfl 5 (by decide) (hts (.fieldLink RX5 110 "NeedleGridModel" "typed" "I") (by decide +kernel)) rfl dX5_append_42 ?_
  refine lv_iload_n hx hb dX5_append_45 rfl (lv_at hl 1 rfl) ?_
  refine rs (j := n) (n := 60) (x := v) hx hb hK hP hD hS hM 4 rfl (by decide) (by omega) (by decide) dX5_append_46 (fun s_7 H locs hM hf_8 hP hD hS => ?_)
  have hf := hf.tr hf_8
  refine lv_aload_n hx hb dX5_append_47 rfl (lv_at hl 0 rfl) ?_
  refine lv_dup hx hb dX5_append_48 rfl ?_
  refine rg (v := .int (nI n)) (T := TX5) (N := 14) (C := RX5) hx hb hts hinX5 hown hK hP hM rfl 5 (by decide) (hts (.fieldLink RX5 110 "NeedleGridModel" "typed" "I") (by decide +kernel)) rfl dX5_append_49 ?_
  refine lv_iconst (v := 1) hx hb dX5_append_52 (by decide) ?_
  refine lv_iadd hx hb dX5_append_53 ?_
  rw [nI_1]
  refine rp (v := nI (n + 1)) (ty := .int) (T := TX5) (N := 14) (C := RX5) hx hb hts hinX5 tyX5 tyX5_ok nmX5 hown hK hP hD hS hM rfl 5 (by decide) (hts (.fieldLink RX5 110 "NeedleGridModel" "typed" "I") (by decide +kernel)) rfl rfl (by decide +kernel) rfl rfl dX5_append_54 (fun s_9 H locs hM hf_10 hP hD hS => ?_)
  have hf := hf.tr hf_10
  refine lv_aload_n hx hb dX5_append_57 rfl (lv_at hl 0 rfl) ?_
  refine rg (v := .int (nI (n + 1))) (T := TX5) (N := 14) (C := RX5) hx hb hts hinX5 hown hK hP hM rfl 5 (by decide) (hts (.fieldLink RX5 110 "NeedleGridModel" "typed" "I") (by decide +kernel)) rfl dX5_append_58 ?_
  exact hret _ _ _ _ _ _ hP hD hS (⟨rfl, ⟨J, hM.eq (all14 rfl rfl rfl rfl rfl rfl rfl rfl rfl rfl rfl rfl rfl rfl)⟩, hf⟩) dX5_append_61

set_option maxHeartbeats 4000000 in
set_option maxRecDepth 100000 in
theorem m_append_v (l : Launch) (E : NE) (ad : Nat → Nat) (st : NW) (b : Nat) (N P : Nat → Int32) (kp : Nat) (C : Nat → Int32) (n : Nat) (th : Int32) (J : Nat → Nat → Int32) (hkp : kp ≤ 6) (hn : n ≤ 60) (hO : okN N) (hM : isR E ad st b sM (mG N P kp C n th J)) (v : Int32) (hbad : inI v 33 126 = 0) : nMi l yX5_append wsX5_append (nRm 1 22) E ad st [.ref (ad b), .int v] (fun r s1 => r = 0 ∧ (∃ J1, isR E ad s1 b sM (mG N P kp C n 1 J1)) ∧ fr b st s1) := by
  refine nSi (cc := cX5_append) (maxL := 2) (by decide) rfl (Nat.le_of_ble_eq_true rfl) ?_
  intro pg en s mi ar bw mth cd R Q A ls hx hb hml hown hts hRm hP hK hD hZ hA hl hret
  subst hRm
  have hown : s.vm.findClass RX5 = some mi.cls := hown
  have hS : va_S A s.heap s.heap [] := va_S.rf
  have hl : lv_has ls 2 [(0, .ref (ad b)), (1, .int v)] := hl
  have hf : fr b st st := fr.rf
  have hdB := hO.1.b
  have hinX5 : ∀ w ∈ wsX50, w ∈ wsX5_append := by decide +kernel
  refine lv_aload_n hx hb dX5_append_0 rfl (lv_at hl 0 rfl) ?_
  refine lv_iconst (v := 0) hx hb dX5_append_1 (by decide) ?_
  refine rp (v := 0) (ty := .int) (T := TX5) (N := 14) (C := RX5) hx hb hts hinX5 tyX5 tyX5_ok nmX5 hown hK hP hD hS hM rfl 6 (by decide) (hts (.fieldLink RX5 28 "NeedleGridModel" "thrown" "I") (by decide +kernel)) rfl rfl (by decide +kernel) rfl rfl dX5_append_2 (fun s_1 H locs hM hf_2 hP hD hS => ?_)
  have hf := hf.tr hf_2
  refine lv_iload_n hx hb dX5_append_5 rfl (lv_at hl 1 rfl) ?_
  refine lv_bipush (v := 33) hx hb dX5_append_6 (by decide) ?_
  refine lv_bipush (v := 126) hx hb dX5_append_8 (by decide) ?_
  refine nS_i (As := [.int v, .int 33, .int 126]) (rest := _) hx hb hml hown hts hP hK hD hZ hA hS ⟨Nat.zero_le _, Nat.zero_le _⟩ (m_in l E ad s_1 v 33 126) (va_cwS 3 hts gX5_append_X5_in rfl rfl rfl (by decide +kernel) ⟨Nat.le_of_ble_eq_true rfl, Nat.le_of_ble_eq_true rfl⟩) hl.1 rfl (Nat.le_of_ble_eq_true rfl) dX5_append_10 (fun r_3 s_4 H locs hq hP hD hS => ?_)
  obtain ⟨rfl, rfl⟩ := hq
  refine lv_if_ne (tgt := 22) hx hb dX5_append_13 (by decide) (fun c13_4 => absurd hbad c13_4) (fun c13_4 => ?_)
  refine lv_aload_n hx hb dX5_append_16 rfl (lv_at hl 0 rfl) ?_
  refine lv_iconst (v := 1) hx hb dX5_append_17 (by decide) ?_
  refine nVi (As := [.int 1]) (rest := _) hx hb hml hown hts hP hK hD hZ hA hS ⟨Nat.zero_le _, Nat.zero_le _⟩ hM.1 rfl (m_fails l E ad s_1 b (gu (mG N P kp C n th J) 6 (fun _ => 0)) hM 1) (cwV 1 hts gX5_append_X5_fails rfl rfl rfl (by decide +kernel) ⟨Nat.le_of_ble_eq_true rfl, Nat.le_of_ble_eq_true rfl⟩) hl.1 rfl (Nat.le_of_ble_eq_true rfl) dX5_append_18 (fun r_6 s_8 H locs hq hP hD hS => ?_)
  obtain ⟨hrr_6, hM, hf_7⟩ := hq
  have hrr_6 : r_6 = 0 := hrr_6
  have hf := hf.tr hf_7
  have hM : isR E ad s_8 b sM (gu (mG N P kp C n th J) 6 (fun _ => 1)) := hM.eq (all14 rfl rfl rfl rfl rfl rfl rfl rfl rfl rfl rfl rfl rfl rfl)
  exact hret _ _ _ _ _ _ hP hD hS (⟨hrr_6, ⟨J, hM.eq (all14 rfl rfl rfl rfl rfl rfl rfl rfl rfl rfl rfl rfl rfl rfl)⟩, hf⟩) dX5_append_21

set_option maxHeartbeats 4000000 in
set_option maxRecDepth 100000 in
theorem m_append_n (l : Launch) (E : NE) (ad : Nat → Nat) (st : NW) (b : Nat) (N P : Nat → Int32) (kp : Nat) (C : Nat → Int32) (n : Nat) (th : Int32) (J : Nat → Nat → Int32) (hkp : kp ≤ 6) (hn : n ≤ 60) (hO : okN N) (hM : isR E ad st b sM (mG N P kp C n th J)) (v : Int32) (h1 : ¬ v < 33) (h2 : v ≤ 126) (hn6 : n = 60) : nMi l yX5_append wsX5_append (nRm 1 22) E ad st [.ref (ad b), .int v] (fun r s1 => r = 0 ∧ (∃ J1, isR E ad s1 b sM (mG N P kp C n 2 J1)) ∧ fr b st s1) := by
  refine nSi (cc := cX5_append) (maxL := 2) (by decide) rfl (Nat.le_of_ble_eq_true rfl) ?_
  intro pg en s mi ar bw mth cd R Q A ls hx hb hml hown hts hRm hP hK hD hZ hA hl hret
  subst hRm
  have hown : s.vm.findClass RX5 = some mi.cls := hown
  have hS : va_S A s.heap s.heap [] := va_S.rf
  have hl : lv_has ls 2 [(0, .ref (ad b)), (1, .int v)] := hl
  have hf : fr b st st := fr.rf
  have hdB := hO.1.b
  have hinX5 : ∀ w ∈ wsX50, w ∈ wsX5_append := by decide +kernel
  refine lv_aload_n hx hb dX5_append_0 rfl (lv_at hl 0 rfl) ?_
  refine lv_iconst (v := 0) hx hb dX5_append_1 (by decide) ?_
  refine rp (v := 0) (ty := .int) (T := TX5) (N := 14) (C := RX5) hx hb hts hinX5 tyX5 tyX5_ok nmX5 hown hK hP hD hS hM rfl 6 (by decide) (hts (.fieldLink RX5 28 "NeedleGridModel" "thrown" "I") (by decide +kernel)) rfl rfl (by decide +kernel) rfl rfl dX5_append_2 (fun s_1 H locs hM hf_2 hP hD hS => ?_)
  have hf := hf.tr hf_2
  refine lv_iload_n hx hb dX5_append_5 rfl (lv_at hl 1 rfl) ?_
  refine lv_bipush (v := 33) hx hb dX5_append_6 (by decide) ?_
  refine lv_bipush (v := 126) hx hb dX5_append_8 (by decide) ?_
  refine nS_i (As := [.int v, .int 33, .int 126]) (rest := _) hx hb hml hown hts hP hK hD hZ hA hS ⟨Nat.zero_le _, Nat.zero_le _⟩ (m_in l E ad s_1 v 33 126) (va_cwS 3 hts gX5_append_X5_in rfl rfl rfl (by decide +kernel) ⟨Nat.le_of_ble_eq_true rfl, Nat.le_of_ble_eq_true rfl⟩) hl.1 rfl (Nat.le_of_ble_eq_true rfl) dX5_append_10 (fun r_3 s_4 H locs hq hP hD hS => ?_)
  obtain ⟨rfl, rfl⟩ := hq
  refine lv_if_ne (tgt := 22) hx hb dX5_append_13 (by decide) (fun c13_4 => ?_) (fun c13_4 => absurd c13_4 (inI_ok h1 (le_nlt h2)))
  refine lv_aload_n hx hb dX5_append_22 rfl (lv_at hl 0 rfl) ?_
  refine rg (v := .int (nI n)) (T := TX5) (N := 14) (C := RX5) hx hb hts hinX5 hown hK hP hM rfl 5 (by decide) (hts (.fieldLink RX5 110 "NeedleGridModel" "typed" "I") (by decide +kernel)) rfl dX5_append_23 ?_
  refine lv_bipush (v := 60) hx hb dX5_append_26 (by decide) ?_
  refine lv_icmp_ne (tgt := 37) hx hb dX5_append_28 (by decide) (fun c28_5 => absurd (show nI n = 60 by rw [hn6]; rfl) c28_5) (fun c28_5 => ?_)
  refine lv_aload_n hx hb dX5_append_31 rfl (lv_at hl 0 rfl) ?_
  refine lv_iconst (v := 2) hx hb dX5_append_32 (by decide) ?_
  refine nVi (As := [.int 2]) (rest := _) hx hb hml hown hts hP hK hD hZ hA hS ⟨Nat.zero_le _, Nat.zero_le _⟩ hM.1 rfl (m_fails l E ad s_1 b (gu (mG N P kp C n th J) 6 (fun _ => 0)) hM 2) (cwV 1 hts gX5_append_X5_fails rfl rfl rfl (by decide +kernel) ⟨Nat.le_of_ble_eq_true rfl, Nat.le_of_ble_eq_true rfl⟩) hl.1 rfl (Nat.le_of_ble_eq_true rfl) dX5_append_33 (fun r_7 s_9 H locs hq hP hD hS => ?_)
  obtain ⟨hrr_7, hM, hf_8⟩ := hq
  have hrr_7 : r_7 = 0 := hrr_7
  have hf := hf.tr hf_8
  have hM : isR E ad s_9 b sM (gu (mG N P kp C n th J) 6 (fun _ => 2)) := hM.eq (all14 rfl rfl rfl rfl rfl rfl rfl rfl rfl rfl rfl rfl rfl rfl)
  exact hret _ _ _ _ _ _ hP hD hS (⟨hrr_7, ⟨J, hM.eq (all14 rfl rfl rfl rfl rfl rfl rfl rfl rfl rfl rfl rfl rfl rfl)⟩, hf⟩) dX5_append_36

set_option maxHeartbeats 4000000 in
set_option maxRecDepth 100000 in
theorem m_clearBuffer (l : Launch) (E : NE) (ad : Nat → Nat) (st : NW) (b : Nat) (N P : Nat → Int32) (kp : Nat) (C : Nat → Int32) (n : Nat) (th : Int32) (J : Nat → Nat → Int32) (hkp : kp ≤ 6) (hn : n ≤ 60) (hO : okN N) (hM : isR E ad st b sM (mG N P kp C n th J))  : nMi l yX5_clearBuffer wsX5_clearBuffer (nRm 0 0) E ad st [.ref (ad b)] (fun r s1 => r = nI n ∧ (∃ J1, isR E ad s1 b sM (mG N P kp C 0 0 J1)) ∧ fr b st s1) := by
  refine nSi (cc := cX5_clearBuffer) (maxL := 2) (by decide) rfl (Nat.le_of_ble_eq_true rfl) ?_
  intro pg en s mi ar bw mth cd R Q A ls hx hb hml hown hts hRm hP hK hD hZ hA hl hret
  subst hRm
  have hown : s.vm.findClass RX5 = some mi.cls := hown
  have hS : va_S A s.heap s.heap [] := va_S.rf
  have hl : lv_has ls 2 [(0, .ref (ad b))] := hl
  have hf : fr b st st := fr.rf
  have hdB := hO.1.b
  have hinX5 : ∀ w ∈ wsX50, w ∈ wsX5_clearBuffer := by decide +kernel
  refine lv_aload_n hx hb dX5_clearBuffer_0 rfl (lv_at hl 0 rfl) ?_
  refine lv_iconst (v := 0) hx hb dX5_clearBuffer_1 (by decide) ?_
  refine rp (v := 0) (ty := .int) (T := TX5) (N := 14) (C := RX5) hx hb hts hinX5 tyX5 tyX5_ok nmX5 hown hK hP hD hS hM rfl 6 (by decide) (hts (.fieldLink RX5 28 "NeedleGridModel" "thrown" "I") (by decide +kernel)) rfl rfl (by decide +kernel) rfl rfl dX5_clearBuffer_2 (fun s_1 H locs hM hf_2 hP hD hS => ?_)
  have hf := hf.tr hf_2
  refine lv_aload_n hx hb dX5_clearBuffer_5 rfl (lv_at hl 0 rfl) ?_
  refine rg (v := .int (nI n)) (T := TX5) (N := 14) (C := RX5) hx hb hts hinX5 hown hK hP hM rfl 5 (by decide) (hts (.fieldLink RX5 110 "NeedleGridModel" "typed" "I") (by decide +kernel)) rfl dX5_clearBuffer_6 ?_
  refine lv_istore_n (lv' := [(1, .int (nI n)), (0, .ref (ad b))]) hx hb dX5_clearBuffer_9 rfl hl (by decide) rfl (fun ls hl => ?_)
  refine lv_aload_n hx hb dX5_clearBuffer_10 rfl (lv_at hl 1 rfl) ?_
  refine lv_iconst (v := 0) hx hb dX5_clearBuffer_11 (by decide) ?_
  refine rp (v := 0) (ty := .int) (T := TX5) (N := 14) (C := RX5) hx hb hts hinX5 tyX5 tyX5_ok nmX5 hown hK hP hD hS hM rfl 5 (by decide) (hts (.fieldLink RX5 110 "NeedleGridModel" "typed" "I") (by decide +kernel)) rfl rfl (by decide +kernel) rfl rfl dX5_clearBuffer_12 (fun s_3 H locs hM hf_4 hP hD hS => ?_)
  have hf := hf.tr hf_4
  refine lv_iload_n hx hb dX5_clearBuffer_15 rfl (lv_at hl 0 rfl) ?_
  exact hret _ _ _ _ _ _ hP hD hS (⟨rfl, ⟨J, hM.eq (all14 rfl rfl rfl rfl rfl rfl rfl rfl rfl rfl rfl rfl rfl rfl)⟩, hf⟩) dX5_clearBuffer_16

set_option maxHeartbeats 4000000 in
set_option maxRecDepth 100000 in
theorem m_undo (l : Launch) (E : NE) (ad : Nat → Nat) (st : NW) (b : Nat) (N P : Nat → Int32) (kp : Nat) (C : Nat → Int32) (n : Nat) (th : Int32) (J : Nat → Nat → Int32) (hkp : kp ≤ 6) (hn : n ≤ 60) (hO : okN N) (hM : isR E ad st b sM (mG N P kp C n th J)) (hk0 : 0 < kp) (M : Nat → Int32) (hPM : ∀ j, j < 186 → P (186 * (kp - 1) + (j - 0)) = M j) : nMi l yX5_undo wsX5_undo (nRm 1 24) E ad st [.ref (ad b)] (fun r s1 => r = nI (kp - 1) ∧ (∃ J1, isR E ad s1 b sM (mG M P (kp - 1) C n 0 J1)) ∧ fr b st s1) := by
  refine nSi (cc := cX5_undo) (maxL := 1) (by decide) rfl (Nat.le_of_ble_eq_true rfl) ?_
  intro pg en s mi ar bw mth cd R Q A ls hx hb hml hown hts hRm hP hK hD hZ hA hl hret
  subst hRm
  have hown : s.vm.findClass RX5 = some mi.cls := hown
  have hS : va_S A s.heap s.heap [] := va_S.rf
  have hl : lv_has ls 1 [(0, .ref (ad b))] := hl
  have hf : fr b st st := fr.rf
  have hdB := hO.1.b
  have hinX5 : ∀ w ∈ wsX50, w ∈ wsX5_undo := by decide +kernel
  refine lv_aload_n hx hb dX5_undo_0 rfl (lv_at hl 0 rfl) ?_
  refine lv_iconst (v := 0) hx hb dX5_undo_1 (by decide) ?_
  refine rp (v := 0) (ty := .int) (T := TX5) (N := 14) (C := RX5) hx hb hts hinX5 tyX5 tyX5_ok nmX5 hown hK hP hD hS hM rfl 6 (by decide) (hts (.fieldLink RX5 28 "NeedleGridModel" "thrown" "I") (by decide +kernel)) rfl rfl (by decide +kernel) rfl rfl dX5_undo_2 (fun s_1 H locs hM hf_2 hP hD hS => ?_)
  have hf := hf.tr hf_2
  refine lv_aload_n hx hb dX5_undo_5 rfl (lv_at hl 0 rfl) ?_
  refine rg (v := .int (nI kp)) (T := TX5) (N := 14) (C := RX5) hx hb hts hinX5 hown hK hP hM rfl 3 (by decide) (hts (.fieldLink RX5 36 "NeedleGridModel" "kept" "I") (by decide +kernel)) rfl dX5_undo_6 ?_
  refine lv_if_ne (tgt := 18) hx hb dX5_undo_9 (by decide) (fun c9_2 => ?_) (fun c9_2 => absurd c9_2 (nI_ne0 (by omega) (by omega)))
  refine lv_aload_n hx hb dX5_undo_18 rfl (lv_at hl 0 rfl) ?_
  refine lv_dup hx hb dX5_undo_19 rfl ?_
  refine rg (v := .int (nI kp)) (T := TX5) (N := 14) (C := RX5) hx hb hts hinX5 hown hK hP hM rfl 3 (by decide) (hts (.fieldLink RX5 36 "NeedleGridModel" "kept" "I") (by decide +kernel)) rfl dX5_undo_20 ?_
  refine lv_iconst (v := 1) hx hb dX5_undo_23 (by decide) ?_
  refine lv_isub hx hb dX5_undo_24 ?_
  rw [nI_subL (c := kp) (N := 1) (n := 1) rfl (by omega)]
  refine rp (v := nI (kp - 1)) (ty := .int) (T := TX5) (N := 14) (C := RX5) hx hb hts hinX5 tyX5 tyX5_ok nmX5 hown hK hP hD hS hM rfl 3 (by decide) (hts (.fieldLink RX5 36 "NeedleGridModel" "kept" "I") (by decide +kernel)) rfl rfl (by decide +kernel) rfl rfl dX5_undo_25 (fun s_4 H locs hM hf_5 hP hD hS => ?_)
  have hf := hf.tr hf_5
  refine lv_aload_n hx hb dX5_undo_28 rfl (lv_at hl 0 rfl) ?_
  refine rg (v := .ref (ad (b + 1 + 2))) (T := TX5) (N := 14) (C := RX5) hx hb hts hinX5 hown hK hP hM rfl 2 (by decide) (hts (.fieldLink RX5 16 "NeedleGridModel" "past" "[I") (by decide +kernel)) rfl dX5_undo_29 ?_
  refine lv_sipush (v := 186) hx hb dX5_undo_32 (by decide) ?_
  refine lv_aload_n hx hb dX5_undo_35 rfl (lv_at hl 0 rfl) ?_
  refine rg (v := .int (nI (kp - 1))) (T := TX5) (N := 14) (C := RX5) hx hb hts hinX5 hown hK hP hM rfl 3 (by decide) (hts (.fieldLink RX5 36 "NeedleGridModel" "kept" "I") (by decide +kernel)) rfl dX5_undo_36 ?_
  refine lv_imul hx hb dX5_undo_39 ?_
  rw [show 186 * nI (kp - 1) = nI (186 * (kp - 1)) from pk_mul 186 (kp - 1)]
  refine lv_aload_n hx hb dX5_undo_40 rfl (lv_at hl 0 rfl) ?_
  refine rg (v := .ref (ad (b + 1 + 0))) (T := TX5) (N := 14) (C := RX5) hx hb hts hinX5 hown hK hP hM rfl 0 (by decide) (hts (.fieldLink RX5 7 "NeedleGridModel" "now" "[I") (by decide +kernel)) rfl dX5_undo_41 ?_
  refine lv_iconst (v := 0) hx hb dX5_undo_44 (by decide) ?_
  refine nS_v (As := [.ref (ad (b + 1 + 2)), .int (nI (186 * (kp - 1))), .ref (ad (b + 1 + 0)), .int 0]) (rest := _) hx hb hml hown hts hP hK hD hZ hA hS ⟨Nat.zero_le _, Nat.zero_le _⟩ (m_copies20 l E ad s_4 b (gu (gu (mG N P kp C n th J) 6 (fun _ => 0)) 3 (fun _ => nI (kp - 1))) hM (186 * (kp - 1)) 0 (by omega) (by omega)) (va_cwS 4 hts gX5_undo_X5_copies rfl rfl rfl (by decide +kernel) ⟨Nat.le_of_ble_eq_true rfl, Nat.le_of_ble_eq_true rfl⟩) hl.1 rfl (Nat.le_of_ble_eq_true rfl) dX5_undo_45 (fun s_8 H locs hq hP hD hS => ?_)
  obtain ⟨hM, hf_7⟩ := hq
  have hf := hf.tr hf_7
  refine lv_aload_n hx hb dX5_undo_48 rfl (lv_at hl 0 rfl) ?_
  refine rg (v := .int (nI (kp - 1))) (T := TX5) (N := 14) (C := RX5) hx hb hts hinX5 hown hK hP hM rfl 3 (by decide) (hts (.fieldLink RX5 36 "NeedleGridModel" "kept" "I") (by decide +kernel)) rfl dX5_undo_49 ?_
  obtain ⟨s9, hM, hf9, hP, hD⟩ := hM.can hP hD 0 (n := 186) (z := 0) rfl (by decide) (by decide) (g := M) (fun j hj => (cpI_in (by omega) (by omega)).trans (hPM j hj))
  exact hret _ _ _ _ _ _ hP hD hS (⟨rfl, ⟨J, hM.eq (all14 rfl rfl rfl rfl rfl rfl rfl rfl rfl rfl rfl rfl rfl rfl)⟩, hf.tr hf9⟩) dX5_undo_52

set_option maxHeartbeats 4000000 in
set_option maxRecDepth 100000 in
theorem m_undo_n (l : Launch) (E : NE) (ad : Nat → Nat) (st : NW) (b : Nat) (N P : Nat → Int32) (kp : Nat) (C : Nat → Int32) (n : Nat) (th : Int32) (J : Nat → Nat → Int32) (hkp : kp ≤ 6) (hn : n ≤ 60) (hO : okN N) (hM : isR E ad st b sM (mG N P kp C n th J)) (hk0 : kp = 0) : nMi l yX5_undo wsX5_undo (nRm 1 24) E ad st [.ref (ad b)] (fun r s1 => r = 0 ∧ (∃ J1, isR E ad s1 b sM (mG N P kp C n 1 J1)) ∧ fr b st s1) := by
  refine nSi (cc := cX5_undo) (maxL := 1) (by decide) rfl (Nat.le_of_ble_eq_true rfl) ?_
  intro pg en s mi ar bw mth cd R Q A ls hx hb hml hown hts hRm hP hK hD hZ hA hl hret
  subst hRm
  have hown : s.vm.findClass RX5 = some mi.cls := hown
  have hS : va_S A s.heap s.heap [] := va_S.rf
  have hl : lv_has ls 1 [(0, .ref (ad b))] := hl
  have hf : fr b st st := fr.rf
  have hdB := hO.1.b
  have hinX5 : ∀ w ∈ wsX50, w ∈ wsX5_undo := by decide +kernel
  refine lv_aload_n hx hb dX5_undo_0 rfl (lv_at hl 0 rfl) ?_
  refine lv_iconst (v := 0) hx hb dX5_undo_1 (by decide) ?_
  refine rp (v := 0) (ty := .int) (T := TX5) (N := 14) (C := RX5) hx hb hts hinX5 tyX5 tyX5_ok nmX5 hown hK hP hD hS hM rfl 6 (by decide) (hts (.fieldLink RX5 28 "NeedleGridModel" "thrown" "I") (by decide +kernel)) rfl rfl (by decide +kernel) rfl rfl dX5_undo_2 (fun s_1 H locs hM hf_2 hP hD hS => ?_)
  have hf := hf.tr hf_2
  refine lv_aload_n hx hb dX5_undo_5 rfl (lv_at hl 0 rfl) ?_
  refine rg (v := .int (nI kp)) (T := TX5) (N := 14) (C := RX5) hx hb hts hinX5 hown hK hP hM rfl 3 (by decide) (hts (.fieldLink RX5 36 "NeedleGridModel" "kept" "I") (by decide +kernel)) rfl dX5_undo_6 ?_
  refine lv_if_ne (tgt := 18) hx hb dX5_undo_9 (by decide) (fun c9_2 => absurd (show nI kp = 0 by rw [hk0]; rfl) c9_2) (fun c9_2 => ?_)
  refine lv_aload_n hx hb dX5_undo_12 rfl (lv_at hl 0 rfl) ?_
  refine lv_iconst (v := 1) hx hb dX5_undo_13 (by decide) ?_
  refine nVi (As := [.int 1]) (rest := _) hx hb hml hown hts hP hK hD hZ hA hS ⟨Nat.zero_le _, Nat.zero_le _⟩ hM.1 rfl (m_fails l E ad s_1 b (gu (mG N P kp C n th J) 6 (fun _ => 0)) hM 1) (cwV 1 hts gX5_undo_X5_fails rfl rfl rfl (by decide +kernel) ⟨Nat.le_of_ble_eq_true rfl, Nat.le_of_ble_eq_true rfl⟩) hl.1 rfl (Nat.le_of_ble_eq_true rfl) dX5_undo_14 (fun r_4 s_6 H locs hq hP hD hS => ?_)
  obtain ⟨hrr_4, hM, hf_5⟩ := hq
  have hrr_4 : r_4 = 0 := hrr_4
  have hf := hf.tr hf_5
  have hM : isR E ad s_6 b sM (gu (mG N P kp C n th J) 6 (fun _ => 1)) := hM.eq (all14 rfl rfl rfl rfl rfl rfl rfl rfl rfl rfl rfl rfl rfl rfl)
  exact hret _ _ _ _ _ _ hP hD hS (⟨hrr_4, ⟨J, hM.eq (all14 rfl rfl rfl rfl rfl rfl rfl rfl rfl rfl rfl rfl rfl rfl)⟩, hf⟩) dX5_undo_17

set_option maxHeartbeats 4000000 in
set_option maxRecDepth 100000 in
theorem m_setting (l : Launch) (E : NE) (ad : Nat → Nat) (st : NW) (b : Nat) (N P : Nat → Int32) (kp : Nat) (C : Nat → Int32) (n : Nat) (th : Int32) (J : Nat → Nat → Int32) (hkp : kp ≤ 6) (hn : n ≤ 60) (hO : okN N) (hM : isR E ad st b sM (mG N P kp C n th J)) (c : Nat) (hc : c < 3) : nMi l yX5_setting wsX5_setting (nRm 1 22) E ad st [.ref (ad b), .int (nI c)] (fun r s1 => r = N c ∧ (∃ J1, isR E ad s1 b sM (mG N P kp C n 0 J1)) ∧ fr b st s1) := by
  refine nSi (cc := cX5_setting) (maxL := 2) (by decide) rfl (Nat.le_of_ble_eq_true rfl) ?_
  intro pg en s mi ar bw mth cd R Q A ls hx hb hml hown hts hRm hP hK hD hZ hA hl hret
  subst hRm
  have hown : s.vm.findClass RX5 = some mi.cls := hown
  have hS : va_S A s.heap s.heap [] := va_S.rf
  have hl : lv_has ls 2 [(0, .ref (ad b)), (1, .int (nI c))] := hl
  have hf : fr b st st := fr.rf
  have hdB := hO.1.b
  have hinX5 : ∀ w ∈ wsX50, w ∈ wsX5_setting := by decide +kernel
  refine lv_aload_n hx hb dX5_setting_0 rfl (lv_at hl 0 rfl) ?_
  refine lv_iconst (v := 0) hx hb dX5_setting_1 (by decide) ?_
  refine rp (v := 0) (ty := .int) (T := TX5) (N := 14) (C := RX5) hx hb hts hinX5 tyX5 tyX5_ok nmX5 hown hK hP hD hS hM rfl 6 (by decide) (hts (.fieldLink RX5 28 "NeedleGridModel" "thrown" "I") (by decide +kernel)) rfl rfl (by decide +kernel) rfl rfl dX5_setting_2 (fun s_1 H locs hM hf_2 hP hD hS => ?_)
  have hf := hf.tr hf_2
  refine lv_iload_n hx hb dX5_setting_5 rfl (lv_at hl 1 rfl) ?_
  refine lv_iconst (v := 0) hx hb dX5_setting_6 (by decide) ?_
  refine lv_iconst (v := 2) hx hb dX5_setting_7 (by decide) ?_
  refine nS_i (As := [.int (nI c), .int 0, .int 2]) (rest := _) hx hb hml hown hts hP hK hD hZ hA hS ⟨Nat.zero_le _, Nat.zero_le _⟩ (m_in l E ad s_1 (nI c) 0 2) (va_cwS 3 hts gX5_setting_X5_in rfl rfl rfl (by decide +kernel) ⟨Nat.le_of_ble_eq_true rfl, Nat.le_of_ble_eq_true rfl⟩) hl.1 rfl (Nat.le_of_ble_eq_true rfl) dX5_setting_8 (fun r_3 s_4 H locs hq hP hD hS => ?_)
  obtain ⟨rfl, rfl⟩ := hq
  refine lv_if_eq (tgt := 23) hx hb dX5_setting_11 (by decide) (fun c11_4 => absurd c11_4 (inI_n (b := 2) rfl (by omega) (by decide))) (fun c11_4 => ?_)
  refine lv_aload_n hx hb dX5_setting_14 rfl (lv_at hl 0 rfl) ?_
  refine rg (v := .ref (ad (b + 1 + 0))) (T := TX5) (N := 14) (C := RX5) hx hb hts hinX5 hown hK hP hM rfl 0 (by decide) (hts (.fieldLink RX5 7 "NeedleGridModel" "now" "[I") (by decide +kernel)) rfl dX5_setting_15 ?_
  refine lv_iload_n hx hb dX5_setting_18 rfl (lv_at hl 1 rfl) ?_
  refine ra (j := c) (n := 186) hx hb hK hP hM 0 rfl (by omega) (by decide) dX5_setting_19 ?_
  refine lv_goto (tgt := 28) hx hb dX5_setting_20 (by decide) ?_
  exact hret _ _ _ _ _ _ hP hD hS (⟨rfl, ⟨J, hM.eq (all14 rfl rfl rfl rfl rfl rfl rfl rfl rfl rfl rfl rfl rfl rfl)⟩, hf⟩) dX5_setting_28

set_option maxHeartbeats 4000000 in
set_option maxRecDepth 100000 in
theorem m_setting_c (l : Launch) (E : NE) (ad : Nat → Nat) (st : NW) (b : Nat) (N P : Nat → Int32) (kp : Nat) (C : Nat → Int32) (n : Nat) (th : Int32) (J : Nat → Nat → Int32) (hkp : kp ≤ 6) (hn : n ≤ 60) (hO : okN N) (hM : isR E ad st b sM (mG N P kp C n th J)) (v : Int32) (hbad : inI v 0 2 = 0) : nMi l yX5_setting wsX5_setting (nRm 1 22) E ad st [.ref (ad b), .int v] (fun r s1 => r = 0 ∧ (∃ J1, isR E ad s1 b sM (mG N P kp C n 1 J1)) ∧ fr b st s1) := by
  refine nSi (cc := cX5_setting) (maxL := 2) (by decide) rfl (Nat.le_of_ble_eq_true rfl) ?_
  intro pg en s mi ar bw mth cd R Q A ls hx hb hml hown hts hRm hP hK hD hZ hA hl hret
  subst hRm
  have hown : s.vm.findClass RX5 = some mi.cls := hown
  have hS : va_S A s.heap s.heap [] := va_S.rf
  have hl : lv_has ls 2 [(0, .ref (ad b)), (1, .int v)] := hl
  have hf : fr b st st := fr.rf
  have hdB := hO.1.b
  have hinX5 : ∀ w ∈ wsX50, w ∈ wsX5_setting := by decide +kernel
  refine lv_aload_n hx hb dX5_setting_0 rfl (lv_at hl 0 rfl) ?_
  refine lv_iconst (v := 0) hx hb dX5_setting_1 (by decide) ?_
  refine rp (v := 0) (ty := .int) (T := TX5) (N := 14) (C := RX5) hx hb hts hinX5 tyX5 tyX5_ok nmX5 hown hK hP hD hS hM rfl 6 (by decide) (hts (.fieldLink RX5 28 "NeedleGridModel" "thrown" "I") (by decide +kernel)) rfl rfl (by decide +kernel) rfl rfl dX5_setting_2 (fun s_1 H locs hM hf_2 hP hD hS => ?_)
  have hf := hf.tr hf_2
  refine lv_iload_n hx hb dX5_setting_5 rfl (lv_at hl 1 rfl) ?_
  refine lv_iconst (v := 0) hx hb dX5_setting_6 (by decide) ?_
  refine lv_iconst (v := 2) hx hb dX5_setting_7 (by decide) ?_
  refine nS_i (As := [.int v, .int 0, .int 2]) (rest := _) hx hb hml hown hts hP hK hD hZ hA hS ⟨Nat.zero_le _, Nat.zero_le _⟩ (m_in l E ad s_1 v 0 2) (va_cwS 3 hts gX5_setting_X5_in rfl rfl rfl (by decide +kernel) ⟨Nat.le_of_ble_eq_true rfl, Nat.le_of_ble_eq_true rfl⟩) hl.1 rfl (Nat.le_of_ble_eq_true rfl) dX5_setting_8 (fun r_3 s_4 H locs hq hP hD hS => ?_)
  obtain ⟨rfl, rfl⟩ := hq
  refine lv_if_eq (tgt := 23) hx hb dX5_setting_11 (by decide) (fun c11_4 => ?_) (fun c11_4 => absurd hbad c11_4)
  refine lv_aload_n hx hb dX5_setting_23 rfl (lv_at hl 0 rfl) ?_
  refine lv_iconst (v := 1) hx hb dX5_setting_24 (by decide) ?_
  refine nVi (As := [.int 1]) (rest := _) hx hb hml hown hts hP hK hD hZ hA hS ⟨Nat.zero_le _, Nat.zero_le _⟩ hM.1 rfl (m_fails l E ad s_1 b (gu (mG N P kp C n th J) 6 (fun _ => 0)) hM 1) (cwV 1 hts gX5_setting_X5_fails rfl rfl rfl (by decide +kernel) ⟨Nat.le_of_ble_eq_true rfl, Nat.le_of_ble_eq_true rfl⟩) hl.1 rfl (Nat.le_of_ble_eq_true rfl) dX5_setting_25 (fun r_6 s_8 H locs hq hP hD hS => ?_)
  obtain ⟨hrr_6, hM, hf_7⟩ := hq
  have hrr_6 : r_6 = 0 := hrr_6
  have hf := hf.tr hf_7
  have hM : isR E ad s_8 b sM (gu (mG N P kp C n th J) 6 (fun _ => 1)) := hM.eq (all14 rfl rfl rfl rfl rfl rfl rfl rfl rfl rfl rfl rfl rfl rfl)
  exact hret _ _ _ _ _ _ hP hD hS (⟨hrr_6, ⟨J, hM.eq (all14 rfl rfl rfl rfl rfl rfl rfl rfl rfl rfl rfl rfl rfl rfl)⟩, hf⟩) dX5_setting_28

set_option maxHeartbeats 4000000 in
set_option maxRecDepth 100000 in
theorem m_savesJ (l : Launch) (E : NE) (ad : Nat → Nat) (st : NW) (b : Nat) (N P : Nat → Int32) (kp : Nat) (C : Nat → Int32) (n : Nat) (th : Int32) (J : Nat → Nat → Int32) (hkp : kp ≤ 6) (hn : n ≤ 60) (hO : okN N) (hM : isR E ad st b sM (mG N P kp C n th J))  : nMv l yX5_saves wsX5_saves (nRm 1 24) E ad st [.ref (ad b)] (fun s1 => isR E ad s1 b sM (mG N (svP P kp N) (svA kp) C n th J) ∧ fr b st s1) := by
  refine nSv (cc := cX5_saves) (maxL := 2) (by decide) rfl (Nat.le_of_ble_eq_true rfl) ?_
  intro pg en s mi ar bw mth cd R Q A ls hx hb hml hown hts hRm hP hK hD hZ hA hl hret
  subst hRm
  have hown : s.vm.findClass RX5 = some mi.cls := hown
  have hS : va_S A s.heap s.heap [] := va_S.rf
  have hl : lv_has ls 2 [(0, .ref (ad b))] := hl
  have hf : fr b st st := fr.rf
  have hdB := hO.1.b
  have hinX5 : ∀ w ∈ wsX50, w ∈ wsX5_saves := by decide +kernel
  refine lv_aload_n hx hb dX5_saves_0 rfl (lv_at hl 0 rfl) ?_
  refine rg (v := .int (nI kp)) (T := TX5) (N := 14) (C := RX5) hx hb hts hinX5 hown hK hP hM rfl 3 (by decide) (hts (.fieldLink RX5 36 "NeedleGridModel" "kept" "I") (by decide +kernel)) rfl dX5_saves_1 ?_
  refine lv_bipush (v := 6) hx hb dX5_saves_4 (by decide) ?_
  refine lv_icmp_ne (tgt := 50) hx hb dX5_saves_6 (by decide) (fun c6_0 => ?_) (fun c6_0 => ?_)
  · have hk6 : kp < 6 := by have : ¬ kp = 6 := fun h9 => c6_0 (by rw [h9]; rfl); omega
    refine lv_aload_n hx hb dX5_saves_50 rfl (lv_at hl 0 rfl) ?_
    refine rg (v := .ref (ad (b + 1 + 0))) (T := TX5) (N := 14) (C := RX5) hx hb hts hinX5 hown hK hP hM rfl 0 (by decide) (hts (.fieldLink RX5 7 "NeedleGridModel" "now" "[I") (by decide +kernel)) rfl dX5_saves_51 ?_
    refine lv_iconst (v := 0) hx hb dX5_saves_54 (by decide) ?_
    refine lv_aload_n hx hb dX5_saves_55 rfl (lv_at hl 0 rfl) ?_
    refine rg (v := .ref (ad (b + 1 + 2))) (T := TX5) (N := 14) (C := RX5) hx hb hts hinX5 hown hK hP hM rfl 2 (by decide) (hts (.fieldLink RX5 16 "NeedleGridModel" "past" "[I") (by decide +kernel)) rfl dX5_saves_56 ?_
    refine lv_sipush (v := 186) hx hb dX5_saves_59 (by decide) ?_
    refine lv_aload_n hx hb dX5_saves_62 rfl (lv_at hl 0 rfl) ?_
    refine rg (v := .int (nI kp)) (T := TX5) (N := 14) (C := RX5) hx hb hts hinX5 hown hK hP hM rfl 3 (by decide) (hts (.fieldLink RX5 36 "NeedleGridModel" "kept" "I") (by decide +kernel)) rfl dX5_saves_63 ?_
    refine lv_imul hx hb dX5_saves_66 ?_
    rw [show 186 * nI kp = nI (186 * kp) from pk_mul 186 kp]
    refine nS_v (As := [.ref (ad (b + 1 + 0)), .int 0, .ref (ad (b + 1 + 2)), .int (nI (186 * kp))]) (rest := _) hx hb hml hown hts hP hK hD hZ hA hS ⟨Nat.zero_le _, Nat.zero_le _⟩ (m_copies02 l E ad st b (mG N P kp C n th J) hM 0 (186 * kp) (by omega) (by omega)) (va_cwS 4 hts gX5_saves_X5_copies rfl rfl rfl (by decide +kernel) ⟨Nat.le_of_ble_eq_true rfl, Nat.le_of_ble_eq_true rfl⟩) hl.1 rfl (Nat.le_of_ble_eq_true rfl) dX5_saves_67 (fun s_4 H locs hq hP hD hS => ?_)
    obtain ⟨hM, hf_3⟩ := hq
    have hf := hf.tr hf_3
    refine lv_aload_n hx hb dX5_saves_70 rfl (lv_at hl 0 rfl) ?_
    refine lv_dup hx hb dX5_saves_71 rfl ?_
    refine rg (v := .int (nI kp)) (T := TX5) (N := 14) (C := RX5) hx hb hts hinX5 hown hK hP hM rfl 3 (by decide) (hts (.fieldLink RX5 36 "NeedleGridModel" "kept" "I") (by decide +kernel)) rfl dX5_saves_72 ?_
    refine lv_iconst (v := 1) hx hb dX5_saves_75 (by decide) ?_
    refine lv_iadd hx hb dX5_saves_76 ?_
    rw [nI_1]
    refine rp (v := nI (kp + 1)) (ty := .int) (T := TX5) (N := 14) (C := RX5) hx hb hts hinX5 tyX5 tyX5_ok nmX5 hown hK hP hD hS hM rfl 3 (by decide) (hts (.fieldLink RX5 36 "NeedleGridModel" "kept" "I") (by decide +kernel)) rfl rfl (by decide +kernel) rfl rfl dX5_saves_77 (fun s_5 H locs hM hf_6 hP hD hS => ?_)
    have hf := hf.tr hf_6
    exact hret _ _ _ _ _ hP hD hS (⟨hM.eq (all14 rfl rfl (svP_l hk6).symm (funext fun _ => congrArg nI (svA_l hk6).symm) rfl rfl rfl rfl rfl rfl rfl rfl rfl rfl), hf⟩) dX5_saves_80
  · have hk6 : kp = 6 := (nI_eq (b := 6) (by omega) (by omega)).mp c6_0
    subst hk6
    refine lv_iconst (v := 0) hx hb dX5_saves_9 (by decide) ?_
    refine lv_istore_n (lv' := [(1, .int 0), (0, .ref (ad b))]) hx hb dX5_saves_10 rfl hl (by decide) rfl (fun ls hl => ?_)
    have LP_7 : ∀ (k9 i : Nat), i ≤ 930 → 930 - i < k9 → ∀ (sL_8 : NW) (H : Heap) (locs : List Loc) (ls : Array Slot), isR E ad sL_8 b sM (gu (mG N P 6 C n th J) 2 (shP P i)) → fr b st sL_8 → nP E ad sL_8 H → nD A ad sL_8 → va_S A s.heap H locs → lv_has ls 2 [(1, .int (nI i)), (0, .ref (ad b))] → W pg l en (nRm 1 24) s mi ar bw mth cd H locs 0 0 Q (F0 mi 11 ls []) := by
      intro k9
      induction k9 with
      | zero => intro i _ h9; exact absurd h9 (Nat.not_lt_zero _)
      | succ k9 ih11 =>
        intro i hi hk9 sL_8 H locs ls hM hf hP hD hS hl
        refine lv_iload_n hx hb dX5_saves_11 rfl (lv_at hl 0 rfl) ?_
        refine lv_sipush (v := 930) hx hb dX5_saves_12 (by decide) ?_
        refine lv_icmp_ge (tgt := 40) hx hb dX5_saves_15 (by decide) (fun c15_8 => ?_) (fun c15_8 => ?_)
        · have h36 : 930 ≤ i := (nI_geL (n := 930) rfl (by decide) (by omega)).mp c15_8
          obtain rfl : i = 930 := by omega
          refine lv_aload_n hx hb dX5_saves_40 rfl (lv_at hl 1 rfl) ?_
          refine lv_dup hx hb dX5_saves_41 rfl ?_
          refine rg (v := .int (nI 6)) (T := TX5) (N := 14) (C := RX5) hx hb hts hinX5 hown hK hP hM rfl 3 (by decide) (hts (.fieldLink RX5 36 "NeedleGridModel" "kept" "I") (by decide +kernel)) rfl dX5_saves_42 ?_
          refine lv_iconst (v := 1) hx hb dX5_saves_45 (by decide) ?_
          refine lv_isub hx hb dX5_saves_46 ?_
          rw [show nI 6 - 1 = nI 5 from by decide]
          refine rp (v := nI 5) (ty := .int) (T := TX5) (N := 14) (C := RX5) hx hb hts hinX5 tyX5 tyX5_ok nmX5 hown hK hP hD hS hM rfl 3 (by decide) (hts (.fieldLink RX5 36 "NeedleGridModel" "kept" "I") (by decide +kernel)) rfl rfl (by decide +kernel) rfl rfl dX5_saves_47 (fun s_10 H locs hM hf_11 hP hD hS => ?_)
          have hf := hf.tr hf_11
          refine lv_aload_n hx hb dX5_saves_50 rfl (lv_at hl 1 rfl) ?_
          refine rg (v := .ref (ad (b + 1 + 0))) (T := TX5) (N := 14) (C := RX5) hx hb hts hinX5 hown hK hP hM rfl 0 (by decide) (hts (.fieldLink RX5 7 "NeedleGridModel" "now" "[I") (by decide +kernel)) rfl dX5_saves_51 ?_
          refine lv_iconst (v := 0) hx hb dX5_saves_54 (by decide) ?_
          refine lv_aload_n hx hb dX5_saves_55 rfl (lv_at hl 1 rfl) ?_
          refine rg (v := .ref (ad (b + 1 + 2))) (T := TX5) (N := 14) (C := RX5) hx hb hts hinX5 hown hK hP hM rfl 2 (by decide) (hts (.fieldLink RX5 16 "NeedleGridModel" "past" "[I") (by decide +kernel)) rfl dX5_saves_56 ?_
          refine lv_sipush (v := 186) hx hb dX5_saves_59 (by decide) ?_
          refine lv_aload_n hx hb dX5_saves_62 rfl (lv_at hl 1 rfl) ?_
          refine rg (v := .int (nI 5)) (T := TX5) (N := 14) (C := RX5) hx hb hts hinX5 hown hK hP hM rfl 3 (by decide) (hts (.fieldLink RX5 36 "NeedleGridModel" "kept" "I") (by decide +kernel)) rfl dX5_saves_63 ?_
          refine lv_imul hx hb dX5_saves_66 ?_
          rw [show 186 * nI 5 = nI (186 * 5) from pk_mul 186 5]
          refine nS_v (As := [.ref (ad (b + 1 + 0)), .int 0, .ref (ad (b + 1 + 2)), .int (nI (186 * 5))]) (rest := _) hx hb hml hown hts hP hK hD hZ hA hS ⟨Nat.zero_le _, Nat.zero_le _⟩ (m_copies02 l E ad s_10 b (gu (gu (mG N P 6 C n th J) 2 (shP P 930)) 3 (fun _ => nI 5)) hM 0 (186 * 5) (by omega) (by omega)) (va_cwS 4 hts gX5_saves_X5_copies rfl rfl rfl (by decide +kernel) ⟨Nat.le_of_ble_eq_true rfl, Nat.le_of_ble_eq_true rfl⟩) hl.1 rfl (Nat.le_of_ble_eq_true rfl) dX5_saves_67 (fun s_14 H locs hq hP hD hS => ?_)
          obtain ⟨hM, hf_13⟩ := hq
          have hf := hf.tr hf_13
          have hM : isR E ad s_14 b sM (gu (gu (mG N P 6 C n th J) 3 (fun _ => nI 5)) 2 (cpI N (shP P 930) 0 (186 * 5) 186)) := hM.eq (all14 rfl rfl rfl rfl rfl rfl rfl rfl rfl rfl rfl rfl rfl rfl)
          refine lv_aload_n hx hb dX5_saves_70 rfl (lv_at hl 1 rfl) ?_
          refine lv_dup hx hb dX5_saves_71 rfl ?_
          refine rg (v := .int (nI 5)) (T := TX5) (N := 14) (C := RX5) hx hb hts hinX5 hown hK hP hM rfl 3 (by decide) (hts (.fieldLink RX5 36 "NeedleGridModel" "kept" "I") (by decide +kernel)) rfl dX5_saves_72 ?_
          refine lv_iconst (v := 1) hx hb dX5_saves_75 (by decide) ?_
          refine lv_iadd hx hb dX5_saves_76 ?_
          rw [nI_1]
          refine rp (v := nI (5 + 1)) (ty := .int) (T := TX5) (N := 14) (C := RX5) hx hb hts hinX5 tyX5 tyX5_ok nmX5 hown hK hP hD hS hM rfl 3 (by decide) (hts (.fieldLink RX5 36 "NeedleGridModel" "kept" "I") (by decide +kernel)) rfl rfl (by decide +kernel) rfl rfl dX5_saves_77 (fun s_15 H locs hM hf_16 hP hD hS => ?_)
          have hf := hf.tr hf_16
          have hM : isR E ad s_15 b sM (gu (gu (mG N P 6 C n th J) 2 (cpI N (shP P 930) 0 (186 * 5) 186)) 3 (fun _ => nI (5 + 1))) := hM.eq (all14 rfl rfl rfl rfl rfl rfl rfl rfl rfl rfl rfl rfl rfl rfl)
          exact hret _ _ _ _ _ hP hD hS (⟨hM.eq (all14 rfl rfl (svP_6).symm rfl rfl rfl rfl rfl rfl rfl rfl rfl rfl rfl), hf⟩) dX5_saves_80
        · have hlt : i < 930 := by have := mt (nI_geL (n := 930) (i := i) rfl (by decide) (by omega)).mpr c15_8; omega
          refine lv_aload_n hx hb dX5_saves_18 rfl (lv_at hl 1 rfl) ?_
          refine rg (v := .ref (ad (b + 1 + 2))) (T := TX5) (N := 14) (C := RX5) hx hb hts hinX5 hown hK hP hM rfl 2 (by decide) (hts (.fieldLink RX5 16 "NeedleGridModel" "past" "[I") (by decide +kernel)) rfl dX5_saves_19 ?_
          refine lv_iload_n hx hb dX5_saves_22 rfl (lv_at hl 0 rfl) ?_
          refine lv_aload_n hx hb dX5_saves_23 rfl (lv_at hl 1 rfl) ?_
          refine rg (v := .ref (ad (b + 1 + 2))) (T := TX5) (N := 14) (C := RX5) hx hb hts hinX5 hown hK hP hM rfl 2 (by decide) (hts (.fieldLink RX5 16 "NeedleGridModel" "past" "[I") (by decide +kernel)) rfl dX5_saves_24 ?_
          refine lv_iload_n hx hb dX5_saves_27 rfl (lv_at hl 0 rfl) ?_
          refine lv_sipush (v := 186) hx hb dX5_saves_28 (by decide) ?_
          refine lv_iadd hx hb dX5_saves_31 ?_
          rw [show nI i + 186 = nI (i + 186) from nI_add i 186]
          refine ra (j := (i + 186)) (n := 1116) hx hb hK hP hM 2 rfl (by omega) (by decide) dX5_saves_32 ?_
          refine rs (j := i) (n := 1116) (x := (shP P i) (i + 186)) hx hb hK hP hD hS hM 2 rfl (by decide) (by omega) (by decide) dX5_saves_33 (fun s_17 H locs hM hf_18 hP hD hS => ?_)
          have hf := hf.tr hf_18
          have hM : isR E ad s_17 b sM (gu (mG N P 6 C n th J) 2 (upd (shP P i) i ((shP P i) (i + 186)))) := hM.eq (all14 rfl rfl rfl rfl rfl rfl rfl rfl rfl rfl rfl rfl rfl rfl)
          refine lv_iinc (v := nI (i + 1)) (lv' := [(1, .int (nI (i + 1))), (0, .ref (ad b))]) hx hb dX5_saves_34 hl (k := 0) rfl (nI_1 _) (by decide) rfl (fun ls hl => ?_)
          refine lv_goto (tgt := 11) hx hb dX5_saves_37 (by decide) ?_
          exact ih11 (i + 1) (by omega) (by omega) _ _ _ _ (hM.eq (all14 rfl rfl (shP_s (P := P) (i := i)) rfl rfl rfl rfl rfl rfl rfl rfl rfl rfl rfl)) hf hP hD hS (lv_sub hl [0, 1] rfl)
    exact LP_7 (930 + 1) 0 (Nat.zero_le _) (by omega) _ _ _ _ (hM.eq (all14 rfl rfl (fil_0 (fun j => P (j + 186)) P).symm rfl rfl rfl rfl rfl rfl rfl rfl rfl rfl rfl)) hf hP hD hS (lv_sub hl [0, 1] rfl)

set_option maxHeartbeats 4000000 in
set_option maxRecDepth 100000 in
theorem m_firstError (l : Launch) (E : NE) (ad : Nat → Nat) (st : NW) (b : Nat) (N P : Nat → Int32) (kp : Nat) (C : Nat → Int32) (n : Nat) (th : Int32) (J : Nat → Nat → Int32) (hkp : kp ≤ 6) (hn : n ≤ 60) (hO : okN N) (hM : isR E ad st b sM (mG N P kp C n th J)) (hC : okC C n)  : nMi l yX5_firstError wsX5_firstError (nRm 4 88) E ad st [.ref (ad b)] (fun r s1 => r = nI (fErr C n) ∧ (∃ J1, isR E ad s1 b sM (mG N P kp C n 0 J1)) ∧ fr b st s1) := by
  refine nSi (cc := cX5_firstError) (maxL := 2) (by decide) rfl (Nat.le_of_ble_eq_true rfl) ?_
  intro pg en s mi ar bw mth cd R Q A ls hx hb hml hown hts hRm hP hK hD hZ hA hl hret
  subst hRm
  have hown : s.vm.findClass RX5 = some mi.cls := hown
  have hS : va_S A s.heap s.heap [] := va_S.rf
  have hl : lv_has ls 2 [(0, .ref (ad b))] := hl
  have hf : fr b st st := fr.rf
  have hdB := hO.1.b
  have hinX5 : ∀ w ∈ wsX50, w ∈ wsX5_firstError := by decide +kernel
  refine lv_aload_n hx hb dX5_firstError_0 rfl (lv_at hl 0 rfl) ?_
  refine lv_iconst (v := 0) hx hb dX5_firstError_1 (by decide) ?_
  refine rp (v := 0) (ty := .int) (T := TX5) (N := 14) (C := RX5) hx hb hts hinX5 tyX5 tyX5_ok nmX5 hown hK hP hD hS hM rfl 6 (by decide) (hts (.fieldLink RX5 28 "NeedleGridModel" "thrown" "I") (by decide +kernel)) rfl rfl (by decide +kernel) rfl rfl dX5_firstError_2 (fun s_1 H locs hM hf_2 hP hD hS => ?_)
  have hf := hf.tr hf_2
  refine lv_aload_n hx hb dX5_firstError_5 rfl (lv_at hl 0 rfl) ?_
  refine nVi (As := []) (rest := _) hx hb hml hown hts hP hK hD hZ hA hS ⟨Nat.zero_le _, Nat.zero_le _⟩ hM.1 rfl (m_isText l E ad s_1 b N P kp C n 0 J hkp hn hO (hM.eq (all14 rfl rfl rfl rfl rfl rfl rfl rfl rfl rfl rfl rfl rfl rfl)) hC) (cwV 0 hts gX5_firstError_X5_isText rfl rfl rfl (by decide +kernel) ⟨Nat.le_of_ble_eq_true rfl, Nat.le_of_ble_eq_true rfl⟩) hl.1 rfl (Nat.le_of_ble_eq_true rfl) dX5_firstError_6 (fun r_3 s_5 H locs hq hP hD hS => ?_)
  obtain ⟨hor, hf_4⟩ := hq
  have hf := hf.tr hf_4
  rcases hor with ⟨hr, hNc, T9, kx, hM⟩ | ⟨hr, hYc, T9, kx, f9, htx, hM⟩
  · subst hr
    have hM : isR E ad s_5 b sM (gu (gu (gu (gu (mG N P kp C n 0 J) 7 (fun _ => nI (fErr C n))) 8 (fun _ => stF (fErr C n) n)) 9 T9) 10 (fun _ => nI kx)) := hM.eq (all14 rfl rfl rfl rfl rfl rfl rfl rfl rfl rfl rfl rfl rfl rfl)
    refine lv_istore_n (lv' := [(1, .int 0), (0, .ref (ad b))]) hx hb dX5_firstError_9 rfl hl (by decide) rfl (fun ls hl => ?_)
    refine lv_iload_n hx hb dX5_firstError_10 rfl (lv_at hl 0 rfl) ?_
    refine lv_if_ne (tgt := 28) hx hb dX5_firstError_11 (by decide) (fun c11_5 => absurd (by decide) c11_5) (fun c11_5 => ?_)
    refine lv_aload_n hx hb dX5_firstError_14 rfl (lv_at hl 1 rfl) ?_
    refine rg (v := .int (stF (fErr C n) n)) (T := TX5) (N := 14) (C := RX5) hx hb hts hinX5 hown hK hP hM rfl 8 (by decide) (hts (.fieldLink RX5 116 "NeedleGridModel" "isFault" "Z") (by decide +kernel)) rfl dX5_firstError_15 ?_
    refine lv_if_eq (tgt := 28) hx hb dX5_firstError_18 (by decide) (fun c18_6 => ?_) (fun c18_6 => ?_)
    · have c18_6 : (stF (fErr C n) n) = 0 := c18_6
      have hge : n ≤ fErr C n := by by_cases z : n ≤ fErr C n; exact z; rw [stF_1 z] at c18_6; exact absurd c18_6 (by decide)
      have hle : fErr C n ≤ n := goodS_le n 0 (by omega)
      refine lv_aload_n hx hb dX5_firstError_28 rfl (lv_at hl 1 rfl) ?_
      refine rg (v := .int (nI n)) (T := TX5) (N := 14) (C := RX5) hx hb hts hinX5 hown hK hP hM rfl 5 (by decide) (hts (.fieldLink RX5 110 "NeedleGridModel" "typed" "I") (by decide +kernel)) rfl dX5_firstError_29 ?_
      exact hret _ _ _ _ _ _ hP hD hS (⟨(congrArg nI (by omega)), ⟨(gu (gu (gu (gu J 7 (fun _ => nI (fErr C n))) 8 (fun _ => stF (fErr C n) n)) 9 T9) 10 (fun _ => nI kx)), hM.eq (all14 rfl rfl rfl rfl rfl rfl rfl rfl rfl rfl rfl rfl rfl rfl)⟩, hf⟩) dX5_firstError_32
    · have c18_6 : ¬ (stF (fErr C n) n) = 0 := c18_6
      refine lv_aload_n hx hb dX5_firstError_21 rfl (lv_at hl 1 rfl) ?_
      refine rg (v := .int (nI (fErr C n))) (T := TX5) (N := 14) (C := RX5) hx hb hts hinX5 hown hK hP hM rfl 7 (by decide) (hts (.fieldLink RX5 113 "NeedleGridModel" "at" "I") (by decide +kernel)) rfl dX5_firstError_22 ?_
      refine lv_goto (tgt := 32) hx hb dX5_firstError_25 (by decide) ?_
      exact hret _ _ _ _ _ _ hP hD hS (⟨rfl, ⟨(gu (gu (gu (gu J 7 (fun _ => nI (fErr C n))) 8 (fun _ => stF (fErr C n) n)) 9 T9) 10 (fun _ => nI kx)), hM.eq (all14 rfl rfl rfl rfl rfl rfl rfl rfl rfl rfl rfl rfl rfl rfl)⟩, hf⟩) dX5_firstError_32
  · subst hr
    have hM : isR E ad s_5 b sM (gu (gu (gu (gu (mG N P kp C n 0 J) 7 (fun _ => nI n)) 8 (fun _ => f9)) 9 T9) 10 (fun _ => nI kx)) := hM.eq (all14 rfl rfl rfl rfl rfl rfl rfl rfl rfl rfl rfl rfl rfl rfl)
    refine lv_istore_n (lv' := [(1, .int 1), (0, .ref (ad b))]) hx hb dX5_firstError_9 rfl hl (by decide) rfl (fun ls hl => ?_)
    refine lv_iload_n hx hb dX5_firstError_10 rfl (lv_at hl 0 rfl) ?_
    refine lv_if_ne (tgt := 28) hx hb dX5_firstError_11 (by decide) (fun c11_7 => ?_) (fun c11_7 => absurd c11_7 (by decide))
    refine lv_aload_n hx hb dX5_firstError_28 rfl (lv_at hl 1 rfl) ?_
    refine rg (v := .int (nI n)) (T := TX5) (N := 14) (C := RX5) hx hb hts hinX5 hown hK hP hM rfl 5 (by decide) (hts (.fieldLink RX5 110 "NeedleGridModel" "typed" "I") (by decide +kernel)) rfl dX5_firstError_29 ?_
    exact hret _ _ _ _ _ _ hP hD hS (⟨(congrArg nI hYc.1.symm), ⟨(gu (gu (gu (gu J 7 (fun _ => nI n)) 8 (fun _ => f9)) 9 T9) 10 (fun _ => nI kx)), hM.eq (all14 rfl rfl rfl rfl rfl rfl rfl rfl rfl rfl rfl rfl rfl rfl)⟩, hf⟩) dX5_firstError_32

set_option maxHeartbeats 4000000 in
set_option maxRecDepth 100000 in
theorem m_bars_n (l : Launch) (E : NE) (ad : Nat → Nat) (st : NW) (b : Nat) (N P : Nat → Int32) (kp : Nat) (C : Nat → Int32) (n : Nat) (th : Int32) (J : Nat → Nat → Int32) (hkp : kp ≤ 6) (hn : n ≤ 60) (hO : okN N) (hM : isR E ad st b sM (mG N P kp C n th J)) (hC : okC C n) (hcm : ¬ cmpl C n) : nMi l yX5_bars wsX5_bars (nRm 4 88) E ad st [.ref (ad b)] (fun r s1 => r = 0 ∧ (∃ J1, isR E ad s1 b sM (mG N P kp C n 1 J1)) ∧ fr b st s1) := by
  refine nSi (cc := cX5_bars) (maxL := 2) (by decide) rfl (Nat.le_of_ble_eq_true rfl) ?_
  intro pg en s mi ar bw mth cd R Q A ls hx hb hml hown hts hRm hP hK hD hZ hA hl hret
  subst hRm
  have hown : s.vm.findClass RX5 = some mi.cls := hown
  have hS : va_S A s.heap s.heap [] := va_S.rf
  have hl : lv_has ls 2 [(0, .ref (ad b))] := hl
  have hf : fr b st st := fr.rf
  have hdB := hO.1.b
  have hinX5 : ∀ w ∈ wsX50, w ∈ wsX5_bars := by decide +kernel
  refine lv_aload_n hx hb dX5_bars_0 rfl (lv_at hl 0 rfl) ?_
  refine lv_iconst (v := 0) hx hb dX5_bars_1 (by decide) ?_
  refine rp (v := 0) (ty := .int) (T := TX5) (N := 14) (C := RX5) hx hb hts hinX5 tyX5 tyX5_ok nmX5 hown hK hP hD hS hM rfl 6 (by decide) (hts (.fieldLink RX5 28 "NeedleGridModel" "thrown" "I") (by decide +kernel)) rfl rfl (by decide +kernel) rfl rfl dX5_bars_2 (fun s_1 H locs hM hf_2 hP hD hS => ?_)
  have hf := hf.tr hf_2
  refine lv_aload_n hx hb dX5_bars_5 rfl (lv_at hl 0 rfl) ?_
  refine nVi (As := []) (rest := _) hx hb hml hown hts hP hK hD hZ hA hS ⟨Nat.zero_le _, Nat.zero_le _⟩ hM.1 rfl (m_isText l E ad s_1 b N P kp C n 0 J hkp hn hO (hM.eq (all14 rfl rfl rfl rfl rfl rfl rfl rfl rfl rfl rfl rfl rfl rfl)) hC) (cwV 0 hts gX5_bars_X5_isText rfl rfl rfl (by decide +kernel) ⟨Nat.le_of_ble_eq_true rfl, Nat.le_of_ble_eq_true rfl⟩) hl.1 rfl (Nat.le_of_ble_eq_true rfl) dX5_bars_6 (fun r_3 s_5 H locs hq hP hD hS => ?_)
  obtain ⟨hor, hf_4⟩ := hq
  have hf := hf.tr hf_4
  rcases hor with ⟨hr, hNc, T9, kx, hM⟩ | ⟨hr, hYc, T9, kx, f9, htx, hM⟩
  · subst hr
    have hM : isR E ad s_5 b sM (gu (gu (gu (gu (mG N P kp C n 0 J) 7 (fun _ => nI (fErr C n))) 8 (fun _ => stF (fErr C n) n)) 9 T9) 10 (fun _ => nI kx)) := hM.eq (all14 rfl rfl rfl rfl rfl rfl rfl rfl rfl rfl rfl rfl rfl rfl)
    refine lv_if_ne (tgt := 18) hx hb dX5_bars_9 (by decide) (fun c9_5 => absurd (by decide) c9_5) (fun c9_5 => ?_)
    refine lv_aload_n hx hb dX5_bars_12 rfl (lv_at hl 0 rfl) ?_
    refine lv_iconst (v := 1) hx hb dX5_bars_13 (by decide) ?_
    refine nVi (As := [.int 1]) (rest := _) hx hb hml hown hts hP hK hD hZ hA hS ⟨Nat.zero_le _, Nat.zero_le _⟩ hM.1 rfl (m_fails l E ad s_5 b (gu (gu (gu (gu (mG N P kp C n 0 J) 7 (fun _ => nI (fErr C n))) 8 (fun _ => stF (fErr C n) n)) 9 T9) 10 (fun _ => nI kx)) hM 1) (cwV 1 hts gX5_bars_X5_fails rfl rfl rfl (by decide +kernel) ⟨Nat.le_of_ble_eq_true rfl, Nat.le_of_ble_eq_true rfl⟩) hl.1 rfl (Nat.le_of_ble_eq_true rfl) dX5_bars_14 (fun r_7 s_9 H locs hq hP hD hS => ?_)
    obtain ⟨hrr_7, hM, hf_8⟩ := hq
    have hrr_7 : r_7 = 0 := hrr_7
    have hf := hf.tr hf_8
    exact hret _ _ _ _ _ _ hP hD hS (⟨hrr_7, ⟨(gu (gu (gu (gu J 7 (fun _ => nI (fErr C n))) 8 (fun _ => stF (fErr C n) n)) 9 T9) 10 (fun _ => nI kx)), hM.eq (all14 rfl rfl rfl rfl rfl rfl rfl rfl rfl rfl rfl rfl rfl rfl)⟩, hf⟩) dX5_bars_17
  · subst hr
    have hM : isR E ad s_5 b sM (gu (gu (gu (gu (mG N P kp C n 0 J) 7 (fun _ => nI n)) 8 (fun _ => f9)) 9 T9) 10 (fun _ => nI kx)) := hM.eq (all14 rfl rfl rfl rfl rfl rfl rfl rfl rfl rfl rfl rfl rfl rfl)
    exact absurd hYc hcm

set_option maxHeartbeats 4000000 in
set_option maxRecDepth 100000 in
theorem m_bars (l : Launch) (E : NE) (ad : Nat → Nat) (st : NW) (b : Nat) (N P : Nat → Int32) (kp : Nat) (C : Nat → Int32) (n : Nat) (th : Int32) (J : Nat → Nat → Int32) (hkp : kp ≤ 6) (hn : n ≤ 60) (hO : okN N) (hM : isR E ad st b sM (mG N P kp C n th J)) (hC : okC C n) (hcm : cmpl C n) : nMi l yX5_bars wsX5_bars (nRm 4 88) E ad st [.ref (ad b)] (fun r s1 => r = nI (cnI (barP (brsN r00 N C n)) 36) ∧ okN (brsN r00 N C n) ∧ (∃ J1, isR E ad s1 b sM (mG (brsN r00 N C n) (svP P kp N) (svA kp) C 0 0 J1)) ∧ fr b st s1) := by
  refine nSi (cc := cX5_bars) (maxL := 2) (by decide) rfl (Nat.le_of_ble_eq_true rfl) ?_
  intro pg en s mi ar bw mth cd R Q A ls hx hb hml hown hts hRm hP hK hD hZ hA hl hret
  subst hRm
  have hown : s.vm.findClass RX5 = some mi.cls := hown
  have hS : va_S A s.heap s.heap [] := va_S.rf
  have hl : lv_has ls 2 [(0, .ref (ad b))] := hl
  have hf : fr b st st := fr.rf
  have hdB := hO.1.b
  have hinX5 : ∀ w ∈ wsX50, w ∈ wsX5_bars := by decide +kernel
  refine lv_aload_n hx hb dX5_bars_0 rfl (lv_at hl 0 rfl) ?_
  refine lv_iconst (v := 0) hx hb dX5_bars_1 (by decide) ?_
  refine rp (v := 0) (ty := .int) (T := TX5) (N := 14) (C := RX5) hx hb hts hinX5 tyX5 tyX5_ok nmX5 hown hK hP hD hS hM rfl 6 (by decide) (hts (.fieldLink RX5 28 "NeedleGridModel" "thrown" "I") (by decide +kernel)) rfl rfl (by decide +kernel) rfl rfl dX5_bars_2 (fun s_1 H locs hM hf_2 hP hD hS => ?_)
  have hf := hf.tr hf_2
  refine lv_aload_n hx hb dX5_bars_5 rfl (lv_at hl 0 rfl) ?_
  refine nVi (As := []) (rest := _) hx hb hml hown hts hP hK hD hZ hA hS ⟨Nat.zero_le _, Nat.zero_le _⟩ hM.1 rfl (m_isText l E ad s_1 b N P kp C n 0 J hkp hn hO (hM.eq (all14 rfl rfl rfl rfl rfl rfl rfl rfl rfl rfl rfl rfl rfl rfl)) hC) (cwV 0 hts gX5_bars_X5_isText rfl rfl rfl (by decide +kernel) ⟨Nat.le_of_ble_eq_true rfl, Nat.le_of_ble_eq_true rfl⟩) hl.1 rfl (Nat.le_of_ble_eq_true rfl) dX5_bars_6 (fun r_3 s_5 H locs hq hP hD hS => ?_)
  obtain ⟨hor, hf_4⟩ := hq
  have hf := hf.tr hf_4
  rcases hor with ⟨hr, hNc, T9, kx, hM⟩ | ⟨hr, hYc, T9, kx, f9, htx, hM⟩
  · subst hr
    have hM : isR E ad s_5 b sM (gu (gu (gu (gu (mG N P kp C n 0 J) 7 (fun _ => nI (fErr C n))) 8 (fun _ => stF (fErr C n) n)) 9 T9) 10 (fun _ => nI kx)) := hM.eq (all14 rfl rfl rfl rfl rfl rfl rfl rfl rfl rfl rfl rfl rfl rfl)
    exact absurd hcm hNc
  · subst hr
    have hM : isR E ad s_5 b sM (gu (gu (gu (gu (mG N P kp C n 0 J) 7 (fun _ => nI n)) 8 (fun _ => f9)) 9 T9) 10 (fun _ => nI kx)) := hM.eq (all14 rfl rfl rfl rfl rfl rfl rfl rfl rfl rfl rfl rfl rfl rfl)
    refine lv_if_ne (tgt := 18) hx hb dX5_bars_9 (by decide) (fun c9_5 => ?_) (fun c9_5 => absurd c9_5 (by decide))
    refine lv_aload_n hx hb dX5_bars_18 rfl (lv_at hl 0 rfl) ?_
    refine nVv (As := []) (rest := _) hx hb hml hown hts hP hK hD hZ hA hS ⟨Nat.zero_le _, Nat.zero_le _⟩ hM.1 rfl (m_savesJ l E ad s_5 b N P kp C n 0 (gu (gu (gu (gu J 7 (fun _ => nI n)) 8 (fun _ => f9)) 9 T9) 10 (fun _ => nI kx)) hkp hn hO (hM.eq (all14 rfl rfl rfl rfl rfl rfl rfl rfl rfl rfl rfl rfl rfl rfl))) (cwV 0 hts gX5_bars_X5_saves rfl rfl rfl (by decide +kernel) ⟨Nat.le_of_ble_eq_true rfl, Nat.le_of_ble_eq_true rfl⟩) hl.1 rfl (Nat.le_of_ble_eq_true rfl) dX5_bars_19 (fun s_8 H locs hq hP hD hS => ?_)
    obtain ⟨hM, hf_7⟩ := hq
    have hf := hf.tr hf_7
    have hM : isR E ad s_8 b sM (gu (gu (gu (gu (mG N (svP P kp N) (svA kp) C n 0 J) 7 (fun _ => nI n)) 8 (fun _ => f9)) 9 T9) 10 (fun _ => nI kx)) := hM.eq (all14 rfl rfl rfl rfl rfl rfl rfl rfl rfl rfl rfl rfl rfl rfl)
    refine lv_aload_n hx hb dX5_bars_22 rfl (lv_at hl 0 rfl) ?_
    refine lv_iconst (v := 0) hx hb dX5_bars_23 (by decide) ?_
    refine rp (v := 0) (ty := .int) (T := TX5) (N := 14) (C := RX5) hx hb hts hinX5 tyX5 tyX5_ok nmX5 hown hK hP hD hS hM rfl 5 (by decide) (hts (.fieldLink RX5 110 "NeedleGridModel" "typed" "I") (by decide +kernel)) rfl rfl (by decide +kernel) rfl rfl dX5_bars_24 (fun s_9 H locs hM hf_10 hP hD hS => ?_)
    have hf := hf.tr hf_10
    refine lv_iconst (v := 0) hx hb dX5_bars_27 (by decide) ?_
    refine lv_istore_n (lv' := [(1, .int 0), (0, .ref (ad b))]) hx hb dX5_bars_28 rfl hl (by decide) rfl (fun ls hl => ?_)
    have LP_11 : ∀ (k9 i : Nat), i ≤ 36 → 36 - i < k9 → ∀ (sL_12 : NW) (H : Heap) (locs : List Loc) (ls : Array Slot), isR E ad sL_12 b sM (gu (gu (gu (gu (gu (gu (mG N (svP P kp N) (svA kp) C n 0 J) 7 (fun _ => nI n)) 8 (fun _ => f9)) 9 T9) 10 (fun _ => nI kx)) 5 (fun _ => 0)) 0 (clrN N i)) → fr b st sL_12 → nP E ad sL_12 H → nD A ad sL_12 → va_S A s.heap H locs → lv_has ls 2 [(1, .int (nI i)), (0, .ref (ad b))] → W pg l en (nRm 4 88) s mi ar bw mth cd H locs 0 0 Q (F0 mi 29 ls []) := by
      intro k9
      induction k9 with
      | zero => intro i _ h9; exact absurd h9 (Nat.not_lt_zero _)
      | succ k9 ih29 =>
        intro i hi hk9 sL_12 H locs ls hM hf hP hD hS hl
        refine lv_iload_n hx hb dX5_bars_29 rfl (lv_at hl 0 rfl) ?_
        refine lv_bipush (v := 36) hx hb dX5_bars_30 (by decide) ?_
        refine lv_icmp_ge (tgt := 51) hx hb dX5_bars_32 (by decide) (fun c32_12 => ?_) (fun c32_12 => ?_)
        · have h36 : 36 ≤ i := (nI_geL (n := 36) rfl (by decide) (by omega)).mp c32_12
          obtain rfl : i = 36 := by omega
          refine lv_iconst (v := 0) hx hb dX5_bars_51 (by decide) ?_
          refine lv_istore_n (lv' := [(1, .int 0), (0, .ref (ad b))]) hx hb dX5_bars_52 rfl hl (by decide) rfl (fun ls hl => ?_)
          have LP_14 : ∀ (k9 j : Nat), j ≤ kx → kx - j < k9 → ∀ (sL_15 : NW) (H : Heap) (locs : List Loc) (ls : Array Slot), isR E ad sL_15 b sM (gu (gu (gu (gu (gu (gu (mG N (svP P kp N) (svA kp) C n 0 J) 7 (fun _ => nI n)) 8 (fun _ => f9)) 9 T9) 10 (fun _ => nI kx)) 5 (fun _ => 0)) 0 (layK T9 j (clrN N 36))) → fr b st sL_15 → nP E ad sL_15 H → nD A ad sL_15 → va_S A s.heap H locs → lv_has ls 2 [(1, .int (nI j)), (0, .ref (ad b))] → W pg l en (nRm 4 88) s mi ar bw mth cd H locs 0 0 Q (F0 mi 53 ls []) := by
            intro k9
            induction k9 with
            | zero => intro j _ h9; exact absurd h9 (Nat.not_lt_zero _)
            | succ k9 ih53 =>
              intro j hi hk9 sL_15 H locs ls hM hf hP hD hS hl
              refine lv_iload_n hx hb dX5_bars_53 rfl (lv_at hl 0 rfl) ?_
              refine lv_aload_n hx hb dX5_bars_54 rfl (lv_at hl 1 rfl) ?_
              refine rg (v := .int (nI kx)) (T := TX5) (N := 14) (C := RX5) hx hb hts hinX5 hown hK hP hM rfl 10 (by decide) (hts (.fieldLink RX5 127 "NeedleGridModel" "tolds" "I") (by decide +kernel)) rfl dX5_bars_55 ?_
              refine lv_icmp_ge (tgt := 102) hx hb dX5_bars_58 (by decide) (fun c58_15 => ?_) (fun c58_15 => ?_)
              · have h36 : kx ≤ j := (nI_leI (by have := htx.1; omega) (by have := htx.1; omega)).mp c58_15
                obtain rfl : kx = j := by omega
                refine lv_aload_n hx hb dX5_bars_102 rfl (lv_at hl 1 rfl) ?_
                refine rg (v := .ref (ad (b + 1 + 0))) (T := TX5) (N := 14) (C := RX5) hx hb hts hinX5 hown hK hP hM rfl 0 (by decide) (hts (.fieldLink RX5 7 "NeedleGridModel" "now" "[I") (by decide +kernel)) rfl dX5_bars_103 ?_
                refine nS_i (As := [.ref (ad (b + 1 + 0))]) (rest := _) hx hb hml hown hts hP hK hD hZ hA hS ⟨Nat.zero_le _, Nat.zero_le _⟩ (m_lying l E ad sL_15 b (gu (gu (gu (gu (gu (gu (mG N (svP P kp N) (svA kp) C n 0 J) 7 (fun _ => nI n)) 8 (fun _ => f9)) 9 T9) 10 (fun _ => nI kx)) 5 (fun _ => 0)) 0 (layK T9 kx (clrN N 36))) hM ) (va_cwS 1 hts gX5_bars_X5_lying rfl rfl rfl (by decide +kernel) ⟨Nat.le_of_ble_eq_true rfl, Nat.le_of_ble_eq_true rfl⟩) hl.1 rfl (Nat.le_of_ble_eq_true rfl) dX5_bars_106 (fun r_17 s_19 H locs hq hP hD hS => ?_)
                obtain ⟨hrr_17, rfl⟩ := hq
                have hrr_17 : r_17 = nI (cnI (barP (layK T9 kx (clrN N 36))) 36) := hrr_17
                have hB9 : layK T9 kx (clrN N 36) = brsN r00 N C n := by rw [clrN_36]; exact (htx.2.2 (takN N)).symm
                exact hret _ _ _ _ _ _ hP hD hS (⟨by rw [hrr_17, hB9], by rw [← hB9, clrN_36]; exact brs_ok hO htx.1 htx.2.1, ⟨(gu (gu (gu (gu J 7 (fun _ => nI n)) 8 (fun _ => f9)) 9 T9) 10 (fun _ => nI kx)), hM.eq (all14 hB9 rfl rfl rfl rfl rfl rfl rfl rfl rfl rfl rfl rfl rfl)⟩, hf⟩) dX5_bars_109
              · have hlt : j < kx := by have := htx.1; have := mt (nI_leI (a := kx) (b := j) (by omega) (by omega)).mpr c58_15; omega
                have hk96 := htx.1
                obtain ⟨c9, d9, t9, hc9, hd9, _, _, e1, e2, e3⟩ := htx.2.1 j hlt
                refine lv_aload_n hx hb dX5_bars_61 rfl (lv_at hl 1 rfl) ?_
                refine rg (v := .ref (ad (b + 1 + 0))) (T := TX5) (N := 14) (C := RX5) hx hb hts hinX5 hown hK hP hM rfl 0 (by decide) (hts (.fieldLink RX5 7 "NeedleGridModel" "now" "[I") (by decide +kernel)) rfl dX5_bars_62 ?_
                refine lv_aload_n hx hb dX5_bars_65 rfl (lv_at hl 1 rfl) ?_
                refine rg (v := .ref (ad (b + 1 + 9))) (T := TX5) (N := 14) (C := RX5) hx hb hts hinX5 hown hK hP hM rfl 9 (by decide) (hts (.fieldLink RX5 22 "NeedleGridModel" "told" "[I") (by decide +kernel)) rfl dX5_bars_66 ?_
                refine lv_iconst (v := 3) hx hb dX5_bars_69 (by decide) ?_
                refine lv_iload_n hx hb dX5_bars_70 rfl (lv_at hl 0 rfl) ?_
                refine lv_imul hx hb dX5_bars_71 ?_
                rw [show 3 * nI j = nI (3 * j) from pk_mul 3 j]
                refine ra (j := (3 * j)) (n := 18) hx hb hK hP hM 9 rfl (by omega) (by decide) dX5_bars_72 ?_
                refine lv_aload_n hx hb dX5_bars_73 rfl (lv_at hl 1 rfl) ?_
                refine rg (v := .ref (ad (b + 1 + 9))) (T := TX5) (N := 14) (C := RX5) hx hb hts hinX5 hown hK hP hM rfl 9 (by decide) (hts (.fieldLink RX5 22 "NeedleGridModel" "told" "[I") (by decide +kernel)) rfl dX5_bars_74 ?_
                refine lv_iconst (v := 3) hx hb dX5_bars_77 (by decide) ?_
                refine lv_iload_n hx hb dX5_bars_78 rfl (lv_at hl 0 rfl) ?_
                refine lv_imul hx hb dX5_bars_79 ?_
                rw [show 3 * nI j = nI (3 * j) from pk_mul 3 j]
                refine lv_iconst (v := 1) hx hb dX5_bars_80 (by decide) ?_
                refine lv_iadd hx hb dX5_bars_81 ?_
                rw [nI_1]
                refine ra (j := ((3 * j) + 1)) (n := 18) hx hb hK hP hM 9 rfl (by omega) (by decide) dX5_bars_82 ?_
                refine lv_aload_n hx hb dX5_bars_83 rfl (lv_at hl 1 rfl) ?_
                refine rg (v := .ref (ad (b + 1 + 9))) (T := TX5) (N := 14) (C := RX5) hx hb hts hinX5 hown hK hP hM rfl 9 (by decide) (hts (.fieldLink RX5 22 "NeedleGridModel" "told" "[I") (by decide +kernel)) rfl dX5_bars_84 ?_
                refine lv_iconst (v := 3) hx hb dX5_bars_87 (by decide) ?_
                refine lv_iload_n hx hb dX5_bars_88 rfl (lv_at hl 0 rfl) ?_
                refine lv_imul hx hb dX5_bars_89 ?_
                rw [show 3 * nI j = nI (3 * j) from pk_mul 3 j]
                refine lv_iconst (v := 2) hx hb dX5_bars_90 (by decide) ?_
                refine lv_iadd hx hb dX5_bars_91 ?_
                rw [show nI (3 * j) + 2 = nI ((3 * j) + 2) from nI_add (3 * j) 2]
                refine ra (j := ((3 * j) + 2)) (n := 18) hx hb hK hP hM 9 rfl (by omega) (by decide) dX5_bars_92 ?_
                rw [show (gu (gu (gu (gu (gu (gu (mG N (svP P kp N) (svA kp) C n 0 J) 7 (fun _ => nI n)) 8 (fun _ => f9)) 9 T9) 10 (fun _ => nI kx)) 5 (fun _ => 0)) 0 (layK T9 j (clrN N 36))) 9 (3 * j) = nI c9 from e1, show (gu (gu (gu (gu (gu (gu (mG N (svP P kp N) (svA kp) C n 0 J) 7 (fun _ => nI n)) 8 (fun _ => f9)) 9 T9) 10 (fun _ => nI kx)) 5 (fun _ => 0)) 0 (layK T9 j (clrN N 36))) 9 (3 * j + 1) = nI d9 from e2, show (gu (gu (gu (gu (gu (gu (mG N (svP P kp N) (svA kp) C n 0 J) 7 (fun _ => nI n)) 8 (fun _ => f9)) 9 T9) 10 (fun _ => nI kx)) 5 (fun _ => 0)) 0 (layK T9 j (clrN N 36))) 9 (3 * j + 2) = nI t9 from e3]
                refine nS_v (As := [.ref (ad (b + 1 + 0)), .int (nI c9), .int (nI d9), .int (nI t9)]) (rest := _) hx hb hml hown hts hP hK hD hZ hA hS ⟨Nat.zero_le _, Nat.zero_le _⟩ (m_laysBar0 l E ad sL_15 b (gu (gu (gu (gu (gu (gu (mG N (svP P kp N) (svA kp) C n 0 J) 7 (fun _ => nI n)) 8 (fun _ => f9)) 9 T9) 10 (fun _ => nI kx)) 5 (fun _ => 0)) 0 (layK T9 j (clrN N 36))) hM c9 (by omega) (nI d9) (nI t9)) (va_cwS 4 hts gX5_bars_X5_laysBar rfl rfl rfl (by decide +kernel) ⟨Nat.le_of_ble_eq_true rfl, Nat.le_of_ble_eq_true rfl⟩) hl.1 rfl (Nat.le_of_ble_eq_true rfl) dX5_bars_93 (fun s_21 H locs hq hP hD hS => ?_)
                obtain ⟨hM, hf_20⟩ := hq
                have hf := hf.tr hf_20
                have hM : isR E ad s_21 b sM (gu (gu (gu (gu (gu (gu (mG N (svP P kp N) (svA kp) C n 0 J) 7 (fun _ => nI n)) 8 (fun _ => f9)) 9 T9) 10 (fun _ => nI kx)) 5 (fun _ => 0)) 0 (barN (layK T9 j (clrN N 36)) c9 (nI d9) (nI t9))) := hM.eq (all14 rfl rfl rfl rfl rfl rfl rfl rfl rfl rfl rfl rfl rfl rfl)
                refine lv_iinc (v := nI (j + 1)) (lv' := [(1, .int (nI (j + 1))), (0, .ref (ad b))]) hx hb dX5_bars_96 hl (k := 0) rfl (nI_1 _) (by decide) rfl (fun ls hl => ?_)
                refine lv_goto (tgt := 53) hx hb dX5_bars_99 (by decide) ?_
                exact ih53 (j + 1) (by omega) (by omega) _ _ _ _ (hM.eq (all14 (layK_s hc9 e1 e2 e3).symm rfl rfl rfl rfl rfl rfl rfl rfl rfl rfl rfl rfl rfl)) hf hP hD hS (lv_sub hl [0, 1] rfl)
          exact LP_14 (kx + 1) 0 (Nat.zero_le _) (by omega) _ _ _ _ (hM.eq (all14 rfl rfl rfl rfl rfl rfl rfl rfl rfl rfl rfl rfl rfl rfl)) hf hP hD hS (lv_sub hl [0, 1] rfl)
        · have hlt : i < 36 := by have := mt (nI_geL (n := 36) (i := i) rfl (by decide) (by omega)).mpr c32_12; omega
          refine lv_aload_n hx hb dX5_bars_35 rfl (lv_at hl 1 rfl) ?_
          refine rg (v := .ref (ad (b + 1 + 0))) (T := TX5) (N := 14) (C := RX5) hx hb hts hinX5 hown hK hP hM rfl 0 (by decide) (hts (.fieldLink RX5 7 "NeedleGridModel" "now" "[I") (by decide +kernel)) rfl dX5_bars_36 ?_
          refine lv_iload_n hx hb dX5_bars_39 rfl (lv_at hl 0 rfl) ?_
          refine lv_iconst (v := 0) hx hb dX5_bars_40 (by decide) ?_
          refine lv_iconst (v := 0) hx hb dX5_bars_41 (by decide) ?_
          refine nS_v (As := [.ref (ad (b + 1 + 0)), .int (nI i), .int 0, .int 0]) (rest := _) hx hb hml hown hts hP hK hD hZ hA hS ⟨Nat.zero_le _, Nat.zero_le _⟩ (m_laysBar0 l E ad sL_12 b (gu (gu (gu (gu (gu (gu (mG N (svP P kp N) (svA kp) C n 0 J) 7 (fun _ => nI n)) 8 (fun _ => f9)) 9 T9) 10 (fun _ => nI kx)) 5 (fun _ => 0)) 0 (clrN N i)) hM i (by omega) 0 0) (va_cwS 4 hts gX5_bars_X5_laysBar rfl rfl rfl (by decide +kernel) ⟨Nat.le_of_ble_eq_true rfl, Nat.le_of_ble_eq_true rfl⟩) hl.1 rfl (Nat.le_of_ble_eq_true rfl) dX5_bars_42 (fun s_24 H locs hq hP hD hS => ?_)
          obtain ⟨hM, hf_23⟩ := hq
          have hf := hf.tr hf_23
          have hM : isR E ad s_24 b sM (gu (gu (gu (gu (gu (gu (mG N (svP P kp N) (svA kp) C n 0 J) 7 (fun _ => nI n)) 8 (fun _ => f9)) 9 T9) 10 (fun _ => nI kx)) 5 (fun _ => 0)) 0 (barN (clrN N i) i 0 0)) := hM.eq (all14 rfl rfl rfl rfl rfl rfl rfl rfl rfl rfl rfl rfl rfl rfl)
          refine lv_iinc (v := nI (i + 1)) (lv' := [(1, .int (nI (i + 1))), (0, .ref (ad b))]) hx hb dX5_bars_45 hl (k := 0) rfl (nI_1 _) (by decide) rfl (fun ls hl => ?_)
          refine lv_goto (tgt := 29) hx hb dX5_bars_48 (by decide) ?_
          exact ih29 (i + 1) (by omega) (by omega) _ _ _ _ (hM.eq (all14 rfl rfl rfl rfl rfl rfl rfl rfl rfl rfl rfl rfl rfl rfl)) hf hP hD hS (lv_sub hl [0, 1] rfl)
    exact LP_11 (36 + 1) 0 (Nat.zero_le _) (by omega) _ _ _ _ (hM.eq (all14 rfl rfl rfl rfl rfl rfl rfl rfl rfl rfl rfl rfl rfl rfl)) hf hP hD hS (lv_sub hl [0, 1] rfl)

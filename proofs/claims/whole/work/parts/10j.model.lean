set_option maxHeartbeats 4000000 in
set_option maxRecDepth 100000 in
theorem m_rests (l : Launch) (E : NE) (ad : Nat → Nat) (st : NW) (b : Nat) (N P : Nat → Int32) (kp : Nat) (C : Nat → Int32) (n : Nat) (th : Int32) (J : Nat → Nat → Int32) (hkp : kp ≤ 6) (hn : n ≤ 60) (hO : okN N) (hM : isR E ad st b sM (mG N P kp C n th J))  : nMi l yX5_rests wsX5_rests (nRm 8 189) E ad st [.ref (ad b)] (fun r s1 => r = fnd1 (rstP N) 101 0 ∧ (∃ J1, isR E ad s1 b sM (mG N P kp C n th J1)) ∧ fr b st s1) := by
  refine nSi (cc := cX5_rests) (maxL := 2) (by decide) rfl (Nat.le_of_ble_eq_true rfl) ?_
  intro pg en s mi ar bw mth cd R Q A ls hx hb hml hown hts hRm hP hK hD hZ hA hl hret
  subst hRm
  have hown : s.vm.findClass RX5 = some mi.cls := hown
  have hS : va_S A s.heap s.heap [] := va_S.rf
  have hl : lv_has ls 2 [(0, .ref (ad b))] := hl
  have hf : fr b st st := fr.rf
  have hdB := hO.1.b
  have hinX5 : ∀ w ∈ wsX50, w ∈ wsX5_rests := by decide +kernel
  refine lv_aload_n hx hb dX5_rests_0 rfl (lv_at hl 0 rfl) ?_
  refine rg (v := .ref (ad (b + 1 + 0))) (T := TX5) (N := 14) (C := RX5) hx hb hts hinX5 hown hK hP hM rfl 0 (by decide) (hts (.fieldLink RX5 7 "NeedleGridModel" "now" "[I") (by decide +kernel)) rfl dX5_rests_1 ?_
  refine lv_iconst (v := 0) hx hb dX5_rests_4 (by decide) ?_
  refine lv_aload_n hx hb dX5_rests_5 rfl (lv_at hl 0 rfl) ?_
  refine rg (v := .ref (ad (b + 1 + 1))) (T := TX5) (N := 14) (C := RX5) hx hb hts hinX5 hown hK hP hM rfl 1 (by decide) (hts (.fieldLink RX5 13 "NeedleGridModel" "then" "[I") (by decide +kernel)) rfl dX5_rests_6 ?_
  refine lv_iconst (v := 0) hx hb dX5_rests_9 (by decide) ?_
  refine nS_v (As := [.ref (ad (b + 1 + 0)), .int 0, .ref (ad (b + 1 + 1)), .int 0]) (rest := _) hx hb hml hown hts hP hK hD hZ hA hS ⟨Nat.zero_le _, Nat.zero_le _⟩ (m_copies01 l E ad st b (mG N P kp C n th J) hM 0 0 (by omega) (by omega)) (va_cwS 4 hts gX5_rests_X5_copies rfl rfl rfl (by decide +kernel) ⟨Nat.le_of_ble_eq_true rfl, Nat.le_of_ble_eq_true rfl⟩) hl.1 rfl (Nat.le_of_ble_eq_true rfl) dX5_rests_10 (fun s_3 H locs hq hP hD hS => ?_)
  obtain ⟨hM, hf_2⟩ := hq
  have hf := hf.tr hf_2
  obtain ⟨s9, hM, hf9, hP, hD⟩ := hM.can hP hD 1 (n := 186) (z := 0) rfl (by decide) (by decide) (g := N) (fun j hj => (cpI_in (by omega) (by omega)).trans (congrArg N (by omega)))
  have hf := hf.tr hf9
  have hM : isR E ad s9 b sM (gu (mG N P kp C n th J) 1 N) := hM.eq (all14 rfl rfl rfl rfl rfl rfl rfl rfl rfl rfl rfl rfl rfl rfl)
  refine lv_iconst (v := 0) hx hb dX5_rests_13 (by decide) ?_
  refine lv_istore_n (lv' := [(1, .int 0), (0, .ref (ad b))]) hx hb dX5_rests_14 rfl hl (by decide) rfl (fun ls hl => ?_)
  have LP_4 : ∀ (k9 i : Nat), i ≤ 101 → 101 - i < k9 → ∀ (sL_5 : NW) (H : Heap) (locs : List Loc) (ls : Array Slot) (za : Nat → Int32) (zb : Nat → Int32) (zc : Nat → Int32), isR E ad sL_5 b sM (gu (gu (gu (gu (mG N P kp C n th J) 1 (itN N i)) 11 za) 12 zb) 13 zc) → fr b st sL_5 → fnd1 (rstP N) 101 0 = fnd1 (rstP N) (101 - i) i → nP E ad sL_5 H → nD A ad sL_5 → va_S A s.heap H locs → lv_has ls 2 [(1, .int (nI i)), (0, .ref (ad b))] → W pg l en (nRm 8 189) s mi ar bw mth cd H locs 0 0 Q (F0 mi 15 ls []) := by
    intro k9
    induction k9 with
    | zero => intro i _ h9; exact absurd h9 (Nat.not_lt_zero _)
    | succ k9 ih15 =>
      intro i hi hk9 sL_5 H locs ls za zb zc hM hf hfn hP hD hS hl
      refine lv_iload_n hx hb dX5_rests_15 rfl (lv_at hl 0 rfl) ?_
      refine lv_bipush (v := 100) hx hb dX5_rests_16 (by decide) ?_
      refine lv_icmp_gt (tgt := 40) hx hb dX5_rests_18 (by decide) (fun c18_5 => ?_) (fun c18_5 => ?_)
      · have h36 : 101 ≤ i := by have := (nI_ltR (n := 100) (i := i) rfl (by decide) (by omega)).mp c18_5; omega
        obtain rfl : i = 101 := by omega
        refine lv_iconst (v := -1) hx hb dX5_rests_40 (by decide) ?_
        exact hret _ _ _ _ _ _ hP hD hS (⟨(by rw [hfn]; rfl), ⟨(gu (gu (gu (gu J 1 (itN N 101)) 11 za) 12 zb) 13 zc), hM.eq (all14 rfl rfl rfl rfl rfl rfl rfl rfl rfl rfl rfl rfl rfl rfl)⟩, hf⟩) dX5_rests_41
      · have hlt : i < 101 := by have := mt (nI_ltR (n := 100) (i := i) rfl (by decide) (by omega)).mpr c18_5; omega
        refine lv_aload_n hx hb dX5_rests_21 rfl (lv_at hl 1 rfl) ?_
        refine lv_aload_n hx hb dX5_rests_22 rfl (lv_at hl 1 rfl) ?_
        refine rg (v := .ref (ad (b + 1 + 1))) (T := TX5) (N := 14) (C := RX5) hx hb hts hinX5 hown hK hP hM rfl 1 (by decide) (hts (.fieldLink RX5 13 "NeedleGridModel" "then" "[I") (by decide +kernel)) rfl dX5_rests_23 ?_
        refine nVi (As := [.ref (ad (b + 1 + 1))]) (rest := _) hx hb hml hown hts hP hK hD hZ hA hS ⟨Nat.zero_le _, Nat.zero_le _⟩ hM.1 rfl (m_allTurn1 l E ad sL_5 b (gu (gu (gu (gu (mG N P kp C n th J) 1 (itN N i)) 11 za) 12 zb) 13 zc) hM (hO.it i).1.b) (cwV 1 hts gX5_rests_X5_allTurn rfl rfl rfl (by decide +kernel) ⟨Nat.le_of_ble_eq_true rfl, Nat.le_of_ble_eq_true rfl⟩) hl.1 rfl (Nat.le_of_ble_eq_true rfl) dX5_rests_26 (fun r_7 s_12 H locs hq hP hD hS => ?_)
        obtain ⟨hrr_7, ⟨z_9, z_10, z_11, hM⟩, hf_8⟩ := hq
        have hrr_7 : r_7 = nI (cnI (mTP (itN N i)) 36) := hrr_7
        have hf := hf.tr hf_8
        have hM : isR E ad s_12 b sM (gu (gu (gu (gu (mG N P kp C n th J) 1 (itN N (i + 1))) 11 z_9) 12 z_10) 13 z_11) := hM.eq (all14 rfl (mStp_g (hO.it i)) rfl rfl rfl rfl rfl rfl rfl rfl rfl rfl rfl rfl)
        refine lv_if_ne (tgt := 34) hx hb dX5_rests_29 (by decide) (fun c29_12 => ?_) (fun c29_12 => ?_)
        · have hPi : (rstP N) i = false := rstm_f hO hrr_7 c29_12
          refine lv_iinc (v := nI (i + 1)) (lv' := [(1, .int (nI (i + 1))), (0, .ref (ad b))]) hx hb dX5_rests_34 hl (k := 0) rfl (nI_1 _) (by decide) rfl (fun ls hl => ?_)
          refine lv_goto (tgt := 15) hx hb dX5_rests_37 (by decide) ?_
          exact ih15 (i + 1) (by omega) (by omega) _ _ _ _ z_9 z_10 z_11 (hM.eq (all14 rfl rfl rfl rfl rfl rfl rfl rfl rfl rfl rfl rfl rfl rfl)) hf (by rw [hfn, fnd1_no (by omega) hPi, show 101 - i - 1 = 101 - (i + 1) by omega]) hP hD hS (lv_sub hl [0, 1] rfl)
        · have hPi : (rstP N) i = true := rstm_t hO hrr_7 c29_12
          refine lv_iload_n hx hb dX5_rests_32 rfl (lv_at hl 0 rfl) ?_
          exact hret _ _ _ _ _ _ hP hD hS (⟨(by rw [hfn, fnd1_yes (by omega) hPi]), ⟨(gu (gu (gu (gu J 1 (itN N (i + 1))) 11 z_9) 12 z_10) 13 z_11), hM.eq (all14 rfl rfl rfl rfl rfl rfl rfl rfl rfl rfl rfl rfl rfl rfl)⟩, hf⟩) dX5_rests_33
  exact LP_4 (101 + 1) 0 (Nat.zero_le _) (by omega) _ _ _ _ (J 11) (J 12) (J 13) (hM.eq (all14 rfl rfl rfl rfl rfl rfl rfl rfl rfl rfl rfl rfl rfl rfl)) hf rfl hP hD hS (lv_sub hl [0, 1] rfl)

set_option maxHeartbeats 4000000 in
set_option maxRecDepth 100000 in
theorem m_pointed (l : Launch) (E : NE) (ad : Nat → Nat) (st : NW) (b : Nat) (N P : Nat → Int32) (kp : Nat) (C : Nat → Int32) (n : Nat) (th : Int32) (J : Nat → Nat → Int32) (hkp : kp ≤ 6) (hn : n ≤ 60) (hO : okN N) (hM : isR E ad st b sM (mG N P kp C n th J)) (c k : Nat) (hc : c < 36) (hk : k ≤ 100) : nMi l yX5_pointed wsX5_pointed (nRm 8 189) E ad st [.ref (ad b), .int (nI c), .int (nI k)] (fun r s1 => r = itN N k (6 + c) ∧ (∃ J1, isR E ad s1 b sM (mG N P kp C n th J1)) ∧ fr b st s1) := by
  refine nSi (cc := cX5_pointed) (maxL := 4) (by decide) rfl (Nat.le_of_ble_eq_true rfl) ?_
  intro pg en s mi ar bw mth cd R Q A ls hx hb hml hown hts hRm hP hK hD hZ hA hl hret
  subst hRm
  have hown : s.vm.findClass RX5 = some mi.cls := hown
  have hS : va_S A s.heap s.heap [] := va_S.rf
  have hl : lv_has ls 4 [(0, .ref (ad b)), (1, .int (nI c)), (2, .int (nI k))] := hl
  have hf : fr b st st := fr.rf
  have hdB := hO.1.b
  have hinX5 : ∀ w ∈ wsX50, w ∈ wsX5_pointed := by decide +kernel
  refine lv_aload_n hx hb dX5_pointed_0 rfl (lv_at hl 0 rfl) ?_
  refine rg (v := .ref (ad (b + 1 + 0))) (T := TX5) (N := 14) (C := RX5) hx hb hts hinX5 hown hK hP hM rfl 0 (by decide) (hts (.fieldLink RX5 7 "NeedleGridModel" "now" "[I") (by decide +kernel)) rfl dX5_pointed_1 ?_
  refine lv_iconst (v := 0) hx hb dX5_pointed_4 (by decide) ?_
  refine lv_aload_n hx hb dX5_pointed_5 rfl (lv_at hl 0 rfl) ?_
  refine rg (v := .ref (ad (b + 1 + 1))) (T := TX5) (N := 14) (C := RX5) hx hb hts hinX5 hown hK hP hM rfl 1 (by decide) (hts (.fieldLink RX5 13 "NeedleGridModel" "then" "[I") (by decide +kernel)) rfl dX5_pointed_6 ?_
  refine lv_iconst (v := 0) hx hb dX5_pointed_9 (by decide) ?_
  refine nS_v (As := [.ref (ad (b + 1 + 0)), .int 0, .ref (ad (b + 1 + 1)), .int 0]) (rest := _) hx hb hml hown hts hP hK hD hZ hA hS ⟨Nat.zero_le _, Nat.zero_le _⟩ (m_copies01 l E ad st b (mG N P kp C n th J) hM 0 0 (by omega) (by omega)) (va_cwS 4 hts gX5_pointed_X5_copies rfl rfl rfl (by decide +kernel) ⟨Nat.le_of_ble_eq_true rfl, Nat.le_of_ble_eq_true rfl⟩) hl.1 rfl (Nat.le_of_ble_eq_true rfl) dX5_pointed_10 (fun s_3 H locs hq hP hD hS => ?_)
  obtain ⟨hM, hf_2⟩ := hq
  have hf := hf.tr hf_2
  obtain ⟨s9, hM, hf9, hP, hD⟩ := hM.can hP hD 1 (n := 186) (z := 0) rfl (by decide) (by decide) (g := N) (fun j hj => (cpI_in (by omega) (by omega)).trans (congrArg N (by omega)))
  have hf := hf.tr hf9
  have hM : isR E ad s9 b sM (gu (mG N P kp C n th J) 1 N) := hM.eq (all14 rfl rfl rfl rfl rfl rfl rfl rfl rfl rfl rfl rfl rfl rfl)
  refine lv_iconst (v := 0) hx hb dX5_pointed_13 (by decide) ?_
  refine lv_istore_n (lv' := [(3, .int 0), (0, .ref (ad b)), (1, .int (nI c)), (2, .int (nI k))]) hx hb dX5_pointed_14 rfl hl (by decide) rfl (fun ls hl => ?_)
  have LP_4 : ∀ (k9 i : Nat), i ≤ k → k - i < k9 → ∀ (sL_5 : NW) (H : Heap) (locs : List Loc) (ls : Array Slot) (za : Nat → Int32) (zb : Nat → Int32) (zc : Nat → Int32), isR E ad sL_5 b sM (gu (gu (gu (gu (mG N P kp C n th J) 1 (itN N i)) 11 za) 12 zb) 13 zc) → fr b st sL_5 → nP E ad sL_5 H → nD A ad sL_5 → va_S A s.heap H locs → lv_has ls 4 [(3, .int (nI i)), (0, .ref (ad b)), (1, .int (nI c)), (2, .int (nI k))] → W pg l en (nRm 8 189) s mi ar bw mth cd H locs 0 0 Q (F0 mi 15 ls []) := by
    intro k9
    induction k9 with
    | zero => intro i _ h9; exact absurd h9 (Nat.not_lt_zero _)
    | succ k9 ih15 =>
      intro i hi hk9 sL_5 H locs ls za zb zc hM hf hP hD hS hl
      refine lv_iload_n hx hb dX5_pointed_15 rfl (lv_at hl 0 rfl) ?_
      refine lv_iload_n hx hb dX5_pointed_16 rfl (lv_at hl 3 rfl) ?_
      refine lv_icmp_ge (tgt := 35) hx hb dX5_pointed_17 (by decide) (fun c17_5 => ?_) (fun c17_5 => ?_)
      · have h36 : k ≤ i := (nI_leI (by omega) (by omega)).mp c17_5
        obtain rfl : k = i := by omega
        refine lv_aload_n hx hb dX5_pointed_35 rfl (lv_at hl 1 rfl) ?_
        refine rg (v := .ref (ad (b + 1 + 1))) (T := TX5) (N := 14) (C := RX5) hx hb hts hinX5 hown hK hP hM rfl 1 (by decide) (hts (.fieldLink RX5 13 "NeedleGridModel" "then" "[I") (by decide +kernel)) rfl dX5_pointed_36 ?_
        refine lv_bipush (v := 6) hx hb dX5_pointed_39 (by decide) ?_
        refine lv_iload_n hx hb dX5_pointed_41 rfl (lv_at hl 2 rfl) ?_
        refine lv_iadd hx hb dX5_pointed_42 ?_
        rw [show 6 + nI c = nI (6 + c) from nI_add 6 c]
        refine ra (j := (6 + c)) (n := 186) hx hb hK hP hM 1 rfl (by omega) (by decide) dX5_pointed_43 ?_
        exact hret _ _ _ _ _ _ hP hD hS (⟨rfl, ⟨(gu (gu (gu (gu J 1 (itN N k)) 11 za) 12 zb) 13 zc), hM.eq (all14 rfl rfl rfl rfl rfl rfl rfl rfl rfl rfl rfl rfl rfl rfl)⟩, hf⟩) dX5_pointed_44
      · have hlt : i < k := by have := mt (nI_leI (a := k) (b := i) (by omega) (by omega)).mpr c17_5; omega
        refine lv_aload_n hx hb dX5_pointed_20 rfl (lv_at hl 1 rfl) ?_
        refine lv_aload_n hx hb dX5_pointed_21 rfl (lv_at hl 1 rfl) ?_
        refine rg (v := .ref (ad (b + 1 + 1))) (T := TX5) (N := 14) (C := RX5) hx hb hts hinX5 hown hK hP hM rfl 1 (by decide) (hts (.fieldLink RX5 13 "NeedleGridModel" "then" "[I") (by decide +kernel)) rfl dX5_pointed_22 ?_
        refine nVi (As := [.ref (ad (b + 1 + 1))]) (rest := _) hx hb hml hown hts hP hK hD hZ hA hS ⟨Nat.zero_le _, Nat.zero_le _⟩ hM.1 rfl (m_allTurn1 l E ad sL_5 b (gu (gu (gu (gu (mG N P kp C n th J) 1 (itN N i)) 11 za) 12 zb) 13 zc) hM (hO.it i).1.b) (cwV 1 hts gX5_pointed_X5_allTurn rfl rfl rfl (by decide +kernel) ⟨Nat.le_of_ble_eq_true rfl, Nat.le_of_ble_eq_true rfl⟩) hl.1 rfl (Nat.le_of_ble_eq_true rfl) dX5_pointed_25 (fun r_7 s_12 H locs hq hP hD hS => ?_)
        obtain ⟨hrr_7, ⟨z_9, z_10, z_11, hM⟩, hf_8⟩ := hq
        have hrr_7 : r_7 = nI (cnI (mTP (itN N i)) 36) := hrr_7
        have hf := hf.tr hf_8
        have hM : isR E ad s_12 b sM (gu (gu (gu (gu (mG N P kp C n th J) 1 (itN N (i + 1))) 11 z_9) 12 z_10) 13 z_11) := hM.eq (all14 rfl (mStp_g (hO.it i)) rfl rfl rfl rfl rfl rfl rfl rfl rfl rfl rfl rfl)
        refine lv_pop hx hb dX5_pointed_28 rfl ?_
        refine lv_iinc (v := nI (i + 1)) (lv' := [(3, .int (nI (i + 1))), (0, .ref (ad b)), (1, .int (nI c)), (2, .int (nI k))]) hx hb dX5_pointed_29 hl (k := 0) rfl (nI_1 _) (by decide) rfl (fun ls hl => ?_)
        refine lv_goto (tgt := 15) hx hb dX5_pointed_32 (by decide) ?_
        exact ih15 (i + 1) (by omega) (by omega) _ _ _ _ z_9 z_10 z_11 (hM.eq (all14 rfl rfl rfl rfl rfl rfl rfl rfl rfl rfl rfl rfl rfl rfl)) hf hP hD hS (lv_sub hl [0, 1, 2, 3] rfl)
  exact LP_4 (k + 1) 0 (Nat.zero_le _) (by omega) _ _ _ _ (J 11) (J 12) (J 13) (hM.eq (all14 rfl rfl rfl rfl rfl rfl rfl rfl rfl rfl rfl rfl rfl rfl)) hf hP hD hS (lv_sub hl [0, 1, 2, 3] rfl)

set_option maxHeartbeats 4000000 in
set_option maxRecDepth 100000 in
theorem m_byBar (l : Launch) (E : NE) (ad : Nat → Nat) (st : NW) (b : Nat) (N P : Nat → Int32) (kp : Nat) (C : Nat → Int32) (n : Nat) (th : Int32) (J : Nat → Nat → Int32) (hkp : kp ≤ 6) (hn : n ≤ 60) (hO : okN N) (hM : isR E ad st b sM (mG N P kp C n th J)) (c d : Nat) (t : Int32) (hc : c < 36) (hd : d < 8) (ht : ¬ t ≤ 0) : nMi l yX5_byBar wsX5_byBar (nRm 6 142) E ad st [.ref (ad b), .int (nI c), .int (nI d), .int t] (fun r s1 => r = nI (cnI (ifbG (gN N) c (nI d) t) 36) ∧ (∃ J1, isR E ad s1 b sM (mG N P kp C n th J1)) ∧ fr b st s1) := by
  refine nSi (cc := cX5_byBar) (maxL := 6) (by decide) rfl (Nat.le_of_ble_eq_true rfl) ?_
  intro pg en s mi ar bw mth cd R Q A ls hx hb hml hown hts hRm hP hK hD hZ hA hl hret
  subst hRm
  have hown : s.vm.findClass RX5 = some mi.cls := hown
  have hS : va_S A s.heap s.heap [] := va_S.rf
  have hl : lv_has ls 6 [(0, .ref (ad b)), (1, .int (nI c)), (2, .int (nI d)), (3, .int t)] := hl
  have hf : fr b st st := fr.rf
  have hdB := hO.1.b
  have hinX5 : ∀ w ∈ wsX50, w ∈ wsX5_byBar := by decide +kernel
  refine lv_aload_n hx hb dX5_byBar_0 rfl (lv_at hl 0 rfl) ?_
  refine rg (v := .ref (ad (b + 1 + 0))) (T := TX5) (N := 14) (C := RX5) hx hb hts hinX5 hown hK hP hM rfl 0 (by decide) (hts (.fieldLink RX5 7 "NeedleGridModel" "now" "[I") (by decide +kernel)) rfl dX5_byBar_1 ?_
  refine lv_iconst (v := 0) hx hb dX5_byBar_4 (by decide) ?_
  refine lv_aload_n hx hb dX5_byBar_5 rfl (lv_at hl 0 rfl) ?_
  refine rg (v := .ref (ad (b + 1 + 1))) (T := TX5) (N := 14) (C := RX5) hx hb hts hinX5 hown hK hP hM rfl 1 (by decide) (hts (.fieldLink RX5 13 "NeedleGridModel" "then" "[I") (by decide +kernel)) rfl dX5_byBar_6 ?_
  refine lv_iconst (v := 0) hx hb dX5_byBar_9 (by decide) ?_
  refine nS_v (As := [.ref (ad (b + 1 + 0)), .int 0, .ref (ad (b + 1 + 1)), .int 0]) (rest := _) hx hb hml hown hts hP hK hD hZ hA hS ⟨Nat.zero_le _, Nat.zero_le _⟩ (m_copies01 l E ad st b (mG N P kp C n th J) hM 0 0 (by omega) (by omega)) (va_cwS 4 hts gX5_byBar_X5_copies rfl rfl rfl (by decide +kernel) ⟨Nat.le_of_ble_eq_true rfl, Nat.le_of_ble_eq_true rfl⟩) hl.1 rfl (Nat.le_of_ble_eq_true rfl) dX5_byBar_10 (fun s_3 H locs hq hP hD hS => ?_)
  obtain ⟨hM, hf_2⟩ := hq
  have hf := hf.tr hf_2
  obtain ⟨s9, hM, hf9, hP, hD⟩ := hM.can hP hD 1 (n := 186) (z := 0) rfl (by decide) (by decide) (g := N) (fun j hj => (cpI_in (by omega) (by omega)).trans (congrArg N (by omega)))
  have hf := hf.tr hf9
  have hM : isR E ad s9 b sM (gu (mG N P kp C n th J) 1 N) := hM.eq (all14 rfl rfl rfl rfl rfl rfl rfl rfl rfl rfl rfl rfl rfl rfl)
  refine lv_aload_n hx hb dX5_byBar_13 rfl (lv_at hl 0 rfl) ?_
  refine rg (v := .ref (ad (b + 1 + 1))) (T := TX5) (N := 14) (C := RX5) hx hb hts hinX5 hown hK hP hM rfl 1 (by decide) (hts (.fieldLink RX5 13 "NeedleGridModel" "then" "[I") (by decide +kernel)) rfl dX5_byBar_14 ?_
  refine lv_iload_n hx hb dX5_byBar_17 rfl (lv_at hl 1 rfl) ?_
  refine lv_iload_n hx hb dX5_byBar_18 rfl (lv_at hl 2 rfl) ?_
  refine lv_iload_n hx hb dX5_byBar_19 rfl (lv_at hl 3 rfl) ?_
  refine nS_v (As := [.ref (ad (b + 1 + 1)), .int (nI c), .int (nI d), .int t]) (rest := _) hx hb hml hown hts hP hK hD hZ hA hS ⟨Nat.zero_le _, Nat.zero_le _⟩ (m_laysBar1 l E ad s9 b (gu (mG N P kp C n th J) 1 N) hM c (by omega) (nI d) t) (va_cwS 4 hts gX5_byBar_X5_laysBar rfl rfl rfl (by decide +kernel) ⟨Nat.le_of_ble_eq_true rfl, Nat.le_of_ble_eq_true rfl⟩) hl.1 rfl (Nat.le_of_ble_eq_true rfl) dX5_byBar_20 (fun s_5 H locs hq hP hD hS => ?_)
  obtain ⟨hM, hf_4⟩ := hq
  have hf := hf.tr hf_4
  have hM : isR E ad s_5 b sM (gu (mG N P kp C n th J) 1 (barN N c (nI d) t)) := hM.eq (all14 rfl rfl rfl rfl rfl rfl rfl rfl rfl rfl rfl rfl rfl rfl)
  have hdT : okB (barN N c (nI d) t) := (hO.1.bar hd hc).b
  refine lv_iconst (v := 0) hx hb dX5_byBar_23 (by decide) ?_
  refine lv_istore (lv' := [(4, .int 0), (0, .ref (ad b)), (1, .int (nI c)), (2, .int (nI d)), (3, .int t)]) hx hb dX5_byBar_24 hl (by decide) rfl (fun ls hl => ?_)
  refine lv_iconst (v := 0) hx hb dX5_byBar_26 (by decide) ?_
  refine lv_istore (lv' := [(5, .int 0), (4, .int 0), (0, .ref (ad b)), (1, .int (nI c)), (2, .int (nI d)), (3, .int t)]) hx hb dX5_byBar_27 hl (by decide) rfl (fun ls hl => ?_)
  have LP_6 : ∀ (k9 i : Nat), i ≤ 36 → 36 - i < k9 → ∀ (sL_7 : NW) (H : Heap) (locs : List Loc) (ls : Array Slot) (za : Nat → Int32) (zb : Nat → Int32), isR E ad sL_7 b sM (gu (gu (gu (mG N P kp C n th J) 1 (barN N c (nI d) t)) 12 za) 13 zb) → fr b st sL_7 → nP E ad sL_7 H → nD A ad sL_7 → va_S A s.heap H locs → lv_has ls 6 [(4, .int (nI (cnI (ifbG (gN N) c (nI d) t) i))), (5, .int (nI i)), (0, .ref (ad b)), (1, .int (nI c)), (2, .int (nI d)), (3, .int t)] → W pg l en (nRm 6 142) s mi ar bw mth cd H locs 0 0 Q (F0 mi 29 ls []) := by
    intro k9
    induction k9 with
    | zero => intro i _ h9; exact absurd h9 (Nat.not_lt_zero _)
    | succ k9 ih29 =>
      intro i hi hk9 sL_7 H locs ls za zb hM hf hP hD hS hl
      refine lv_iload hx hb dX5_byBar_29 (lv_at hl 1 rfl) ?_
      refine lv_bipush (v := 36) hx hb dX5_byBar_31 (by decide) ?_
      refine lv_icmp_ge (tgt := 75) hx hb dX5_byBar_33 (by decide) (fun c33_7 => ?_) (fun c33_7 => ?_)
      · have h36 : 36 ≤ i := (nI_geL (n := 36) rfl (by decide) (by omega)).mp c33_7
        obtain rfl : i = 36 := by omega
        refine lv_iload hx hb dX5_byBar_75 (lv_at hl 0 rfl) ?_
        exact hret _ _ _ _ _ _ hP hD hS (⟨rfl, ⟨(gu (gu (gu J 1 (barN N c (nI d) t)) 12 za) 13 zb), hM.eq (all14 rfl rfl rfl rfl rfl rfl rfl rfl rfl rfl rfl rfl rfl rfl)⟩, hf⟩) dX5_byBar_77
      · have hlt : i < 36 := by have := mt (nI_geL (n := 36) (i := i) rfl (by decide) (by omega)).mpr c33_7; omega
        refine lv_iload hx hb dX5_byBar_36 (lv_at hl 0 rfl) ?_
        refine lv_aload_n hx hb dX5_byBar_38 rfl (lv_at hl 2 rfl) ?_
        refine lv_aload_n hx hb dX5_byBar_39 rfl (lv_at hl 2 rfl) ?_
        refine rg (v := .ref (ad (b + 1 + 1))) (T := TX5) (N := 14) (C := RX5) hx hb hts hinX5 hown hK hP hM rfl 1 (by decide) (hts (.fieldLink RX5 13 "NeedleGridModel" "then" "[I") (by decide +kernel)) rfl dX5_byBar_40 ?_
        refine lv_iload hx hb dX5_byBar_43 (lv_at hl 1 rfl) ?_
        refine nVi (As := [.ref (ad (b + 1 + 1)), .int (nI i)]) (rest := _) hx hb hml hown hts hP hK hD hZ hA hS ⟨Nat.zero_le _, Nat.zero_le _⟩ hM.1 rfl (m_aim1 l E ad sL_7 b (gu (gu (gu (mG N P kp C n th J) 1 (barN N c (nI d) t)) 12 za) 13 zb) hM i (by omega) hdT) (cwV 2 hts gX5_byBar_X5_aim rfl rfl rfl (by decide +kernel) ⟨Nat.le_of_ble_eq_true rfl, Nat.le_of_ble_eq_true rfl⟩) hl.1 rfl (Nat.le_of_ble_eq_true rfl) dX5_byBar_45 (fun r_9 s_11 H locs hq hP hD hS => ?_)
        obtain ⟨hrr_9, hM, hf_10⟩ := hq
        have hrr_9 : r_9 = mAim (barN N c (nI d) t) i := hrr_9
        have hf := hf.tr hf_10
        have hM : isR E ad s_11 b sM (gu (gu (gu (mG N P kp C n th J) 1 (barN N c (nI d) t)) 12 (fun _ => LX (barN N c (nI d) t) i)) 13 (fun _ => LY (barN N c (nI d) t) i)) := hM.eq (all14 rfl rfl rfl rfl rfl rfl rfl rfl rfl rfl rfl rfl rfl rfl)
        refine lv_aload_n hx hb dX5_byBar_48 rfl (lv_at hl 2 rfl) ?_
        refine lv_aload_n hx hb dX5_byBar_49 rfl (lv_at hl 2 rfl) ?_
        refine rg (v := .ref (ad (b + 1 + 0))) (T := TX5) (N := 14) (C := RX5) hx hb hts hinX5 hown hK hP hM rfl 0 (by decide) (hts (.fieldLink RX5 7 "NeedleGridModel" "now" "[I") (by decide +kernel)) rfl dX5_byBar_50 ?_
        refine lv_iload hx hb dX5_byBar_53 (lv_at hl 1 rfl) ?_
        refine nVi (As := [.ref (ad (b + 1 + 0)), .int (nI i)]) (rest := _) hx hb hml hown hts hP hK hD hZ hA hS ⟨Nat.zero_le _, Nat.zero_le _⟩ hM.1 rfl (m_aim0 l E ad s_11 b (gu (gu (gu (mG N P kp C n th J) 1 (barN N c (nI d) t)) 12 (fun _ => LX (barN N c (nI d) t) i)) 13 (fun _ => LY (barN N c (nI d) t) i)) hM i (by omega) hdB) (cwV 2 hts gX5_byBar_X5_aim rfl rfl rfl (by decide +kernel) ⟨Nat.le_of_ble_eq_true rfl, Nat.le_of_ble_eq_true rfl⟩) hl.1 rfl (Nat.le_of_ble_eq_true rfl) dX5_byBar_55 (fun r_12 s_14 H locs hq hP hD hS => ?_)
        obtain ⟨hrr_12, hM, hf_13⟩ := hq
        have hrr_12 : r_12 = mAim N i := hrr_12
        have hf := hf.tr hf_13
        have hM : isR E ad s_14 b sM (gu (gu (gu (mG N P kp C n th J) 1 (barN N c (nI d) t)) 12 (fun _ => LX N i)) 13 (fun _ => LY N i)) := hM.eq (all14 rfl rfl rfl rfl rfl rfl rfl rfl rfl rfl rfl rfl rfl rfl)
        refine lv_icmp_ne (tgt := 65) hx hb dX5_byBar_58 (by decide) (fun c58_14 => ?_) (fun c58_14 => ?_)
        · have hPi : (ifbG (gN N) c (nI d) t) i = true := ifbm_t hO hc hlt hd ht hrr_9 hrr_12 c58_14
          refine lv_iconst (v := 1) hx hb dX5_byBar_65 (by decide) ?_
          refine lv_iadd hx hb dX5_byBar_66 ?_
          rw [nI_1]
          refine lv_istore (lv' := [(4, .int (nI ((cnI (ifbG (gN N) c (nI d) t) i) + 1))), (5, .int (nI i)), (0, .ref (ad b)), (1, .int (nI c)), (2, .int (nI d)), (3, .int t)]) hx hb dX5_byBar_67 hl (by decide) rfl (fun ls hl => ?_)
          refine lv_iinc (v := nI (i + 1)) (lv' := [(5, .int (nI (i + 1))), (4, .int (nI ((cnI (ifbG (gN N) c (nI d) t) i) + 1))), (0, .ref (ad b)), (1, .int (nI c)), (2, .int (nI d)), (3, .int t)]) hx hb dX5_byBar_69 hl (k := 1) rfl (nI_1 _) (by decide) rfl (fun ls hl => ?_)
          refine lv_goto (tgt := 29) hx hb dX5_byBar_72 (by decide) ?_
          exact ih29 (i + 1) (by omega) (by omega) _ _ _ _ (fun _ => LX N i) (fun _ => LY N i) (hM.eq (all14 rfl rfl rfl rfl rfl rfl rfl rfl rfl rfl rfl rfl rfl rfl)) hf hP hD hS (by rw [cnI_t hPi]; exact lv_sub hl [1, 0, 2, 3, 4, 5] rfl)
        · have hPi : (ifbG (gN N) c (nI d) t) i = false := ifbm_f hO hc hlt hd ht hrr_9 hrr_12 c58_14
          refine lv_iconst (v := 0) hx hb dX5_byBar_61 (by decide) ?_
          refine lv_goto (tgt := 66) hx hb dX5_byBar_62 (by decide) ?_
          refine lv_iadd hx hb dX5_byBar_66 ?_
          rw [show nI (cnI (ifbG (gN N) c (nI d) t) i) + 0 = nI (cnI (ifbG (gN N) c (nI d) t) i) from Int32.add_zero _]
          refine lv_istore (lv' := [(4, .int (nI (cnI (ifbG (gN N) c (nI d) t) i))), (5, .int (nI i)), (0, .ref (ad b)), (1, .int (nI c)), (2, .int (nI d)), (3, .int t)]) hx hb dX5_byBar_67 hl (by decide) rfl (fun ls hl => ?_)
          refine lv_iinc (v := nI (i + 1)) (lv' := [(5, .int (nI (i + 1))), (4, .int (nI (cnI (ifbG (gN N) c (nI d) t) i))), (0, .ref (ad b)), (1, .int (nI c)), (2, .int (nI d)), (3, .int t)]) hx hb dX5_byBar_69 hl (k := 1) rfl (nI_1 _) (by decide) rfl (fun ls hl => ?_)
          refine lv_goto (tgt := 29) hx hb dX5_byBar_72 (by decide) ?_
          exact ih29 (i + 1) (by omega) (by omega) _ _ _ _ (fun _ => LX N i) (fun _ => LY N i) (hM.eq (all14 rfl rfl rfl rfl rfl rfl rfl rfl rfl rfl rfl rfl rfl rfl)) hf hP hD hS (by rw [cnI_f hPi]; exact lv_sub hl [1, 0, 2, 3, 4, 5] rfl)
  exact LP_6 (36 + 1) 0 (Nat.zero_le _) (by omega) _ _ _ _ (J 12) (J 13) (hM.eq (all14 rfl rfl rfl rfl rfl rfl rfl rfl rfl rfl rfl rfl rfl rfl)) hf hP hD hS (lv_sub hl [1, 0, 2, 3, 4, 5] rfl)

set_option maxHeartbeats 4000000 in
set_option maxRecDepth 100000 in
theorem m_best (l : Launch) (E : NE) (ad : Nat → Nat) (st : NW) (b : Nat) (N P : Nat → Int32) (kp : Nat) (C : Nat → Int32) (n : Nat) (th : Int32) (J : Nat → Nat → Int32) (hkp : kp ≤ 6) (hn : n ≤ 60) (hO : okN N) (hM : isR E ad st b sM (mG N P kp C n th J)) (c d : Nat) (t : Int32) (hc : c < 36) (hd : d < 8) (ht : ¬ t ≤ 0) : nMi l yX5_best wsX5_best (nRm 6 142) E ad st [.ref (ad b), .int (nI c), .int (nI d), .int t] (fun r s1 => r = fnd1 (bstG (gN N) c (nI d) t) 288 0 ∧ (∃ J1, isR E ad s1 b sM (mG N P kp C n th J1)) ∧ fr b st s1) := by
  refine nSi (cc := cX5_best) (maxL := 6) (by decide) rfl (Nat.le_of_ble_eq_true rfl) ?_
  intro pg en s mi ar bw mth cd R Q A ls hx hb hml hown hts hRm hP hK hD hZ hA hl hret
  subst hRm
  have hown : s.vm.findClass RX5 = some mi.cls := hown
  have hS : va_S A s.heap s.heap [] := va_S.rf
  have hl : lv_has ls 6 [(0, .ref (ad b)), (1, .int (nI c)), (2, .int (nI d)), (3, .int t)] := hl
  have hf : fr b st st := fr.rf
  have hdB := hO.1.b
  have hinX5 : ∀ w ∈ wsX50, w ∈ wsX5_best := by decide +kernel
  refine lv_aload_n hx hb dX5_best_0 rfl (lv_at hl 0 rfl) ?_
  refine rg (v := .ref (ad (b + 1 + 0))) (T := TX5) (N := 14) (C := RX5) hx hb hts hinX5 hown hK hP hM rfl 0 (by decide) (hts (.fieldLink RX5 7 "NeedleGridModel" "now" "[I") (by decide +kernel)) rfl dX5_best_1 ?_
  refine lv_iconst (v := 0) hx hb dX5_best_4 (by decide) ?_
  refine lv_aload_n hx hb dX5_best_5 rfl (lv_at hl 0 rfl) ?_
  refine rg (v := .ref (ad (b + 1 + 1))) (T := TX5) (N := 14) (C := RX5) hx hb hts hinX5 hown hK hP hM rfl 1 (by decide) (hts (.fieldLink RX5 13 "NeedleGridModel" "then" "[I") (by decide +kernel)) rfl dX5_best_6 ?_
  refine lv_iconst (v := 0) hx hb dX5_best_9 (by decide) ?_
  refine nS_v (As := [.ref (ad (b + 1 + 0)), .int 0, .ref (ad (b + 1 + 1)), .int 0]) (rest := _) hx hb hml hown hts hP hK hD hZ hA hS ⟨Nat.zero_le _, Nat.zero_le _⟩ (m_copies01 l E ad st b (mG N P kp C n th J) hM 0 0 (by omega) (by omega)) (va_cwS 4 hts gX5_best_X5_copies rfl rfl rfl (by decide +kernel) ⟨Nat.le_of_ble_eq_true rfl, Nat.le_of_ble_eq_true rfl⟩) hl.1 rfl (Nat.le_of_ble_eq_true rfl) dX5_best_10 (fun s_3 H locs hq hP hD hS => ?_)
  obtain ⟨hM, hf_2⟩ := hq
  have hf := hf.tr hf_2
  obtain ⟨s9, hM, hf9, hP, hD⟩ := hM.can hP hD 1 (n := 186) (z := 0) rfl (by decide) (by decide) (g := N) (fun j hj => (cpI_in (by omega) (by omega)).trans (congrArg N (by omega)))
  have hf := hf.tr hf9
  have hM : isR E ad s9 b sM (gu (mG N P kp C n th J) 1 N) := hM.eq (all14 rfl rfl rfl rfl rfl rfl rfl rfl rfl rfl rfl rfl rfl rfl)
  refine lv_iconst (v := 0) hx hb dX5_best_13 (by decide) ?_
  refine lv_istore (lv' := [(4, .int 0), (0, .ref (ad b)), (1, .int (nI c)), (2, .int (nI d)), (3, .int t)]) hx hb dX5_best_14 hl (by decide) rfl (fun ls hl => ?_)
  have LP_4 : ∀ (k9 i : Nat), i ≤ 288 → 288 - i < k9 → ∀ (sL_5 : NW) (H : Heap) (locs : List Loc) (ls : Array Slot) (za : Nat → Int32) (zb : Nat → Int32), isR E ad sL_5 b sM (gu (gu (gu (mG N P kp C n th J) 1 N) 12 za) 13 zb) → fr b st sL_5 → fnd1 (bstG (gN N) c (nI d) t) 288 0 = fnd1 (bstG (gN N) c (nI d) t) (288 - i) i → nP E ad sL_5 H → nD A ad sL_5 → va_S A s.heap H locs → lv_has ls 6 [(4, .int (nI i)), (0, .ref (ad b)), (1, .int (nI c)), (2, .int (nI d)), (3, .int t)] → W pg l en (nRm 6 142) s mi ar bw mth cd H locs 0 0 Q (F0 mi 16 ls []) := by
    intro k9
    induction k9 with
    | zero => intro i _ h9; exact absurd h9 (Nat.not_lt_zero _)
    | succ k9 ih16 =>
      intro i hi hk9 sL_5 H locs ls za zb hM hf hfn hP hD hS hl
      refine lv_iload hx hb dX5_best_16 (lv_at hl 0 rfl) ?_
      refine lv_sipush (v := 288) hx hb dX5_best_18 (by decide) ?_
      refine lv_icmp_ge (tgt := 98) hx hb dX5_best_21 (by decide) (fun c21_5 => ?_) (fun c21_5 => ?_)
      · have h36 : 288 ≤ i := (nI_geL (n := 288) rfl (by decide) (by omega)).mp c21_5
        obtain rfl : i = 288 := by omega
        refine lv_iconst (v := -1) hx hb dX5_best_98 (by decide) ?_
        exact hret _ _ _ _ _ _ hP hD hS (⟨(by rw [hfn]; rfl), ⟨(gu (gu (gu J 1 N) 12 za) 13 zb), hM.eq (all14 rfl rfl rfl rfl rfl rfl rfl rfl rfl rfl rfl rfl rfl rfl)⟩, hf⟩) dX5_best_99
      · have hlt : i < 288 := by have := mt (nI_geL (n := 288) (i := i) rfl (by decide) (by omega)).mpr c21_5; omega
        have hlt8 : i / 8 < 36 := by omega
        refine lv_iload hx hb dX5_best_24 (lv_at hl 0 rfl) ?_
        refine lv_bipush (v := 8) hx hb dX5_best_26 (by decide) ?_
        refine lv_idiv hx hb dX5_best_28 (by decide) ?_
        rw [show nI i / 8 = nI (i / 8) from pk_div (d := 8) (by omega) (by decide) (by decide)]
        refine lv_istore (lv' := [(5, .int (nI (i / 8))), (4, .int (nI i)), (0, .ref (ad b)), (1, .int (nI c)), (2, .int (nI d)), (3, .int t)]) hx hb dX5_best_29 hl (by decide) rfl (fun ls hl => ?_)
        refine lv_aload_n hx hb dX5_best_31 rfl (lv_at hl 2 rfl) ?_
        refine rg (v := .ref (ad (b + 1 + 1))) (T := TX5) (N := 14) (C := RX5) hx hb hts hinX5 hown hK hP hM rfl 1 (by decide) (hts (.fieldLink RX5 13 "NeedleGridModel" "then" "[I") (by decide +kernel)) rfl dX5_best_32 ?_
        refine lv_iload hx hb dX5_best_35 (lv_at hl 0 rfl) ?_
        refine lv_iload hx hb dX5_best_37 (lv_at hl 1 rfl) ?_
        refine lv_bipush (v := 8) hx hb dX5_best_39 (by decide) ?_
        refine lv_irem hx hb dX5_best_41 (by decide) ?_
        rw [show nI i - nI i / 8 * 8 = nI (i % 8) from pk_rem (d := 8) (by omega) (by decide) (by decide)]
        refine lv_iload_n hx hb dX5_best_42 rfl (lv_at hl 5 rfl) ?_
        refine nS_v (As := [.ref (ad (b + 1 + 1)), .int (nI (i / 8)), .int (nI (i % 8)), .int t]) (rest := _) hx hb hml hown hts hP hK hD hZ hA hS ⟨Nat.zero_le _, Nat.zero_le _⟩ (m_laysBar1 l E ad sL_5 b (gu (gu (gu (mG N P kp C n th J) 1 N) 12 za) 13 zb) hM (i / 8) (by omega) (nI (i % 8)) t) (va_cwS 4 hts gX5_best_X5_laysBar rfl rfl rfl (by decide +kernel) ⟨Nat.le_of_ble_eq_true rfl, Nat.le_of_ble_eq_true rfl⟩) hl.1 rfl (Nat.le_of_ble_eq_true rfl) dX5_best_43 (fun s_8 H locs hq hP hD hS => ?_)
        obtain ⟨hM, hf_7⟩ := hq
        have hf := hf.tr hf_7
        have hM : isR E ad s_8 b sM (gu (gu (gu (mG N P kp C n th J) 12 za) 13 zb) 1 (barN N (i / 8) (nI (i % 8)) t)) := hM.eq (all14 rfl rfl rfl rfl rfl rfl rfl rfl rfl rfl rfl rfl rfl rfl)
        have hdT : okB (barN N (i / 8) (nI (i % 8)) t) := (hO.1.bar (by omega) (by omega)).b
        refine lv_aload_n hx hb dX5_best_46 rfl (lv_at hl 2 rfl) ?_
        refine lv_aload_n hx hb dX5_best_47 rfl (lv_at hl 2 rfl) ?_
        refine rg (v := .ref (ad (b + 1 + 1))) (T := TX5) (N := 14) (C := RX5) hx hb hts hinX5 hown hK hP hM rfl 1 (by decide) (hts (.fieldLink RX5 13 "NeedleGridModel" "then" "[I") (by decide +kernel)) rfl dX5_best_48 ?_
        refine lv_iload_n hx hb dX5_best_51 rfl (lv_at hl 3 rfl) ?_
        refine nVi (As := [.ref (ad (b + 1 + 1)), .int (nI c)]) (rest := _) hx hb hml hown hts hP hK hD hZ hA hS ⟨Nat.zero_le _, Nat.zero_le _⟩ hM.1 rfl (m_aim1 l E ad s_8 b (gu (gu (gu (mG N P kp C n th J) 12 za) 13 zb) 1 (barN N (i / 8) (nI (i % 8)) t)) hM c (by omega) hdT) (cwV 2 hts gX5_best_X5_aim rfl rfl rfl (by decide +kernel) ⟨Nat.le_of_ble_eq_true rfl, Nat.le_of_ble_eq_true rfl⟩) hl.1 rfl (Nat.le_of_ble_eq_true rfl) dX5_best_52 (fun r_9 s_11 H locs hq hP hD hS => ?_)
        obtain ⟨hrr_9, hM, hf_10⟩ := hq
        have hrr_9 : r_9 = mAim (barN N (i / 8) (nI (i % 8)) t) c := hrr_9
        have hf := hf.tr hf_10
        have hM : isR E ad s_11 b sM (gu (gu (gu (mG N P kp C n th J) 1 (barN N (i / 8) (nI (i % 8)) t)) 12 (fun _ => LX (barN N (i / 8) (nI (i % 8)) t) c)) 13 (fun _ => LY (barN N (i / 8) (nI (i % 8)) t) c)) := hM.eq (all14 rfl rfl rfl rfl rfl rfl rfl rfl rfl rfl rfl rfl rfl rfl)
        refine lv_iload_n hx hb dX5_best_55 rfl (lv_at hl 4 rfl) ?_
        refine lv_icmp_ne (tgt := 62) hx hb dX5_best_56 (by decide) (fun c56_11 => ?_) (fun c56_11 => ?_)
        · have hPi : (bstG (gN N) c (nI d) t) i = false := (bstm hO hc hlt ht hrr_9).trans (decide_eq_false c56_11)
          refine lv_aload_n hx hb dX5_best_62 rfl (lv_at hl 2 rfl) ?_
          refine rg (v := .ref (ad (b + 1 + 1))) (T := TX5) (N := 14) (C := RX5) hx hb hts hinX5 hown hK hP hM rfl 1 (by decide) (hts (.fieldLink RX5 13 "NeedleGridModel" "then" "[I") (by decide +kernel)) rfl dX5_best_63 ?_
          refine lv_iload hx hb dX5_best_66 (lv_at hl 0 rfl) ?_
          refine lv_aload_n hx hb dX5_best_68 rfl (lv_at hl 2 rfl) ?_
          refine rg (v := .ref (ad (b + 1 + 0))) (T := TX5) (N := 14) (C := RX5) hx hb hts hinX5 hown hK hP hM rfl 0 (by decide) (hts (.fieldLink RX5 7 "NeedleGridModel" "now" "[I") (by decide +kernel)) rfl dX5_best_69 ?_
          refine lv_bipush (v := 114) hx hb dX5_best_72 (by decide) ?_
          refine lv_iload hx hb dX5_best_74 (lv_at hl 0 rfl) ?_
          refine lv_iadd hx hb dX5_best_76 ?_
          rw [show 114 + nI (i / 8) = nI (114 + (i / 8)) from nI_add 114 (i / 8)]
          refine ra (j := (114 + (i / 8))) (n := 186) hx hb hK hP hM 0 rfl (by omega) (by decide) dX5_best_77 ?_
          refine lv_aload_n hx hb dX5_best_78 rfl (lv_at hl 2 rfl) ?_
          refine rg (v := .ref (ad (b + 1 + 0))) (T := TX5) (N := 14) (C := RX5) hx hb hts hinX5 hown hK hP hM rfl 0 (by decide) (hts (.fieldLink RX5 7 "NeedleGridModel" "now" "[I") (by decide +kernel)) rfl dX5_best_79 ?_
          refine lv_sipush (v := 150) hx hb dX5_best_82 (by decide) ?_
          refine lv_iload hx hb dX5_best_85 (lv_at hl 0 rfl) ?_
          refine lv_iadd hx hb dX5_best_87 ?_
          rw [show 150 + nI (i / 8) = nI (150 + (i / 8)) from nI_add 150 (i / 8)]
          refine ra (j := (150 + (i / 8))) (n := 186) hx hb hK hP hM 0 rfl (by omega) (by decide) dX5_best_88 ?_
          refine nS_v (As := [.ref (ad (b + 1 + 1)), .int (nI (i / 8)), .int (N (114 + (i / 8))), .int (N (150 + (i / 8)))]) (rest := _) hx hb hml hown hts hP hK hD hZ hA hS ⟨Nat.zero_le _, Nat.zero_le _⟩ (m_laysBar1 l E ad s_11 b (gu (gu (gu (mG N P kp C n th J) 1 (barN N (i / 8) (nI (i % 8)) t)) 12 (fun _ => LX (barN N (i / 8) (nI (i % 8)) t) c)) 13 (fun _ => LY (barN N (i / 8) (nI (i % 8)) t) c)) hM (i / 8) (by omega) (N (114 + (i / 8))) (N (150 + (i / 8)))) (va_cwS 4 hts gX5_best_X5_laysBar rfl rfl rfl (by decide +kernel) ⟨Nat.le_of_ble_eq_true rfl, Nat.le_of_ble_eq_true rfl⟩) hl.1 rfl (Nat.le_of_ble_eq_true rfl) dX5_best_89 (fun s_14 H locs hq hP hD hS => ?_)
          obtain ⟨hM, hf_13⟩ := hq
          have hf := hf.tr hf_13
          have hM : isR E ad s_14 b sM (gu (gu (gu (mG N P kp C n th J) 12 (fun _ => LX (barN N (i / 8) (nI (i % 8)) t) c)) 13 (fun _ => LY (barN N (i / 8) (nI (i % 8)) t) c)) 1 (barN (barN N (i / 8) (nI (i % 8)) t) (i / 8) (N (114 + (i / 8))) (N (150 + (i / 8))))) := hM.eq (all14 rfl rfl rfl rfl rfl rfl rfl rfl rfl rfl rfl rfl rfl rfl)
          refine lv_iinc (v := nI (i + 1)) (lv' := [(4, .int (nI (i + 1))), (5, .int (nI (i / 8))), (0, .ref (ad b)), (1, .int (nI c)), (2, .int (nI d)), (3, .int t)]) hx hb dX5_best_92 hl (k := 1) rfl (nI_1 _) (by decide) rfl (fun ls hl => ?_)
          refine lv_goto (tgt := 16) hx hb dX5_best_95 (by decide) ?_
          exact ih16 (i + 1) (by omega) (by omega) _ _ _ _ (fun _ => LX (barN N (i / 8) (nI (i % 8)) t) c) (fun _ => LY (barN N (i / 8) (nI (i % 8)) t) c) (hM.eq (all14 rfl (barN_id (by omega)) rfl rfl rfl rfl rfl rfl rfl rfl rfl rfl rfl rfl)) hf (by rw [hfn, fnd1_no (by omega) hPi, show 288 - i - 1 = 288 - (i + 1) by omega]) hP hD hS (lv_sub hl [0, 2, 3, 4, 5] rfl)
        · have hPi : (bstG (gN N) c (nI d) t) i = true := (bstm hO hc hlt ht hrr_9).trans (decide_eq_true c56_11)
          refine lv_iload hx hb dX5_best_59 (lv_at hl 1 rfl) ?_
          exact hret _ _ _ _ _ _ hP hD hS (⟨(by rw [hfn, fnd1_yes (by omega) hPi]), ⟨(gu (gu (gu J 1 (barN N (i / 8) (nI (i % 8)) t)) 12 (fun _ => LX (barN N (i / 8) (nI (i % 8)) t) c)) 13 (fun _ => LY (barN N (i / 8) (nI (i % 8)) t) c)), hM.eq (all14 rfl rfl rfl rfl rfl rfl rfl rfl rfl rfl rfl rfl rfl rfl)⟩, hf⟩) dX5_best_61
  exact LP_4 (288 + 1) 0 (Nat.zero_le _) (by omega) _ _ _ _ (J 12) (J 13) (hM.eq (all14 rfl rfl rfl rfl rfl rfl rfl rfl rfl rfl rfl rfl rfl rfl)) hf rfl hP hD hS (lv_sub hl [0, 1, 2, 3, 4] rfl)

set_option maxHeartbeats 4000000 in
set_option maxRecDepth 100000 in
theorem m_least (l : Launch) (E : NE) (ad : Nat → Nat) (st : NW) (b : Nat) (N P : Nat → Int32) (kp : Nat) (C : Nat → Int32) (n : Nat) (th : Int32) (J : Nat → Nat → Int32) (hkp : kp ≤ 6) (hn : n ≤ 60) (hO : okN N) (hM : isR E ad st b sM (mG N P kp C n th J)) (c : Nat) (hc : c < 36) : nMi l yX5_least wsX5_least (nRm 6 142) E ad st [.ref (ad b), .int (nI c)] (fun r s1 => r = fnd1 (lstG (gN N) c) 51 0 ∧ (∃ J1, isR E ad s1 b sM (mG N P kp C n th J1)) ∧ fr b st s1) := by
  refine nSi (cc := cX5_least) (maxL := 3) (by decide) rfl (Nat.le_of_ble_eq_true rfl) ?_
  intro pg en s mi ar bw mth cd R Q A ls hx hb hml hown hts hRm hP hK hD hZ hA hl hret
  subst hRm
  have hown : s.vm.findClass RX5 = some mi.cls := hown
  have hS : va_S A s.heap s.heap [] := va_S.rf
  have hl : lv_has ls 3 [(0, .ref (ad b)), (1, .int (nI c))] := hl
  have hf : fr b st st := fr.rf
  have hdB := hO.1.b
  have hinX5 : ∀ w ∈ wsX50, w ∈ wsX5_least := by decide +kernel
  refine lv_aload_n hx hb dX5_least_0 rfl (lv_at hl 0 rfl) ?_
  refine rg (v := .ref (ad (b + 1 + 0))) (T := TX5) (N := 14) (C := RX5) hx hb hts hinX5 hown hK hP hM rfl 0 (by decide) (hts (.fieldLink RX5 7 "NeedleGridModel" "now" "[I") (by decide +kernel)) rfl dX5_least_1 ?_
  refine lv_iconst (v := 0) hx hb dX5_least_4 (by decide) ?_
  refine lv_aload_n hx hb dX5_least_5 rfl (lv_at hl 0 rfl) ?_
  refine rg (v := .ref (ad (b + 1 + 1))) (T := TX5) (N := 14) (C := RX5) hx hb hts hinX5 hown hK hP hM rfl 1 (by decide) (hts (.fieldLink RX5 13 "NeedleGridModel" "then" "[I") (by decide +kernel)) rfl dX5_least_6 ?_
  refine lv_iconst (v := 0) hx hb dX5_least_9 (by decide) ?_
  refine nS_v (As := [.ref (ad (b + 1 + 0)), .int 0, .ref (ad (b + 1 + 1)), .int 0]) (rest := _) hx hb hml hown hts hP hK hD hZ hA hS ⟨Nat.zero_le _, Nat.zero_le _⟩ (m_copies01 l E ad st b (mG N P kp C n th J) hM 0 0 (by omega) (by omega)) (va_cwS 4 hts gX5_least_X5_copies rfl rfl rfl (by decide +kernel) ⟨Nat.le_of_ble_eq_true rfl, Nat.le_of_ble_eq_true rfl⟩) hl.1 rfl (Nat.le_of_ble_eq_true rfl) dX5_least_10 (fun s_3 H locs hq hP hD hS => ?_)
  obtain ⟨hM, hf_2⟩ := hq
  have hf := hf.tr hf_2
  obtain ⟨s9, hM, hf9, hP, hD⟩ := hM.can hP hD 1 (n := 186) (z := 0) rfl (by decide) (by decide) (g := N) (fun j hj => (cpI_in (by omega) (by omega)).trans (congrArg N (by omega)))
  have hf := hf.tr hf9
  have hM : isR E ad s9 b sM (gu (mG N P kp C n th J) 1 N) := hM.eq (all14 rfl rfl rfl rfl rfl rfl rfl rfl rfl rfl rfl rfl rfl rfl)
  refine lv_iconst (v := 0) hx hb dX5_least_13 (by decide) ?_
  refine lv_istore_n (lv' := [(2, .int 0), (0, .ref (ad b)), (1, .int (nI c))]) hx hb dX5_least_14 rfl hl (by decide) rfl (fun ls hl => ?_)
  have LP_4 : ∀ (k9 i : Nat), i ≤ 51 → 51 - i < k9 → ∀ (sL_5 : NW) (H : Heap) (locs : List Loc) (ls : Array Slot) (zt : Int32) (za : Nat → Int32) (zb : Nat → Int32), isR E ad sL_5 b sM (gu (gu (gu (mG N P kp C n th J) 1 (upd N 4 zt)) 12 za) 13 zb) → fr b st sL_5 → fnd1 (lstG (gN N) c) 51 0 = fnd1 (lstG (gN N) c) (51 - i) i → nP E ad sL_5 H → nD A ad sL_5 → va_S A s.heap H locs → lv_has ls 3 [(2, .int (nI i)), (0, .ref (ad b)), (1, .int (nI c))] → W pg l en (nRm 6 142) s mi ar bw mth cd H locs 0 0 Q (F0 mi 15 ls []) := by
    intro k9
    induction k9 with
    | zero => intro i _ h9; exact absurd h9 (Nat.not_lt_zero _)
    | succ k9 ih15 =>
      intro i hi hk9 sL_5 H locs ls zt za zb hM hf hfn hP hD hS hl
      refine lv_iload_n hx hb dX5_least_15 rfl (lv_at hl 0 rfl) ?_
      refine lv_bipush (v := 50) hx hb dX5_least_16 (by decide) ?_
      refine lv_icmp_gt (tgt := 54) hx hb dX5_least_18 (by decide) (fun c18_5 => ?_) (fun c18_5 => ?_)
      · have h36 : 51 ≤ i := by have := (nI_ltR (n := 50) (i := i) rfl (by decide) (by omega)).mp c18_5; omega
        obtain rfl : i = 51 := by omega
        refine lv_iconst (v := -1) hx hb dX5_least_54 (by decide) ?_
        exact hret _ _ _ _ _ _ hP hD hS (⟨(by rw [hfn]; rfl), ⟨(gu (gu (gu J 1 (upd N 4 zt)) 12 za) 13 zb), hM.eq (all14 rfl rfl rfl rfl rfl rfl rfl rfl rfl rfl rfl rfl rfl rfl)⟩, hf⟩) dX5_least_55
      · have hlt : i < 51 := by have := mt (nI_ltR (n := 50) (i := i) rfl (by decide) (by omega)).mpr c18_5; omega
        refine lv_aload_n hx hb dX5_least_21 rfl (lv_at hl 1 rfl) ?_
        refine rg (v := .ref (ad (b + 1 + 1))) (T := TX5) (N := 14) (C := RX5) hx hb hts hinX5 hown hK hP hM rfl 1 (by decide) (hts (.fieldLink RX5 13 "NeedleGridModel" "then" "[I") (by decide +kernel)) rfl dX5_least_22 ?_
        refine lv_iconst (v := 4) hx hb dX5_least_25 (by decide) ?_
        refine lv_iload_n hx hb dX5_least_26 rfl (lv_at hl 0 rfl) ?_
        refine rs (j := 4) (n := 186) (x := nI i) hx hb hK hP hD hS hM 1 rfl (by decide) (by omega) (by decide) dX5_least_27 (fun s_7 H locs hM hf_8 hP hD hS => ?_)
        have hf := hf.tr hf_8
        have hM : isR E ad s_7 b sM (gu (gu (gu (mG N P kp C n th J) 12 za) 13 zb) 1 (upd (upd N 4 zt) 4 (nI i))) := hM.eq (all14 rfl rfl rfl rfl rfl rfl rfl rfl rfl rfl rfl rfl rfl rfl)
        have hM : isR E ad s_7 b sM (gu (gu (gu (mG N P kp C n th J) 12 za) 13 zb) 1 (upd N 4 (nI i))) := hM.eq (all14 rfl upd_upd rfl rfl rfl rfl rfl rfl rfl rfl rfl rfl rfl rfl)
        have hdT : okB (upd N 4 (nI i)) := hO.1.turns.b
        refine lv_aload_n hx hb dX5_least_28 rfl (lv_at hl 1 rfl) ?_
        refine lv_aload_n hx hb dX5_least_29 rfl (lv_at hl 1 rfl) ?_
        refine rg (v := .ref (ad (b + 1 + 1))) (T := TX5) (N := 14) (C := RX5) hx hb hts hinX5 hown hK hP hM rfl 1 (by decide) (hts (.fieldLink RX5 13 "NeedleGridModel" "then" "[I") (by decide +kernel)) rfl dX5_least_30 ?_
        refine lv_iload_n hx hb dX5_least_33 rfl (lv_at hl 2 rfl) ?_
        refine nVi (As := [.ref (ad (b + 1 + 1)), .int (nI c)]) (rest := _) hx hb hml hown hts hP hK hD hZ hA hS ⟨Nat.zero_le _, Nat.zero_le _⟩ hM.1 rfl (m_aim1 l E ad s_7 b (gu (gu (gu (mG N P kp C n th J) 12 za) 13 zb) 1 (upd N 4 (nI i))) hM c (by omega) hdT) (cwV 2 hts gX5_least_X5_aim rfl rfl rfl (by decide +kernel) ⟨Nat.le_of_ble_eq_true rfl, Nat.le_of_ble_eq_true rfl⟩) hl.1 rfl (Nat.le_of_ble_eq_true rfl) dX5_least_34 (fun r_9 s_11 H locs hq hP hD hS => ?_)
        obtain ⟨hrr_9, hM, hf_10⟩ := hq
        have hrr_9 : r_9 = mAim (upd N 4 (nI i)) c := hrr_9
        have hf := hf.tr hf_10
        have hM : isR E ad s_11 b sM (gu (gu (gu (mG N P kp C n th J) 1 (upd N 4 (nI i))) 12 (fun _ => LX (upd N 4 (nI i)) c)) 13 (fun _ => LY (upd N 4 (nI i)) c)) := hM.eq (all14 rfl rfl rfl rfl rfl rfl rfl rfl rfl rfl rfl rfl rfl rfl)
        refine lv_aload_n hx hb dX5_least_37 rfl (lv_at hl 1 rfl) ?_
        refine rg (v := .ref (ad (b + 1 + 0))) (T := TX5) (N := 14) (C := RX5) hx hb hts hinX5 hown hK hP hM rfl 0 (by decide) (hts (.fieldLink RX5 7 "NeedleGridModel" "now" "[I") (by decide +kernel)) rfl dX5_least_38 ?_
        refine lv_iconst (v := 5) hx hb dX5_least_41 (by decide) ?_
        refine ra (j := 5) (n := 186) hx hb hK hP hM 0 rfl (by omega) (by decide) dX5_least_42 ?_
        refine lv_icmp_ne (tgt := 48) hx hb dX5_least_43 (by decide) (fun c43_11 => ?_) (fun c43_11 => ?_)
        · have c43_11 : ¬ r_9 = (N 5) := c43_11
          have hPi : (lstG (gN N) c) i = false := (lstm hO hc hrr_9).trans (decide_eq_false c43_11)
          refine lv_iinc (v := nI (i + 1)) (lv' := [(2, .int (nI (i + 1))), (0, .ref (ad b)), (1, .int (nI c))]) hx hb dX5_least_48 hl (k := 0) rfl (nI_1 _) (by decide) rfl (fun ls hl => ?_)
          refine lv_goto (tgt := 15) hx hb dX5_least_51 (by decide) ?_
          exact ih15 (i + 1) (by omega) (by omega) _ _ _ _ (nI i) (fun _ => LX (upd N 4 (nI i)) c) (fun _ => LY (upd N 4 (nI i)) c) (hM.eq (all14 rfl rfl rfl rfl rfl rfl rfl rfl rfl rfl rfl rfl rfl rfl)) hf (by rw [hfn, fnd1_no (by omega) hPi, show 51 - i - 1 = 51 - (i + 1) by omega]) hP hD hS (lv_sub hl [0, 1, 2] rfl)
        · have c43_11 : r_9 = (N 5) := c43_11
          have hPi : (lstG (gN N) c) i = true := (lstm hO hc hrr_9).trans (decide_eq_true c43_11)
          refine lv_iload_n hx hb dX5_least_46 rfl (lv_at hl 0 rfl) ?_
          exact hret _ _ _ _ _ _ hP hD hS (⟨(by rw [hfn, fnd1_yes (by omega) hPi]), ⟨(gu (gu (gu J 1 (upd N 4 (nI i))) 12 (fun _ => LX (upd N 4 (nI i)) c)) 13 (fun _ => LY (upd N 4 (nI i)) c)), hM.eq (all14 rfl rfl rfl rfl rfl rfl rfl rfl rfl rfl rfl rfl rfl rfl)⟩, hf⟩) dX5_least_47
  exact LP_4 (51 + 1) 0 (Nat.zero_le _) (by omega) _ _ _ _ (N 4) (J 12) (J 13) (hM.eq (all14 rfl upd_id.symm rfl rfl rfl rfl rfl rfl rfl rfl rfl rfl rfl rfl)) hf rfl hP hD hS (lv_sub hl [0, 1, 2] rfl)

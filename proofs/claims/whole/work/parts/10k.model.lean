set_option maxHeartbeats 4000000 in
set_option maxRecDepth 100000 in
theorem m_share (l : Launch) (E : NE) (ad : Nat → Nat) (st : NW) (b : Nat) (N P : Nat → Int32) (kp : Nat) (C : Nat → Int32) (n : Nat) (th : Int32) (J : Nat → Nat → Int32) (hkp : kp ≤ 6) (hn : n ≤ 60) (hO : okN N) (hM : isR E ad st b sM (mG N P kp C n th J))  : nMd l yX5_share wsX5_share (nRm 7 166) E ad st [.ref (ad b)] (fun r s1 => r = obV N ∧ (∃ J1, isR E ad s1 b sM (mG N P kp C n th J1)) ∧ fr b st s1) := by
  refine nSd (cc := cX5_share) (maxL := 5) (by decide) rfl (Nat.le_of_ble_eq_true rfl) ?_
  intro pg en s mi ar bw mth cd R Q A ls hx hb hml hown hts hRm hP hK hD hZ hA hl hret
  subst hRm
  have hown : s.vm.findClass RX5 = some mi.cls := hown
  have hS : va_S A s.heap s.heap [] := va_S.rf
  have hl : lv_has ls 5 [(0, .ref (ad b))] := hl
  have hf : fr b st st := fr.rf
  have hdB := hO.1.b
  have hinX5 : ∀ w ∈ wsX50, w ∈ wsX5_share := by decide +kernel
  refine lv_iconst (v := 0) hx hb dX5_share_0 (by decide) ?_
  refine lv_istore_n (lv' := [(1, .int 0), (0, .ref (ad b))]) hx hb dX5_share_1 rfl hl (by decide) rfl (fun ls hl => ?_)
  refine lv_iconst (v := 0) hx hb dX5_share_2 (by decide) ?_
  refine lv_istore_n (lv' := [(2, .int 0), (1, .int 0), (0, .ref (ad b))]) hx hb dX5_share_3 rfl hl (by decide) rfl (fun ls hl => ?_)
  refine lv_iconst (v := 0) hx hb dX5_share_4 (by decide) ?_
  refine lv_istore_n (lv' := [(3, .int 0), (2, .int 0), (1, .int 0), (0, .ref (ad b))]) hx hb dX5_share_5 rfl hl (by decide) rfl (fun ls hl => ?_)
  have LP_1 : ∀ (k9 i : Nat), i ≤ 36 → 36 - i < k9 → ∀ (sL_2 : NW) (H : Heap) (locs : List Loc) (ls : Array Slot) (J9 : Nat → Nat → Int32), isR E ad sL_2 b sM ((mG N P kp C n th J9)) → fr b st sL_2 → nP E ad sL_2 H → nD A ad sL_2 → va_S A s.heap H locs → lv_has ls 5 [(1, .int (nI (cnI (alP N) i))), (2, .int (nI (cnI (obP N) i))), (3, .int (nI i)), (0, .ref (ad b))] → W pg l en (nRm 7 166) s mi ar bw mth cd H locs 0 0 Q (F0 mi 6 ls []) := by
    intro k9
    induction k9 with
    | zero => intro i _ h9; exact absurd h9 (Nat.not_lt_zero _)
    | succ k9 ih6 =>
      intro i hi hk9 sL_2 H locs ls J9 hM hf hP hD hS hl
      refine lv_iload_n hx hb dX5_share_6 rfl (lv_at hl 2 rfl) ?_
      refine lv_bipush (v := 36) hx hb dX5_share_7 (by decide) ?_
      refine lv_icmp_ge (tgt := 56) hx hb dX5_share_9 (by decide) (fun c9_2 => ?_) (fun c9_2 => ?_)
      · have h36 : 36 ≤ i := (nI_geL (n := 36) rfl (by decide) (by omega)).mp c9_2
        obtain rfl : i = 36 := by omega
        refine lv_iload_n hx hb dX5_share_56 rfl (lv_at hl 0 rfl) ?_
        refine lv_if_ne (tgt := 64) hx hb dX5_share_57 (by decide) (fun c57_3 => ?_) (fun c57_3 => ?_)
        · have hz0 : ¬ aimC N = 0 := fun h9 => c57_3 (by rw [al_g hO, h9]; rfl)
          refine lv_iload_n hx hb dX5_share_64 rfl (lv_at hl 1 rfl) ?_
          refine lv_i2d hx hb dX5_share_65 ?_
          refine lv_iload_n hx hb dX5_share_66 rfl (lv_at hl 0 rfl) ?_
          refine lv_i2d hx hb dX5_share_67 ?_
          refine lv_ddiv hx hb dX5_share_68 (by rw [al_g hO, ob_g hO]; exact obV_ok hz0) ?_
          exact hret _ _ _ _ _ _ hP hD hS (⟨(by unfold obV; rw [if_neg hz0, al_g hO, ob_g hO]; rfl), ⟨J9, hM.eq (all14 rfl rfl rfl rfl rfl rfl rfl rfl rfl rfl rfl rfl rfl rfl)⟩, hf⟩) dX5_share_69
        · have hz0 : aimC N = 0 := (nI_eq (a := aimC N) (b := 0) (by have : aimC N ≤ 36 := cnI_le _ _; omega) (by omega)).mp (by rw [← al_g hO]; exact c57_3)
          refine lv_dconst1 hx hb dX5_share_60 ?_
          refine lv_goto (tgt := 69) hx hb dX5_share_61 (by decide) ?_
          exact hret _ _ _ _ _ _ hP hD hS (⟨(by unfold obV; rw [if_pos hz0]), ⟨J9, hM.eq (all14 rfl rfl rfl rfl rfl rfl rfl rfl rfl rfl rfl rfl rfl rfl)⟩, hf⟩) dX5_share_69
      · have hlt : i < 36 := by have := mt (nI_geL (n := 36) (i := i) rfl (by decide) (by omega)).mpr c9_2; omega
        refine lv_aload_n hx hb dX5_share_12 rfl (lv_at hl 3 rfl) ?_
        refine lv_aload_n hx hb dX5_share_13 rfl (lv_at hl 3 rfl) ?_
        refine rg (v := .ref (ad (b + 1 + 0))) (T := TX5) (N := 14) (C := RX5) hx hb hts hinX5 hown hK hP hM rfl 0 (by decide) (hts (.fieldLink RX5 7 "NeedleGridModel" "now" "[I") (by decide +kernel)) rfl dX5_share_14 ?_
        refine lv_iload_n hx hb dX5_share_17 rfl (lv_at hl 2 rfl) ?_
        refine nVi (As := [.ref (ad (b + 1 + 0)), .int (nI i)]) (rest := _) hx hb hml hown hts hP hK hD hZ hA hS ⟨Nat.zero_le _, Nat.zero_le _⟩ hM.1 rfl (m_away0 l E ad sL_2 b (mG N P kp C n th J9) hM i (by omega) hdB) (cwV 2 hts gX5_share_X5_away rfl rfl rfl (by decide +kernel) ⟨Nat.le_of_ble_eq_true rfl, Nat.le_of_ble_eq_true rfl⟩) hl.1 rfl (Nat.le_of_ble_eq_true rfl) dX5_share_18 (fun r_5 s_7 H locs hq hP hD hS => ?_)
        obtain ⟨hrr_5, hM, hf_6⟩ := hq
        have hrr_5 : r_5 = mAw N i := hrr_5
        have hf := hf.tr hf_6
        refine lv_istore (lv' := [(4, .int r_5), (1, .int (nI (cnI (alP N) i))), (2, .int (nI (cnI (obP N) i))), (3, .int (nI i)), (0, .ref (ad b))]) hx hb dX5_share_21 hl (by decide) rfl (fun ls hl => ?_)
        refine lv_iload_n hx hb dX5_share_23 rfl (lv_at hl 1 rfl) ?_
        refine lv_iload hx hb dX5_share_24 (lv_at hl 0 rfl) ?_
        refine lv_iconst (v := -1) hx hb dX5_share_26 (by decide) ?_
        refine lv_icmp_ne (tgt := 34) hx hb dX5_share_27 (by decide) (fun c27_7 => ?_) (fun c27_7 => ?_)
        · have hPa : (alP N) i = true := alP_t (by rw [← hrr_5]; exact c27_7)
          refine lv_iconst (v := 1) hx hb dX5_share_34 (by decide) ?_
          refine lv_iadd hx hb dX5_share_35 ?_
          rw [nI_1]
          refine lv_istore_n (lv' := [(1, .int (nI ((cnI (alP N) i) + 1))), (4, .int r_5), (2, .int (nI (cnI (obP N) i))), (3, .int (nI i)), (0, .ref (ad b))]) hx hb dX5_share_36 rfl hl (by decide) rfl (fun ls hl => ?_)
          refine lv_iload_n hx hb dX5_share_37 rfl (lv_at hl 2 rfl) ?_
          refine lv_iload hx hb dX5_share_38 (lv_at hl 1 rfl) ?_
          refine lv_if_ne (tgt := 47) hx hb dX5_share_40 (by decide) (fun c40_8 => ?_) (fun c40_8 => ?_)
          · have hPo : (obP N) i = false := obP_f (by rw [← hrr_5]; exact c40_8)
            refine lv_iconst (v := 0) hx hb dX5_share_47 (by decide) ?_
            refine lv_iadd hx hb dX5_share_48 ?_
            rw [show nI (cnI (obP N) i) + 0 = nI (cnI (obP N) i) from Int32.add_zero _]
            refine lv_istore_n (lv' := [(2, .int (nI (cnI (obP N) i))), (1, .int (nI ((cnI (alP N) i) + 1))), (4, .int r_5), (3, .int (nI i)), (0, .ref (ad b))]) hx hb dX5_share_49 rfl hl (by decide) rfl (fun ls hl => ?_)
            refine lv_iinc (v := nI (i + 1)) (lv' := [(3, .int (nI (i + 1))), (2, .int (nI (cnI (obP N) i))), (1, .int (nI ((cnI (alP N) i) + 1))), (4, .int r_5), (0, .ref (ad b))]) hx hb dX5_share_50 hl (k := 3) rfl (nI_1 _) (by decide) rfl (fun ls hl => ?_)
            refine lv_goto (tgt := 6) hx hb dX5_share_53 (by decide) ?_
            exact ih6 (i + 1) (by omega) (by omega) _ _ _ _ (gu (gu J9 12 (fun _ => LX N i)) 13 (fun _ => LY N i)) (hM.eq (all14 rfl rfl rfl rfl rfl rfl rfl rfl rfl rfl rfl rfl rfl rfl)) hf hP hD hS (by rw [cnI_t hPa, cnI_f hPo]; exact lv_sub hl [2, 1, 0, 4] rfl)
          · have hPo : (obP N) i = true := obP_t (by rw [← hrr_5]; exact c40_8)
            refine lv_iconst (v := 1) hx hb dX5_share_43 (by decide) ?_
            refine lv_goto (tgt := 48) hx hb dX5_share_44 (by decide) ?_
            refine lv_iadd hx hb dX5_share_48 ?_
            rw [nI_1]
            refine lv_istore_n (lv' := [(2, .int (nI ((cnI (obP N) i) + 1))), (1, .int (nI ((cnI (alP N) i) + 1))), (4, .int r_5), (3, .int (nI i)), (0, .ref (ad b))]) hx hb dX5_share_49 rfl hl (by decide) rfl (fun ls hl => ?_)
            refine lv_iinc (v := nI (i + 1)) (lv' := [(3, .int (nI (i + 1))), (2, .int (nI ((cnI (obP N) i) + 1))), (1, .int (nI ((cnI (alP N) i) + 1))), (4, .int r_5), (0, .ref (ad b))]) hx hb dX5_share_50 hl (k := 3) rfl (nI_1 _) (by decide) rfl (fun ls hl => ?_)
            refine lv_goto (tgt := 6) hx hb dX5_share_53 (by decide) ?_
            exact ih6 (i + 1) (by omega) (by omega) _ _ _ _ (gu (gu J9 12 (fun _ => LX N i)) 13 (fun _ => LY N i)) (hM.eq (all14 rfl rfl rfl rfl rfl rfl rfl rfl rfl rfl rfl rfl rfl rfl)) hf hP hD hS (by rw [cnI_t hPa, cnI_t hPo]; exact lv_sub hl [2, 1, 0, 4] rfl)
        · have hPa : (alP N) i = false := alP_f (by rw [← hrr_5]; exact c27_7)
          refine lv_iconst (v := 0) hx hb dX5_share_30 (by decide) ?_
          refine lv_goto (tgt := 35) hx hb dX5_share_31 (by decide) ?_
          refine lv_iadd hx hb dX5_share_35 ?_
          rw [show nI (cnI (alP N) i) + 0 = nI (cnI (alP N) i) from Int32.add_zero _]
          refine lv_istore_n (lv' := [(1, .int (nI (cnI (alP N) i))), (4, .int r_5), (2, .int (nI (cnI (obP N) i))), (3, .int (nI i)), (0, .ref (ad b))]) hx hb dX5_share_36 rfl hl (by decide) rfl (fun ls hl => ?_)
          refine lv_iload_n hx hb dX5_share_37 rfl (lv_at hl 2 rfl) ?_
          refine lv_iload hx hb dX5_share_38 (lv_at hl 1 rfl) ?_
          refine lv_if_ne (tgt := 47) hx hb dX5_share_40 (by decide) (fun c40_11 => ?_) (fun c40_11 => ?_)
          · have hPo : (obP N) i = false := obP_f (by rw [← hrr_5]; exact c40_11)
            refine lv_iconst (v := 0) hx hb dX5_share_47 (by decide) ?_
            refine lv_iadd hx hb dX5_share_48 ?_
            rw [show nI (cnI (obP N) i) + 0 = nI (cnI (obP N) i) from Int32.add_zero _]
            refine lv_istore_n (lv' := [(2, .int (nI (cnI (obP N) i))), (1, .int (nI (cnI (alP N) i))), (4, .int r_5), (3, .int (nI i)), (0, .ref (ad b))]) hx hb dX5_share_49 rfl hl (by decide) rfl (fun ls hl => ?_)
            refine lv_iinc (v := nI (i + 1)) (lv' := [(3, .int (nI (i + 1))), (2, .int (nI (cnI (obP N) i))), (1, .int (nI (cnI (alP N) i))), (4, .int r_5), (0, .ref (ad b))]) hx hb dX5_share_50 hl (k := 3) rfl (nI_1 _) (by decide) rfl (fun ls hl => ?_)
            refine lv_goto (tgt := 6) hx hb dX5_share_53 (by decide) ?_
            exact ih6 (i + 1) (by omega) (by omega) _ _ _ _ (gu (gu J9 12 (fun _ => LX N i)) 13 (fun _ => LY N i)) (hM.eq (all14 rfl rfl rfl rfl rfl rfl rfl rfl rfl rfl rfl rfl rfl rfl)) hf hP hD hS (by rw [cnI_f hPa, cnI_f hPo]; exact lv_sub hl [2, 1, 0, 4] rfl)
          · have hPo : (obP N) i = true := obP_t (by rw [← hrr_5]; exact c40_11)
            refine lv_iconst (v := 1) hx hb dX5_share_43 (by decide) ?_
            refine lv_goto (tgt := 48) hx hb dX5_share_44 (by decide) ?_
            refine lv_iadd hx hb dX5_share_48 ?_
            rw [nI_1]
            refine lv_istore_n (lv' := [(2, .int (nI ((cnI (obP N) i) + 1))), (1, .int (nI (cnI (alP N) i))), (4, .int r_5), (3, .int (nI i)), (0, .ref (ad b))]) hx hb dX5_share_49 rfl hl (by decide) rfl (fun ls hl => ?_)
            refine lv_iinc (v := nI (i + 1)) (lv' := [(3, .int (nI (i + 1))), (2, .int (nI ((cnI (obP N) i) + 1))), (1, .int (nI (cnI (alP N) i))), (4, .int r_5), (0, .ref (ad b))]) hx hb dX5_share_50 hl (k := 3) rfl (nI_1 _) (by decide) rfl (fun ls hl => ?_)
            refine lv_goto (tgt := 6) hx hb dX5_share_53 (by decide) ?_
            exact ih6 (i + 1) (by omega) (by omega) _ _ _ _ (gu (gu J9 12 (fun _ => LX N i)) 13 (fun _ => LY N i)) (hM.eq (all14 rfl rfl rfl rfl rfl rfl rfl rfl rfl rfl rfl rfl rfl rfl)) hf hP hD hS (by rw [cnI_f hPa, cnI_t hPo]; exact lv_sub hl [2, 1, 0, 4] rfl)
  exact LP_1 (36 + 1) 0 (Nat.zero_le _) (by omega) _ _ _ _ J (hM.eq (all14 rfl rfl rfl rfl rfl rfl rfl rfl rfl rfl rfl rfl rfl rfl)) hf hP hD hS (lv_sub hl [2, 1, 0, 3] rfl)

set_option maxHeartbeats 4000000 in
set_option maxRecDepth 100000 in
theorem m_cell (l : Launch) (E : NE) (ad : Nat → Nat) (st : NW) (b : Nat) (N P : Nat → Int32) (kp : Nat) (C : Nat → Int32) (n : Nat) (th : Int32) (J : Nat → Nat → Int32) (hkp : kp ≤ 6) (hn : n ≤ 60) (hO : okN N) (hM : isR E ad st b sM (mG N P kp C n th J)) (c w : Nat) (hc : c < 36) (hw : w < 8) : nMi l yX5_cell wsX5_cell (nRm 8 189) E ad st [.ref (ad b), .int (nI c), .int (nI w)] (fun r s1 => r = cellA N c w ∧ (∃ J1, isR E ad s1 b sM (mG N P kp C n 0 J1)) ∧ fr b st s1) := by
  refine nSi (cc := cX5_cell) (maxL := 3) (by decide) rfl (Nat.le_of_ble_eq_true rfl) ?_
  intro pg en s mi ar bw mth cd R Q A ls hx hb hml hown hts hRm hP hK hD hZ hA hl hret
  subst hRm
  have hown : s.vm.findClass RX5 = some mi.cls := hown
  have hS : va_S A s.heap s.heap [] := va_S.rf
  have hl : lv_has ls 3 [(0, .ref (ad b)), (1, .int (nI c)), (2, .int (nI w))] := hl
  have hf : fr b st st := fr.rf
  have hdB := hO.1.b
  have hinX5 : ∀ w ∈ wsX50, w ∈ wsX5_cell := by decide +kernel
  refine lv_aload_n hx hb dX5_cell_0 rfl (lv_at hl 0 rfl) ?_
  refine lv_iconst (v := 0) hx hb dX5_cell_1 (by decide) ?_
  refine rp (v := 0) (ty := .int) (T := TX5) (N := 14) (C := RX5) hx hb hts hinX5 tyX5 tyX5_ok nmX5 hown hK hP hD hS hM rfl 6 (by decide) (hts (.fieldLink RX5 28 "NeedleGridModel" "thrown" "I") (by decide +kernel)) rfl rfl (by decide +kernel) rfl rfl dX5_cell_2 (fun s_1 H locs hM hf_2 hP hD hS => ?_)
  have hf := hf.tr hf_2
  refine lv_iload_n hx hb dX5_cell_5 rfl (lv_at hl 1 rfl) ?_
  refine nS_i (As := [.int (nI c)]) (rest := _) hx hb hml hown hts hP hK hD hZ hA hS ⟨Nat.zero_le _, Nat.zero_le _⟩ (m_isCell l E ad s_1 (nI c)) (va_cwS 1 hts gX5_cell_X5_isCell rfl rfl rfl (by decide +kernel) ⟨Nat.le_of_ble_eq_true rfl, Nat.le_of_ble_eq_true rfl⟩) hl.1 rfl (Nat.le_of_ble_eq_true rfl) dX5_cell_6 (fun r_3 s_4 H locs hq hP hD hS => ?_)
  obtain ⟨rfl, rfl⟩ := hq
  refine lv_if_ne (tgt := 18) hx hb dX5_cell_9 (by decide) (fun c9_4 => ?_) (fun c9_4 => absurd c9_4 (cell_ok hc))
  refine lv_iload_n hx hb dX5_cell_18 rfl (lv_at hl 2 rfl) ?_
  refine lv_iconst (v := 0) hx hb dX5_cell_19 (by decide) ?_
  refine lv_bipush (v := 7) hx hb dX5_cell_20 (by decide) ?_
  refine nS_i (As := [.int (nI w), .int 0, .int 7]) (rest := _) hx hb hml hown hts hP hK hD hZ hA hS ⟨Nat.zero_le _, Nat.zero_le _⟩ (m_in l E ad s_1 (nI w) 0 7) (va_cwS 3 hts gX5_cell_X5_in rfl rfl rfl (by decide +kernel) ⟨Nat.le_of_ble_eq_true rfl, Nat.le_of_ble_eq_true rfl⟩) hl.1 rfl (Nat.le_of_ble_eq_true rfl) dX5_cell_22 (fun r_6 s_7 H locs hq hP hD hS => ?_)
  obtain ⟨rfl, rfl⟩ := hq
  refine lv_if_eq (tgt := 37) hx hb dX5_cell_25 (by decide) (fun c25_7 => absurd c25_7 (dir_ok hw)) (fun c25_7 => ?_)
  refine lv_aload_n hx hb dX5_cell_28 rfl (lv_at hl 0 rfl) ?_
  refine lv_iload_n hx hb dX5_cell_29 rfl (lv_at hl 1 rfl) ?_
  refine lv_iload_n hx hb dX5_cell_30 rfl (lv_at hl 2 rfl) ?_
  refine nVi (As := [.int (nI c), .int (nI w)]) (rest := _) hx hb hml hown hts hP hK hD hZ hA hS ⟨Nat.zero_le _, Nat.zero_le _⟩ hM.1 rfl (m_ofCell l E ad s_1 b N P kp C n 0 J hkp hn hO (hM.eq (all14 rfl rfl rfl rfl rfl rfl rfl rfl rfl rfl rfl rfl rfl rfl)) c w (by omega) (by omega)) (cwV 2 hts gX5_cell_X5_ofCell rfl rfl rfl (by decide +kernel) ⟨Nat.le_of_ble_eq_true rfl, Nat.le_of_ble_eq_true rfl⟩) hl.1 rfl (Nat.le_of_ble_eq_true rfl) dX5_cell_31 (fun r_9 s_12 H locs hq hP hD hS => ?_)
  obtain ⟨hrr_9, ⟨J_11, hM⟩, hf_10⟩ := hq
  have hf := hf.tr hf_10
  refine lv_goto (tgt := 42) hx hb dX5_cell_34 (by decide) ?_
  exact hret _ _ _ _ _ _ hP hD hS (⟨hrr_9, ⟨J_11, hM.eq (all14 rfl rfl rfl rfl rfl rfl rfl rfl rfl rfl rfl rfl rfl rfl)⟩, hf⟩) dX5_cell_42

set_option maxHeartbeats 4000000 in
set_option maxRecDepth 100000 in
theorem m_cell_c (l : Launch) (E : NE) (ad : Nat → Nat) (st : NW) (b : Nat) (N P : Nat → Int32) (kp : Nat) (C : Nat → Int32) (n : Nat) (th : Int32) (J : Nat → Nat → Int32) (hkp : kp ≤ 6) (hn : n ≤ 60) (hO : okN N) (hM : isR E ad st b sM (mG N P kp C n th J)) (v : Int32) (hbad : inI v 0 35 = 0) (w : Int32) : nMi l yX5_cell wsX5_cell (nRm 8 189) E ad st [.ref (ad b), .int v, .int w] (fun r s1 => r = 0 ∧ (∃ J1, isR E ad s1 b sM (mG N P kp C n 1 J1)) ∧ fr b st s1) := by
  refine nSi (cc := cX5_cell) (maxL := 3) (by decide) rfl (Nat.le_of_ble_eq_true rfl) ?_
  intro pg en s mi ar bw mth cd R Q A ls hx hb hml hown hts hRm hP hK hD hZ hA hl hret
  subst hRm
  have hown : s.vm.findClass RX5 = some mi.cls := hown
  have hS : va_S A s.heap s.heap [] := va_S.rf
  have hl : lv_has ls 3 [(0, .ref (ad b)), (1, .int v), (2, .int w)] := hl
  have hf : fr b st st := fr.rf
  have hdB := hO.1.b
  have hinX5 : ∀ w ∈ wsX50, w ∈ wsX5_cell := by decide +kernel
  refine lv_aload_n hx hb dX5_cell_0 rfl (lv_at hl 0 rfl) ?_
  refine lv_iconst (v := 0) hx hb dX5_cell_1 (by decide) ?_
  refine rp (v := 0) (ty := .int) (T := TX5) (N := 14) (C := RX5) hx hb hts hinX5 tyX5 tyX5_ok nmX5 hown hK hP hD hS hM rfl 6 (by decide) (hts (.fieldLink RX5 28 "NeedleGridModel" "thrown" "I") (by decide +kernel)) rfl rfl (by decide +kernel) rfl rfl dX5_cell_2 (fun s_1 H locs hM hf_2 hP hD hS => ?_)
  have hf := hf.tr hf_2
  refine lv_iload_n hx hb dX5_cell_5 rfl (lv_at hl 1 rfl) ?_
  refine nS_i (As := [.int v]) (rest := _) hx hb hml hown hts hP hK hD hZ hA hS ⟨Nat.zero_le _, Nat.zero_le _⟩ (m_isCell l E ad s_1 v) (va_cwS 1 hts gX5_cell_X5_isCell rfl rfl rfl (by decide +kernel) ⟨Nat.le_of_ble_eq_true rfl, Nat.le_of_ble_eq_true rfl⟩) hl.1 rfl (Nat.le_of_ble_eq_true rfl) dX5_cell_6 (fun r_3 s_4 H locs hq hP hD hS => ?_)
  obtain ⟨rfl, rfl⟩ := hq
  refine lv_if_ne (tgt := 18) hx hb dX5_cell_9 (by decide) (fun c9_4 => absurd hbad c9_4) (fun c9_4 => ?_)
  refine lv_aload_n hx hb dX5_cell_12 rfl (lv_at hl 0 rfl) ?_
  refine lv_iconst (v := 1) hx hb dX5_cell_13 (by decide) ?_
  refine nVi (As := [.int 1]) (rest := _) hx hb hml hown hts hP hK hD hZ hA hS ⟨Nat.zero_le _, Nat.zero_le _⟩ hM.1 rfl (m_fails l E ad s_1 b (gu (mG N P kp C n th J) 6 (fun _ => 0)) hM 1) (cwV 1 hts gX5_cell_X5_fails rfl rfl rfl (by decide +kernel) ⟨Nat.le_of_ble_eq_true rfl, Nat.le_of_ble_eq_true rfl⟩) hl.1 rfl (Nat.le_of_ble_eq_true rfl) dX5_cell_14 (fun r_6 s_8 H locs hq hP hD hS => ?_)
  obtain ⟨hrr_6, hM, hf_7⟩ := hq
  have hrr_6 : r_6 = 0 := hrr_6
  have hf := hf.tr hf_7
  have hM : isR E ad s_8 b sM (gu (mG N P kp C n th J) 6 (fun _ => 1)) := hM.eq (all14 rfl rfl rfl rfl rfl rfl rfl rfl rfl rfl rfl rfl rfl rfl)
  exact hret _ _ _ _ _ _ hP hD hS (⟨hrr_6, ⟨J, hM.eq (all14 rfl rfl rfl rfl rfl rfl rfl rfl rfl rfl rfl rfl rfl rfl)⟩, hf⟩) dX5_cell_17

set_option maxHeartbeats 4000000 in
set_option maxRecDepth 100000 in
theorem m_cell_w (l : Launch) (E : NE) (ad : Nat → Nat) (st : NW) (b : Nat) (N P : Nat → Int32) (kp : Nat) (C : Nat → Int32) (n : Nat) (th : Int32) (J : Nat → Nat → Int32) (hkp : kp ≤ 6) (hn : n ≤ 60) (hO : okN N) (hM : isR E ad st b sM (mG N P kp C n th J)) (c : Nat) (hc : c < 36) (v : Int32) (hbad : inI v 0 7 = 0) : nMi l yX5_cell wsX5_cell (nRm 8 189) E ad st [.ref (ad b), .int (nI c), .int v] (fun r s1 => r = 0 ∧ (∃ J1, isR E ad s1 b sM (mG N P kp C n 2 J1)) ∧ fr b st s1) := by
  refine nSi (cc := cX5_cell) (maxL := 3) (by decide) rfl (Nat.le_of_ble_eq_true rfl) ?_
  intro pg en s mi ar bw mth cd R Q A ls hx hb hml hown hts hRm hP hK hD hZ hA hl hret
  subst hRm
  have hown : s.vm.findClass RX5 = some mi.cls := hown
  have hS : va_S A s.heap s.heap [] := va_S.rf
  have hl : lv_has ls 3 [(0, .ref (ad b)), (1, .int (nI c)), (2, .int v)] := hl
  have hf : fr b st st := fr.rf
  have hdB := hO.1.b
  have hinX5 : ∀ w ∈ wsX50, w ∈ wsX5_cell := by decide +kernel
  refine lv_aload_n hx hb dX5_cell_0 rfl (lv_at hl 0 rfl) ?_
  refine lv_iconst (v := 0) hx hb dX5_cell_1 (by decide) ?_
  refine rp (v := 0) (ty := .int) (T := TX5) (N := 14) (C := RX5) hx hb hts hinX5 tyX5 tyX5_ok nmX5 hown hK hP hD hS hM rfl 6 (by decide) (hts (.fieldLink RX5 28 "NeedleGridModel" "thrown" "I") (by decide +kernel)) rfl rfl (by decide +kernel) rfl rfl dX5_cell_2 (fun s_1 H locs hM hf_2 hP hD hS => ?_)
  have hf := hf.tr hf_2
  refine lv_iload_n hx hb dX5_cell_5 rfl (lv_at hl 1 rfl) ?_
  refine nS_i (As := [.int (nI c)]) (rest := _) hx hb hml hown hts hP hK hD hZ hA hS ⟨Nat.zero_le _, Nat.zero_le _⟩ (m_isCell l E ad s_1 (nI c)) (va_cwS 1 hts gX5_cell_X5_isCell rfl rfl rfl (by decide +kernel) ⟨Nat.le_of_ble_eq_true rfl, Nat.le_of_ble_eq_true rfl⟩) hl.1 rfl (Nat.le_of_ble_eq_true rfl) dX5_cell_6 (fun r_3 s_4 H locs hq hP hD hS => ?_)
  obtain ⟨rfl, rfl⟩ := hq
  refine lv_if_ne (tgt := 18) hx hb dX5_cell_9 (by decide) (fun c9_4 => ?_) (fun c9_4 => absurd c9_4 (cell_ok hc))
  refine lv_iload_n hx hb dX5_cell_18 rfl (lv_at hl 2 rfl) ?_
  refine lv_iconst (v := 0) hx hb dX5_cell_19 (by decide) ?_
  refine lv_bipush (v := 7) hx hb dX5_cell_20 (by decide) ?_
  refine nS_i (As := [.int v, .int 0, .int 7]) (rest := _) hx hb hml hown hts hP hK hD hZ hA hS ⟨Nat.zero_le _, Nat.zero_le _⟩ (m_in l E ad s_1 v 0 7) (va_cwS 3 hts gX5_cell_X5_in rfl rfl rfl (by decide +kernel) ⟨Nat.le_of_ble_eq_true rfl, Nat.le_of_ble_eq_true rfl⟩) hl.1 rfl (Nat.le_of_ble_eq_true rfl) dX5_cell_22 (fun r_6 s_7 H locs hq hP hD hS => ?_)
  obtain ⟨rfl, rfl⟩ := hq
  refine lv_if_eq (tgt := 37) hx hb dX5_cell_25 (by decide) (fun c25_7 => ?_) (fun c25_7 => absurd hbad c25_7)
  refine lv_aload_n hx hb dX5_cell_37 rfl (lv_at hl 0 rfl) ?_
  refine lv_iconst (v := 2) hx hb dX5_cell_38 (by decide) ?_
  refine nVi (As := [.int 2]) (rest := _) hx hb hml hown hts hP hK hD hZ hA hS ⟨Nat.zero_le _, Nat.zero_le _⟩ hM.1 rfl (m_fails l E ad s_1 b (gu (mG N P kp C n th J) 6 (fun _ => 0)) hM 2) (cwV 1 hts gX5_cell_X5_fails rfl rfl rfl (by decide +kernel) ⟨Nat.le_of_ble_eq_true rfl, Nat.le_of_ble_eq_true rfl⟩) hl.1 rfl (Nat.le_of_ble_eq_true rfl) dX5_cell_39 (fun r_9 s_11 H locs hq hP hD hS => ?_)
  obtain ⟨hrr_9, hM, hf_10⟩ := hq
  have hrr_9 : r_9 = 0 := hrr_9
  have hf := hf.tr hf_10
  have hM : isR E ad s_11 b sM (gu (mG N P kp C n th J) 6 (fun _ => 2)) := hM.eq (all14 rfl rfl rfl rfl rfl rfl rfl rfl rfl rfl rfl rfl rfl rfl)
  exact hret _ _ _ _ _ _ hP hD hS (⟨hrr_9, ⟨J, hM.eq (all14 rfl rfl rfl rfl rfl rfl rfl rfl rfl rfl rfl rfl rfl rfl)⟩, hf⟩) dX5_cell_42

set_option maxHeartbeats 4000000 in
set_option maxRecDepth 100000 in
theorem m_barOf (l : Launch) (E : NE) (ad : Nat → Nat) (st : NW) (b : Nat) (N P : Nat → Int32) (kp : Nat) (C : Nat → Int32) (n : Nat) (th : Int32) (J : Nat → Nat → Int32) (hkp : kp ≤ 6) (hn : n ≤ 60) (hO : okN N) (hM : isR E ad st b sM (mG N P kp C n th J)) (pl : Int32) (w : Nat) (h1 : ¬ pl < 0) (hw : w < 3) : nMi l yX5_barOf wsX5_barOf (nRm 1 24) E ad st [.ref (ad b), .int pl, .int (nI w)] (fun r s1 => r = barA N pl w ∧ (∃ J1, isR E ad s1 b sM (mG N P kp C n 0 J1)) ∧ fr b st s1) := by
  refine nSi (cc := cX5_barOf) (maxL := 3) (by decide) rfl (Nat.le_of_ble_eq_true rfl) ?_
  intro pg en s mi ar bw mth cd R Q A ls hx hb hml hown hts hRm hP hK hD hZ hA hl hret
  subst hRm
  have hown : s.vm.findClass RX5 = some mi.cls := hown
  have hS : va_S A s.heap s.heap [] := va_S.rf
  have hl : lv_has ls 3 [(0, .ref (ad b)), (1, .int pl), (2, .int (nI w))] := hl
  have hf : fr b st st := fr.rf
  have hdB := hO.1.b
  have hinX5 : ∀ w ∈ wsX50, w ∈ wsX5_barOf := by decide +kernel
  refine lv_aload_n hx hb dX5_barOf_0 rfl (lv_at hl 0 rfl) ?_
  refine lv_iconst (v := 0) hx hb dX5_barOf_1 (by decide) ?_
  refine rp (v := 0) (ty := .int) (T := TX5) (N := 14) (C := RX5) hx hb hts hinX5 tyX5 tyX5_ok nmX5 hown hK hP hD hS hM rfl 6 (by decide) (hts (.fieldLink RX5 28 "NeedleGridModel" "thrown" "I") (by decide +kernel)) rfl rfl (by decide +kernel) rfl rfl dX5_barOf_2 (fun s_1 H locs hM hf_2 hP hD hS => ?_)
  have hf := hf.tr hf_2
  refine lv_iload_n hx hb dX5_barOf_5 rfl (lv_at hl 1 rfl) ?_
  refine lv_if_lt (tgt := 27) hx hb dX5_barOf_6 (by decide) (fun c6_2 => absurd c6_2 h1) (fun c6_2 => ?_)
  refine lv_iload_n hx hb dX5_barOf_9 rfl (lv_at hl 2 rfl) ?_
  refine lv_iconst (v := 0) hx hb dX5_barOf_10 (by decide) ?_
  refine lv_iconst (v := 2) hx hb dX5_barOf_11 (by decide) ?_
  refine nS_i (As := [.int (nI w), .int 0, .int 2]) (rest := _) hx hb hml hown hts hP hK hD hZ hA hS ⟨Nat.zero_le _, Nat.zero_le _⟩ (m_in l E ad s_1 (nI w) 0 2) (va_cwS 3 hts gX5_barOf_X5_in rfl rfl rfl (by decide +kernel) ⟨Nat.le_of_ble_eq_true rfl, Nat.le_of_ble_eq_true rfl⟩) hl.1 rfl (Nat.le_of_ble_eq_true rfl) dX5_barOf_12 (fun r_4 s_5 H locs hq hP hD hS => ?_)
  obtain ⟨rfl, rfl⟩ := hq
  refine lv_if_eq (tgt := 27) hx hb dX5_barOf_15 (by decide) (fun c15_5 => absurd c15_5 (inI_n (b := 2) rfl (by omega) (by decide))) (fun c15_5 => ?_)
  refine lv_aload_n hx hb dX5_barOf_18 rfl (lv_at hl 0 rfl) ?_
  refine lv_iload_n hx hb dX5_barOf_19 rfl (lv_at hl 1 rfl) ?_
  refine lv_iload_n hx hb dX5_barOf_20 rfl (lv_at hl 2 rfl) ?_
  refine nVi (As := [.int pl, .int (nI w)]) (rest := _) hx hb hml hown hts hP hK hD hZ hA hS ⟨Nat.zero_le _, Nat.zero_le _⟩ hM.1 rfl (m_ofBar l E ad s_1 b N P kp C n 0 J hkp hn hO (hM.eq (all14 rfl rfl rfl rfl rfl rfl rfl rfl rfl rfl rfl rfl rfl rfl)) pl w (by omega)) (cwV 2 hts gX5_barOf_X5_ofBar rfl rfl rfl (by decide +kernel) ⟨Nat.le_of_ble_eq_true rfl, Nat.le_of_ble_eq_true rfl⟩) hl.1 rfl (Nat.le_of_ble_eq_true rfl) dX5_barOf_21 (fun r_7 s_10 H locs hq hP hD hS => ?_)
  obtain ⟨hrr_7, ⟨J_9, hM⟩, hf_8⟩ := hq
  have hf := hf.tr hf_8
  refine lv_goto (tgt := 32) hx hb dX5_barOf_24 (by decide) ?_
  exact hret _ _ _ _ _ _ hP hD hS (⟨hrr_7, ⟨J_9, hM.eq (all14 rfl rfl rfl rfl rfl rfl rfl rfl rfl rfl rfl rfl rfl rfl)⟩, hf⟩) dX5_barOf_32

set_option maxHeartbeats 4000000 in
set_option maxRecDepth 100000 in
theorem m_barOf_p (l : Launch) (E : NE) (ad : Nat → Nat) (st : NW) (b : Nat) (N P : Nat → Int32) (kp : Nat) (C : Nat → Int32) (n : Nat) (th : Int32) (J : Nat → Nat → Int32) (hkp : kp ≤ 6) (hn : n ≤ 60) (hO : okN N) (hM : isR E ad st b sM (mG N P kp C n th J)) (v w : Int32) (hbad : v < 0) : nMi l yX5_barOf wsX5_barOf (nRm 1 24) E ad st [.ref (ad b), .int v, .int w] (fun r s1 => r = 0 ∧ (∃ J1, isR E ad s1 b sM (mG N P kp C n 1 J1)) ∧ fr b st s1) := by
  refine nSi (cc := cX5_barOf) (maxL := 3) (by decide) rfl (Nat.le_of_ble_eq_true rfl) ?_
  intro pg en s mi ar bw mth cd R Q A ls hx hb hml hown hts hRm hP hK hD hZ hA hl hret
  subst hRm
  have hown : s.vm.findClass RX5 = some mi.cls := hown
  have hS : va_S A s.heap s.heap [] := va_S.rf
  have hl : lv_has ls 3 [(0, .ref (ad b)), (1, .int v), (2, .int w)] := hl
  have hf : fr b st st := fr.rf
  have hdB := hO.1.b
  have hinX5 : ∀ w ∈ wsX50, w ∈ wsX5_barOf := by decide +kernel
  refine lv_aload_n hx hb dX5_barOf_0 rfl (lv_at hl 0 rfl) ?_
  refine lv_iconst (v := 0) hx hb dX5_barOf_1 (by decide) ?_
  refine rp (v := 0) (ty := .int) (T := TX5) (N := 14) (C := RX5) hx hb hts hinX5 tyX5 tyX5_ok nmX5 hown hK hP hD hS hM rfl 6 (by decide) (hts (.fieldLink RX5 28 "NeedleGridModel" "thrown" "I") (by decide +kernel)) rfl rfl (by decide +kernel) rfl rfl dX5_barOf_2 (fun s_1 H locs hM hf_2 hP hD hS => ?_)
  have hf := hf.tr hf_2
  refine lv_iload_n hx hb dX5_barOf_5 rfl (lv_at hl 1 rfl) ?_
  refine lv_if_lt (tgt := 27) hx hb dX5_barOf_6 (by decide) (fun c6_2 => ?_) (fun c6_2 => absurd hbad c6_2)
  refine lv_aload_n hx hb dX5_barOf_27 rfl (lv_at hl 0 rfl) ?_
  refine lv_iconst (v := 1) hx hb dX5_barOf_28 (by decide) ?_
  refine nVi (As := [.int 1]) (rest := _) hx hb hml hown hts hP hK hD hZ hA hS ⟨Nat.zero_le _, Nat.zero_le _⟩ hM.1 rfl (m_fails l E ad s_1 b (gu (mG N P kp C n th J) 6 (fun _ => 0)) hM 1) (cwV 1 hts gX5_barOf_X5_fails rfl rfl rfl (by decide +kernel) ⟨Nat.le_of_ble_eq_true rfl, Nat.le_of_ble_eq_true rfl⟩) hl.1 rfl (Nat.le_of_ble_eq_true rfl) dX5_barOf_29 (fun r_4 s_6 H locs hq hP hD hS => ?_)
  obtain ⟨hrr_4, hM, hf_5⟩ := hq
  have hrr_4 : r_4 = 0 := hrr_4
  have hf := hf.tr hf_5
  have hM : isR E ad s_6 b sM (gu (mG N P kp C n th J) 6 (fun _ => 1)) := hM.eq (all14 rfl rfl rfl rfl rfl rfl rfl rfl rfl rfl rfl rfl rfl rfl)
  exact hret _ _ _ _ _ _ hP hD hS (⟨hrr_4, ⟨J, hM.eq (all14 rfl rfl rfl rfl rfl rfl rfl rfl rfl rfl rfl rfl rfl rfl)⟩, hf⟩) dX5_barOf_32

set_option maxHeartbeats 4000000 in
set_option maxRecDepth 100000 in
theorem m_barOf_w (l : Launch) (E : NE) (ad : Nat → Nat) (st : NW) (b : Nat) (N P : Nat → Int32) (kp : Nat) (C : Nat → Int32) (n : Nat) (th : Int32) (J : Nat → Nat → Int32) (hkp : kp ≤ 6) (hn : n ≤ 60) (hO : okN N) (hM : isR E ad st b sM (mG N P kp C n th J)) (pl v : Int32) (h1 : ¬ pl < 0) (hbad : inI v 0 2 = 0) : nMi l yX5_barOf wsX5_barOf (nRm 1 24) E ad st [.ref (ad b), .int pl, .int v] (fun r s1 => r = 0 ∧ (∃ J1, isR E ad s1 b sM (mG N P kp C n 1 J1)) ∧ fr b st s1) := by
  refine nSi (cc := cX5_barOf) (maxL := 3) (by decide) rfl (Nat.le_of_ble_eq_true rfl) ?_
  intro pg en s mi ar bw mth cd R Q A ls hx hb hml hown hts hRm hP hK hD hZ hA hl hret
  subst hRm
  have hown : s.vm.findClass RX5 = some mi.cls := hown
  have hS : va_S A s.heap s.heap [] := va_S.rf
  have hl : lv_has ls 3 [(0, .ref (ad b)), (1, .int pl), (2, .int v)] := hl
  have hf : fr b st st := fr.rf
  have hdB := hO.1.b
  have hinX5 : ∀ w ∈ wsX50, w ∈ wsX5_barOf := by decide +kernel
  refine lv_aload_n hx hb dX5_barOf_0 rfl (lv_at hl 0 rfl) ?_
  refine lv_iconst (v := 0) hx hb dX5_barOf_1 (by decide) ?_
  refine rp (v := 0) (ty := .int) (T := TX5) (N := 14) (C := RX5) hx hb hts hinX5 tyX5 tyX5_ok nmX5 hown hK hP hD hS hM rfl 6 (by decide) (hts (.fieldLink RX5 28 "NeedleGridModel" "thrown" "I") (by decide +kernel)) rfl rfl (by decide +kernel) rfl rfl dX5_barOf_2 (fun s_1 H locs hM hf_2 hP hD hS => ?_)
  have hf := hf.tr hf_2
  refine lv_iload_n hx hb dX5_barOf_5 rfl (lv_at hl 1 rfl) ?_
  refine lv_if_lt (tgt := 27) hx hb dX5_barOf_6 (by decide) (fun c6_2 => absurd c6_2 h1) (fun c6_2 => ?_)
  refine lv_iload_n hx hb dX5_barOf_9 rfl (lv_at hl 2 rfl) ?_
  refine lv_iconst (v := 0) hx hb dX5_barOf_10 (by decide) ?_
  refine lv_iconst (v := 2) hx hb dX5_barOf_11 (by decide) ?_
  refine nS_i (As := [.int v, .int 0, .int 2]) (rest := _) hx hb hml hown hts hP hK hD hZ hA hS ⟨Nat.zero_le _, Nat.zero_le _⟩ (m_in l E ad s_1 v 0 2) (va_cwS 3 hts gX5_barOf_X5_in rfl rfl rfl (by decide +kernel) ⟨Nat.le_of_ble_eq_true rfl, Nat.le_of_ble_eq_true rfl⟩) hl.1 rfl (Nat.le_of_ble_eq_true rfl) dX5_barOf_12 (fun r_4 s_5 H locs hq hP hD hS => ?_)
  obtain ⟨rfl, rfl⟩ := hq
  refine lv_if_eq (tgt := 27) hx hb dX5_barOf_15 (by decide) (fun c15_5 => ?_) (fun c15_5 => absurd hbad c15_5)
  refine lv_aload_n hx hb dX5_barOf_27 rfl (lv_at hl 0 rfl) ?_
  refine lv_iconst (v := 1) hx hb dX5_barOf_28 (by decide) ?_
  refine nVi (As := [.int 1]) (rest := _) hx hb hml hown hts hP hK hD hZ hA hS ⟨Nat.zero_le _, Nat.zero_le _⟩ hM.1 rfl (m_fails l E ad s_1 b (gu (mG N P kp C n th J) 6 (fun _ => 0)) hM 1) (cwV 1 hts gX5_barOf_X5_fails rfl rfl rfl (by decide +kernel) ⟨Nat.le_of_ble_eq_true rfl, Nat.le_of_ble_eq_true rfl⟩) hl.1 rfl (Nat.le_of_ble_eq_true rfl) dX5_barOf_29 (fun r_7 s_9 H locs hq hP hD hS => ?_)
  obtain ⟨hrr_7, hM, hf_8⟩ := hq
  have hrr_7 : r_7 = 0 := hrr_7
  have hf := hf.tr hf_8
  have hM : isR E ad s_9 b sM (gu (mG N P kp C n th J) 6 (fun _ => 1)) := hM.eq (all14 rfl rfl rfl rfl rfl rfl rfl rfl rfl rfl rfl rfl rfl rfl)
  exact hret _ _ _ _ _ _ hP hD hS (⟨hrr_7, ⟨J, hM.eq (all14 rfl rfl rfl rfl rfl rfl rfl rfl rfl rfl rfl rfl rfl rfl)⟩, hf⟩) dX5_barOf_32

set_option maxHeartbeats 4000000 in
set_option maxRecDepth 100000 in
theorem m_count (l : Launch) (E : NE) (ad : Nat → Nat) (st : NW) (b : Nat) (N P : Nat → Int32) (kp : Nat) (C : Nat → Int32) (n : Nat) (th : Int32) (J : Nat → Nat → Int32) (hkp : kp ≤ 6) (hn : n ≤ 60) (hO : okN N) (hM : isR E ad st b sM (mG N P kp C n th J)) (w : Nat) (hw : w < 9) : nMi l yX5_count wsX5_count (nRm 9 213) E ad st [.ref (ad b), .int (nI w)] (fun r s1 => r = cntA N kp w ∧ (∃ J1, isR E ad s1 b sM (mG N P kp C n 0 J1)) ∧ fr b st s1) := by
  refine nSi (cc := cX5_count) (maxL := 2) (by decide) rfl (Nat.le_of_ble_eq_true rfl) ?_
  intro pg en s mi ar bw mth cd R Q A ls hx hb hml hown hts hRm hP hK hD hZ hA hl hret
  subst hRm
  have hown : s.vm.findClass RX5 = some mi.cls := hown
  have hS : va_S A s.heap s.heap [] := va_S.rf
  have hl : lv_has ls 2 [(0, .ref (ad b)), (1, .int (nI w))] := hl
  have hf : fr b st st := fr.rf
  have hdB := hO.1.b
  have hinX5 : ∀ w ∈ wsX50, w ∈ wsX5_count := by decide +kernel
  refine lv_aload_n hx hb dX5_count_0 rfl (lv_at hl 0 rfl) ?_
  refine lv_iconst (v := 0) hx hb dX5_count_1 (by decide) ?_
  refine rp (v := 0) (ty := .int) (T := TX5) (N := 14) (C := RX5) hx hb hts hinX5 tyX5 tyX5_ok nmX5 hown hK hP hD hS hM rfl 6 (by decide) (hts (.fieldLink RX5 28 "NeedleGridModel" "thrown" "I") (by decide +kernel)) rfl rfl (by decide +kernel) rfl rfl dX5_count_2 (fun s_1 H locs hM hf_2 hP hD hS => ?_)
  have hf := hf.tr hf_2
  refine lv_iload_n hx hb dX5_count_5 rfl (lv_at hl 1 rfl) ?_
  refine lv_iconst (v := 0) hx hb dX5_count_6 (by decide) ?_
  refine lv_bipush (v := 8) hx hb dX5_count_7 (by decide) ?_
  refine nS_i (As := [.int (nI w), .int 0, .int 8]) (rest := _) hx hb hml hown hts hP hK hD hZ hA hS ⟨Nat.zero_le _, Nat.zero_le _⟩ (m_in l E ad s_1 (nI w) 0 8) (va_cwS 3 hts gX5_count_X5_in rfl rfl rfl (by decide +kernel) ⟨Nat.le_of_ble_eq_true rfl, Nat.le_of_ble_eq_true rfl⟩) hl.1 rfl (Nat.le_of_ble_eq_true rfl) dX5_count_9 (fun r_3 s_4 H locs hq hP hD hS => ?_)
  obtain ⟨rfl, rfl⟩ := hq
  refine lv_if_eq (tgt := 23) hx hb dX5_count_12 (by decide) (fun c12_4 => absurd c12_4 (inI_n (b := 8) rfl (by omega) (by decide))) (fun c12_4 => ?_)
  refine lv_aload_n hx hb dX5_count_15 rfl (lv_at hl 0 rfl) ?_
  refine lv_iload_n hx hb dX5_count_16 rfl (lv_at hl 1 rfl) ?_
  refine nVi (As := [.int (nI w)]) (rest := _) hx hb hml hown hts hP hK hD hZ hA hS ⟨Nat.zero_le _, Nat.zero_le _⟩ hM.1 rfl (m_counted l E ad s_1 b N P kp C n 0 J hkp hn hO (hM.eq (all14 rfl rfl rfl rfl rfl rfl rfl rfl rfl rfl rfl rfl rfl rfl)) w (by omega)) (cwV 1 hts gX5_count_X5_counted rfl rfl rfl (by decide +kernel) ⟨Nat.le_of_ble_eq_true rfl, Nat.le_of_ble_eq_true rfl⟩) hl.1 rfl (Nat.le_of_ble_eq_true rfl) dX5_count_17 (fun r_6 s_9 H locs hq hP hD hS => ?_)
  obtain ⟨hrr_6, ⟨J_8, hM⟩, hf_7⟩ := hq
  have hf := hf.tr hf_7
  refine lv_goto (tgt := 28) hx hb dX5_count_20 (by decide) ?_
  exact hret _ _ _ _ _ _ hP hD hS (⟨hrr_6, ⟨J_8, hM.eq (all14 rfl rfl rfl rfl rfl rfl rfl rfl rfl rfl rfl rfl rfl rfl)⟩, hf⟩) dX5_count_28

set_option maxHeartbeats 4000000 in
set_option maxRecDepth 100000 in
theorem m_count_w (l : Launch) (E : NE) (ad : Nat → Nat) (st : NW) (b : Nat) (N P : Nat → Int32) (kp : Nat) (C : Nat → Int32) (n : Nat) (th : Int32) (J : Nat → Nat → Int32) (hkp : kp ≤ 6) (hn : n ≤ 60) (hO : okN N) (hM : isR E ad st b sM (mG N P kp C n th J)) (v : Int32) (hbad : inI v 0 8 = 0) : nMi l yX5_count wsX5_count (nRm 9 213) E ad st [.ref (ad b), .int v] (fun r s1 => r = 0 ∧ (∃ J1, isR E ad s1 b sM (mG N P kp C n 1 J1)) ∧ fr b st s1) := by
  refine nSi (cc := cX5_count) (maxL := 2) (by decide) rfl (Nat.le_of_ble_eq_true rfl) ?_
  intro pg en s mi ar bw mth cd R Q A ls hx hb hml hown hts hRm hP hK hD hZ hA hl hret
  subst hRm
  have hown : s.vm.findClass RX5 = some mi.cls := hown
  have hS : va_S A s.heap s.heap [] := va_S.rf
  have hl : lv_has ls 2 [(0, .ref (ad b)), (1, .int v)] := hl
  have hf : fr b st st := fr.rf
  have hdB := hO.1.b
  have hinX5 : ∀ w ∈ wsX50, w ∈ wsX5_count := by decide +kernel
  refine lv_aload_n hx hb dX5_count_0 rfl (lv_at hl 0 rfl) ?_
  refine lv_iconst (v := 0) hx hb dX5_count_1 (by decide) ?_
  refine rp (v := 0) (ty := .int) (T := TX5) (N := 14) (C := RX5) hx hb hts hinX5 tyX5 tyX5_ok nmX5 hown hK hP hD hS hM rfl 6 (by decide) (hts (.fieldLink RX5 28 "NeedleGridModel" "thrown" "I") (by decide +kernel)) rfl rfl (by decide +kernel) rfl rfl dX5_count_2 (fun s_1 H locs hM hf_2 hP hD hS => ?_)
  have hf := hf.tr hf_2
  refine lv_iload_n hx hb dX5_count_5 rfl (lv_at hl 1 rfl) ?_
  refine lv_iconst (v := 0) hx hb dX5_count_6 (by decide) ?_
  refine lv_bipush (v := 8) hx hb dX5_count_7 (by decide) ?_
  refine nS_i (As := [.int v, .int 0, .int 8]) (rest := _) hx hb hml hown hts hP hK hD hZ hA hS ⟨Nat.zero_le _, Nat.zero_le _⟩ (m_in l E ad s_1 v 0 8) (va_cwS 3 hts gX5_count_X5_in rfl rfl rfl (by decide +kernel) ⟨Nat.le_of_ble_eq_true rfl, Nat.le_of_ble_eq_true rfl⟩) hl.1 rfl (Nat.le_of_ble_eq_true rfl) dX5_count_9 (fun r_3 s_4 H locs hq hP hD hS => ?_)
  obtain ⟨rfl, rfl⟩ := hq
  refine lv_if_eq (tgt := 23) hx hb dX5_count_12 (by decide) (fun c12_4 => ?_) (fun c12_4 => absurd hbad c12_4)
  refine lv_aload_n hx hb dX5_count_23 rfl (lv_at hl 0 rfl) ?_
  refine lv_iconst (v := 1) hx hb dX5_count_24 (by decide) ?_
  refine nVi (As := [.int 1]) (rest := _) hx hb hml hown hts hP hK hD hZ hA hS ⟨Nat.zero_le _, Nat.zero_le _⟩ hM.1 rfl (m_fails l E ad s_1 b (gu (mG N P kp C n th J) 6 (fun _ => 0)) hM 1) (cwV 1 hts gX5_count_X5_fails rfl rfl rfl (by decide +kernel) ⟨Nat.le_of_ble_eq_true rfl, Nat.le_of_ble_eq_true rfl⟩) hl.1 rfl (Nat.le_of_ble_eq_true rfl) dX5_count_25 (fun r_6 s_8 H locs hq hP hD hS => ?_)
  obtain ⟨hrr_6, hM, hf_7⟩ := hq
  have hrr_6 : r_6 = 0 := hrr_6
  have hf := hf.tr hf_7
  have hM : isR E ad s_8 b sM (gu (mG N P kp C n th J) 6 (fun _ => 1)) := hM.eq (all14 rfl rfl rfl rfl rfl rfl rfl rfl rfl rfl rfl rfl rfl rfl)
  exact hret _ _ _ _ _ _ hP hD hS (⟨hrr_6, ⟨J, hM.eq (all14 rfl rfl rfl rfl rfl rfl rfl rfl rfl rfl rfl rfl rfl rfl)⟩, hf⟩) dX5_count_28

set_option maxHeartbeats 4000000 in
set_option maxRecDepth 100000 in
theorem m_pointing (l : Launch) (E : NE) (ad : Nat → Nat) (st : NW) (b : Nat) (N P : Nat → Int32) (kp : Nat) (C : Nat → Int32) (n : Nat) (th : Int32) (J : Nat → Nat → Int32) (hkp : kp ≤ 6) (hn : n ≤ 60) (hO : okN N) (hM : isR E ad st b sM (mG N P kp C n th J)) (d : Nat) (hd : d < 8) : nMi l yX5_pointing wsX5_pointing (nRm 2 42) E ad st [.ref (ad b), .int (nI d)] (fun r s1 => r = pntA N d ∧ (∃ J1, isR E ad s1 b sM (mG N P kp C n 0 J1)) ∧ fr b st s1) := by
  refine nSi (cc := cX5_pointing) (maxL := 2) (by decide) rfl (Nat.le_of_ble_eq_true rfl) ?_
  intro pg en s mi ar bw mth cd R Q A ls hx hb hml hown hts hRm hP hK hD hZ hA hl hret
  subst hRm
  have hown : s.vm.findClass RX5 = some mi.cls := hown
  have hS : va_S A s.heap s.heap [] := va_S.rf
  have hl : lv_has ls 2 [(0, .ref (ad b)), (1, .int (nI d))] := hl
  have hf : fr b st st := fr.rf
  have hdB := hO.1.b
  have hinX5 : ∀ w ∈ wsX50, w ∈ wsX5_pointing := by decide +kernel
  refine lv_aload_n hx hb dX5_pointing_0 rfl (lv_at hl 0 rfl) ?_
  refine lv_iconst (v := 0) hx hb dX5_pointing_1 (by decide) ?_
  refine rp (v := 0) (ty := .int) (T := TX5) (N := 14) (C := RX5) hx hb hts hinX5 tyX5 tyX5_ok nmX5 hown hK hP hD hS hM rfl 6 (by decide) (hts (.fieldLink RX5 28 "NeedleGridModel" "thrown" "I") (by decide +kernel)) rfl rfl (by decide +kernel) rfl rfl dX5_pointing_2 (fun s_1 H locs hM hf_2 hP hD hS => ?_)
  have hf := hf.tr hf_2
  refine lv_iload_n hx hb dX5_pointing_5 rfl (lv_at hl 1 rfl) ?_
  refine nS_i (As := [.int (nI d)]) (rest := _) hx hb hml hown hts hP hK hD hZ hA hS ⟨Nat.zero_le _, Nat.zero_le _⟩ (m_isDirection l E ad s_1 (nI d)) (va_cwS 1 hts gX5_pointing_X5_isDirection rfl rfl rfl (by decide +kernel) ⟨Nat.le_of_ble_eq_true rfl, Nat.le_of_ble_eq_true rfl⟩) hl.1 rfl (Nat.le_of_ble_eq_true rfl) dX5_pointing_6 (fun r_3 s_4 H locs hq hP hD hS => ?_)
  obtain ⟨rfl, rfl⟩ := hq
  refine lv_if_eq (tgt := 20) hx hb dX5_pointing_9 (by decide) (fun c9_4 => absurd c9_4 (dir_ok hd)) (fun c9_4 => ?_)
  refine lv_aload_n hx hb dX5_pointing_12 rfl (lv_at hl 0 rfl) ?_
  refine lv_iload_n hx hb dX5_pointing_13 rfl (lv_at hl 1 rfl) ?_
  refine nVi (As := [.int (nI d)]) (rest := _) hx hb hml hown hts hP hK hD hZ hA hS ⟨Nat.zero_le _, Nat.zero_le _⟩ hM.1 rfl (m_towards l E ad s_1 b N P kp C n 0 J hkp hn hO (hM.eq (all14 rfl rfl rfl rfl rfl rfl rfl rfl rfl rfl rfl rfl rfl rfl)) d (by omega)) (cwV 1 hts gX5_pointing_X5_towards rfl rfl rfl (by decide +kernel) ⟨Nat.le_of_ble_eq_true rfl, Nat.le_of_ble_eq_true rfl⟩) hl.1 rfl (Nat.le_of_ble_eq_true rfl) dX5_pointing_14 (fun r_6 s_9 H locs hq hP hD hS => ?_)
  obtain ⟨hrr_6, ⟨J_8, hM⟩, hf_7⟩ := hq
  have hf := hf.tr hf_7
  refine lv_goto (tgt := 25) hx hb dX5_pointing_17 (by decide) ?_
  exact hret _ _ _ _ _ _ hP hD hS (⟨hrr_6, ⟨J_8, hM.eq (all14 rfl rfl rfl rfl rfl rfl rfl rfl rfl rfl rfl rfl rfl rfl)⟩, hf⟩) dX5_pointing_25

set_option maxHeartbeats 4000000 in
set_option maxRecDepth 100000 in
theorem m_pointing_d (l : Launch) (E : NE) (ad : Nat → Nat) (st : NW) (b : Nat) (N P : Nat → Int32) (kp : Nat) (C : Nat → Int32) (n : Nat) (th : Int32) (J : Nat → Nat → Int32) (hkp : kp ≤ 6) (hn : n ≤ 60) (hO : okN N) (hM : isR E ad st b sM (mG N P kp C n th J)) (v : Int32) (hbad : inI v 0 7 = 0) : nMi l yX5_pointing wsX5_pointing (nRm 2 42) E ad st [.ref (ad b), .int v] (fun r s1 => r = 0 ∧ (∃ J1, isR E ad s1 b sM (mG N P kp C n 1 J1)) ∧ fr b st s1) := by
  refine nSi (cc := cX5_pointing) (maxL := 2) (by decide) rfl (Nat.le_of_ble_eq_true rfl) ?_
  intro pg en s mi ar bw mth cd R Q A ls hx hb hml hown hts hRm hP hK hD hZ hA hl hret
  subst hRm
  have hown : s.vm.findClass RX5 = some mi.cls := hown
  have hS : va_S A s.heap s.heap [] := va_S.rf
  have hl : lv_has ls 2 [(0, .ref (ad b)), (1, .int v)] := hl
  have hf : fr b st st := fr.rf
  have hdB := hO.1.b
  have hinX5 : ∀ w ∈ wsX50, w ∈ wsX5_pointing := by decide +kernel
  refine lv_aload_n hx hb dX5_pointing_0 rfl (lv_at hl 0 rfl) ?_
  refine lv_iconst (v := 0) hx hb dX5_pointing_1 (by decide) ?_
  refine rp (v := 0) (ty := .int) (T := TX5) (N := 14) (C := RX5) hx hb hts hinX5 tyX5 tyX5_ok nmX5 hown hK hP hD hS hM rfl 6 (by decide) (hts (.fieldLink RX5 28 "NeedleGridModel" "thrown" "I") (by decide +kernel)) rfl rfl (by decide +kernel) rfl rfl dX5_pointing_2 (fun s_1 H locs hM hf_2 hP hD hS => ?_)
  have hf := hf.tr hf_2
  refine lv_iload_n hx hb dX5_pointing_5 rfl (lv_at hl 1 rfl) ?_
  refine nS_i (As := [.int v]) (rest := _) hx hb hml hown hts hP hK hD hZ hA hS ⟨Nat.zero_le _, Nat.zero_le _⟩ (m_isDirection l E ad s_1 v) (va_cwS 1 hts gX5_pointing_X5_isDirection rfl rfl rfl (by decide +kernel) ⟨Nat.le_of_ble_eq_true rfl, Nat.le_of_ble_eq_true rfl⟩) hl.1 rfl (Nat.le_of_ble_eq_true rfl) dX5_pointing_6 (fun r_3 s_4 H locs hq hP hD hS => ?_)
  obtain ⟨rfl, rfl⟩ := hq
  refine lv_if_eq (tgt := 20) hx hb dX5_pointing_9 (by decide) (fun c9_4 => ?_) (fun c9_4 => absurd hbad c9_4)
  refine lv_aload_n hx hb dX5_pointing_20 rfl (lv_at hl 0 rfl) ?_
  refine lv_iconst (v := 1) hx hb dX5_pointing_21 (by decide) ?_
  refine nVi (As := [.int 1]) (rest := _) hx hb hml hown hts hP hK hD hZ hA hS ⟨Nat.zero_le _, Nat.zero_le _⟩ hM.1 rfl (m_fails l E ad s_1 b (gu (mG N P kp C n th J) 6 (fun _ => 0)) hM 1) (cwV 1 hts gX5_pointing_X5_fails rfl rfl rfl (by decide +kernel) ⟨Nat.le_of_ble_eq_true rfl, Nat.le_of_ble_eq_true rfl⟩) hl.1 rfl (Nat.le_of_ble_eq_true rfl) dX5_pointing_22 (fun r_6 s_8 H locs hq hP hD hS => ?_)
  obtain ⟨hrr_6, hM, hf_7⟩ := hq
  have hrr_6 : r_6 = 0 := hrr_6
  have hf := hf.tr hf_7
  have hM : isR E ad s_8 b sM (gu (mG N P kp C n th J) 6 (fun _ => 1)) := hM.eq (all14 rfl rfl rfl rfl rfl rfl rfl rfl rfl rfl rfl rfl rfl rfl)
  exact hret _ _ _ _ _ _ hP hD hS (⟨hrr_6, ⟨J, hM.eq (all14 rfl rfl rfl rfl rfl rfl rfl rfl rfl rfl rfl rfl rfl rfl)⟩, hf⟩) dX5_pointing_25

set_option maxHeartbeats 4000000 in
set_option maxRecDepth 100000 in
theorem m_restsIn (l : Launch) (E : NE) (ad : Nat → Nat) (st : NW) (b : Nat) (N P : Nat → Int32) (kp : Nat) (C : Nat → Int32) (n : Nat) (th : Int32) (J : Nat → Nat → Int32) (hkp : kp ≤ 6) (hn : n ≤ 60) (hO : okN N) (hM : isR E ad st b sM (mG N P kp C n th J))  : nMi l yX5_restsIn wsX5_restsIn (nRm 9 210) E ad st [.ref (ad b)] (fun r s1 => r = fnd1 (rstP N) 101 0 ∧ (∃ J1, isR E ad s1 b sM (mG N P kp C n 0 J1)) ∧ fr b st s1) := by
  refine nSi (cc := cX5_restsIn) (maxL := 1) (by decide) rfl (Nat.le_of_ble_eq_true rfl) ?_
  intro pg en s mi ar bw mth cd R Q A ls hx hb hml hown hts hRm hP hK hD hZ hA hl hret
  subst hRm
  have hown : s.vm.findClass RX5 = some mi.cls := hown
  have hS : va_S A s.heap s.heap [] := va_S.rf
  have hl : lv_has ls 1 [(0, .ref (ad b))] := hl
  have hf : fr b st st := fr.rf
  have hdB := hO.1.b
  have hinX5 : ∀ w ∈ wsX50, w ∈ wsX5_restsIn := by decide +kernel
  refine lv_aload_n hx hb dX5_restsIn_0 rfl (lv_at hl 0 rfl) ?_
  refine lv_iconst (v := 0) hx hb dX5_restsIn_1 (by decide) ?_
  refine rp (v := 0) (ty := .int) (T := TX5) (N := 14) (C := RX5) hx hb hts hinX5 tyX5 tyX5_ok nmX5 hown hK hP hD hS hM rfl 6 (by decide) (hts (.fieldLink RX5 28 "NeedleGridModel" "thrown" "I") (by decide +kernel)) rfl rfl (by decide +kernel) rfl rfl dX5_restsIn_2 (fun s_1 H locs hM hf_2 hP hD hS => ?_)
  have hf := hf.tr hf_2
  refine lv_aload_n hx hb dX5_restsIn_5 rfl (lv_at hl 0 rfl) ?_
  refine nVi (As := []) (rest := _) hx hb hml hown hts hP hK hD hZ hA hS ⟨Nat.zero_le _, Nat.zero_le _⟩ hM.1 rfl (m_rests l E ad s_1 b N P kp C n 0 J hkp hn hO (hM.eq (all14 rfl rfl rfl rfl rfl rfl rfl rfl rfl rfl rfl rfl rfl rfl)) ) (cwV 0 hts gX5_restsIn_X5_rests rfl rfl rfl (by decide +kernel) ⟨Nat.le_of_ble_eq_true rfl, Nat.le_of_ble_eq_true rfl⟩) hl.1 rfl (Nat.le_of_ble_eq_true rfl) dX5_restsIn_6 (fun r_3 s_6 H locs hq hP hD hS => ?_)
  obtain ⟨hrr_3, ⟨J_5, hM⟩, hf_4⟩ := hq
  have hf := hf.tr hf_4
  exact hret _ _ _ _ _ _ hP hD hS (⟨hrr_3, ⟨J_5, hM.eq (all14 rfl rfl rfl rfl rfl rfl rfl rfl rfl rfl rfl rfl rfl rfl)⟩, hf⟩) dX5_restsIn_9

set_option maxHeartbeats 4000000 in
set_option maxRecDepth 100000 in
theorem m_points (l : Launch) (E : NE) (ad : Nat → Nat) (st : NW) (b : Nat) (N P : Nat → Int32) (kp : Nat) (C : Nat → Int32) (n : Nat) (th : Int32) (J : Nat → Nat → Int32) (hkp : kp ≤ 6) (hn : n ≤ 60) (hO : okN N) (hM : isR E ad st b sM (mG N P kp C n th J)) (c k : Nat) (hc : c < 36) (hk : k ≤ 100) : nMi l yX5_points wsX5_points (nRm 9 212) E ad st [.ref (ad b), .int (nI c), .int (nI k)] (fun r s1 => r = itN N k (6 + c) ∧ (∃ J1, isR E ad s1 b sM (mG N P kp C n 0 J1)) ∧ fr b st s1) := by
  refine nSi (cc := cX5_points) (maxL := 3) (by decide) rfl (Nat.le_of_ble_eq_true rfl) ?_
  intro pg en s mi ar bw mth cd R Q A ls hx hb hml hown hts hRm hP hK hD hZ hA hl hret
  subst hRm
  have hown : s.vm.findClass RX5 = some mi.cls := hown
  have hS : va_S A s.heap s.heap [] := va_S.rf
  have hl : lv_has ls 3 [(0, .ref (ad b)), (1, .int (nI c)), (2, .int (nI k))] := hl
  have hf : fr b st st := fr.rf
  have hdB := hO.1.b
  have hinX5 : ∀ w ∈ wsX50, w ∈ wsX5_points := by decide +kernel
  refine lv_aload_n hx hb dX5_points_0 rfl (lv_at hl 0 rfl) ?_
  refine lv_iconst (v := 0) hx hb dX5_points_1 (by decide) ?_
  refine rp (v := 0) (ty := .int) (T := TX5) (N := 14) (C := RX5) hx hb hts hinX5 tyX5 tyX5_ok nmX5 hown hK hP hD hS hM rfl 6 (by decide) (hts (.fieldLink RX5 28 "NeedleGridModel" "thrown" "I") (by decide +kernel)) rfl rfl (by decide +kernel) rfl rfl dX5_points_2 (fun s_1 H locs hM hf_2 hP hD hS => ?_)
  have hf := hf.tr hf_2
  refine lv_iload_n hx hb dX5_points_5 rfl (lv_at hl 1 rfl) ?_
  refine nS_i (As := [.int (nI c)]) (rest := _) hx hb hml hown hts hP hK hD hZ hA hS ⟨Nat.zero_le _, Nat.zero_le _⟩ (m_isCell l E ad s_1 (nI c)) (va_cwS 1 hts gX5_points_X5_isCell rfl rfl rfl (by decide +kernel) ⟨Nat.le_of_ble_eq_true rfl, Nat.le_of_ble_eq_true rfl⟩) hl.1 rfl (Nat.le_of_ble_eq_true rfl) dX5_points_6 (fun r_3 s_4 H locs hq hP hD hS => ?_)
  obtain ⟨rfl, rfl⟩ := hq
  refine lv_if_ne (tgt := 18) hx hb dX5_points_9 (by decide) (fun c9_4 => ?_) (fun c9_4 => absurd c9_4 (cell_ok hc))
  refine lv_iload_n hx hb dX5_points_18 rfl (lv_at hl 2 rfl) ?_
  refine lv_iconst (v := 0) hx hb dX5_points_19 (by decide) ?_
  refine lv_bipush (v := 100) hx hb dX5_points_20 (by decide) ?_
  refine nS_i (As := [.int (nI k), .int 0, .int 100]) (rest := _) hx hb hml hown hts hP hK hD hZ hA hS ⟨Nat.zero_le _, Nat.zero_le _⟩ (m_in l E ad s_1 (nI k) 0 100) (va_cwS 3 hts gX5_points_X5_in rfl rfl rfl (by decide +kernel) ⟨Nat.le_of_ble_eq_true rfl, Nat.le_of_ble_eq_true rfl⟩) hl.1 rfl (Nat.le_of_ble_eq_true rfl) dX5_points_22 (fun r_6 s_7 H locs hq hP hD hS => ?_)
  obtain ⟨rfl, rfl⟩ := hq
  refine lv_if_eq (tgt := 37) hx hb dX5_points_25 (by decide) (fun c25_7 => absurd c25_7 (inI_n (b := 100) rfl (by omega) (by decide))) (fun c25_7 => ?_)
  refine lv_aload_n hx hb dX5_points_28 rfl (lv_at hl 0 rfl) ?_
  refine lv_iload_n hx hb dX5_points_29 rfl (lv_at hl 1 rfl) ?_
  refine lv_iload_n hx hb dX5_points_30 rfl (lv_at hl 2 rfl) ?_
  refine nVi (As := [.int (nI c), .int (nI k)]) (rest := _) hx hb hml hown hts hP hK hD hZ hA hS ⟨Nat.zero_le _, Nat.zero_le _⟩ hM.1 rfl (m_pointed l E ad s_1 b N P kp C n 0 J hkp hn hO (hM.eq (all14 rfl rfl rfl rfl rfl rfl rfl rfl rfl rfl rfl rfl rfl rfl)) c k (by omega) (by omega)) (cwV 2 hts gX5_points_X5_pointed rfl rfl rfl (by decide +kernel) ⟨Nat.le_of_ble_eq_true rfl, Nat.le_of_ble_eq_true rfl⟩) hl.1 rfl (Nat.le_of_ble_eq_true rfl) dX5_points_31 (fun r_9 s_12 H locs hq hP hD hS => ?_)
  obtain ⟨hrr_9, ⟨J_11, hM⟩, hf_10⟩ := hq
  have hf := hf.tr hf_10
  refine lv_goto (tgt := 42) hx hb dX5_points_34 (by decide) ?_
  exact hret _ _ _ _ _ _ hP hD hS (⟨hrr_9, ⟨J_11, hM.eq (all14 rfl rfl rfl rfl rfl rfl rfl rfl rfl rfl rfl rfl rfl rfl)⟩, hf⟩) dX5_points_42

set_option maxHeartbeats 4000000 in
set_option maxRecDepth 100000 in
theorem m_points_c (l : Launch) (E : NE) (ad : Nat → Nat) (st : NW) (b : Nat) (N P : Nat → Int32) (kp : Nat) (C : Nat → Int32) (n : Nat) (th : Int32) (J : Nat → Nat → Int32) (hkp : kp ≤ 6) (hn : n ≤ 60) (hO : okN N) (hM : isR E ad st b sM (mG N P kp C n th J)) (v : Int32) (hbad : inI v 0 35 = 0) (w : Int32) : nMi l yX5_points wsX5_points (nRm 9 212) E ad st [.ref (ad b), .int v, .int w] (fun r s1 => r = 0 ∧ (∃ J1, isR E ad s1 b sM (mG N P kp C n 1 J1)) ∧ fr b st s1) := by
  refine nSi (cc := cX5_points) (maxL := 3) (by decide) rfl (Nat.le_of_ble_eq_true rfl) ?_
  intro pg en s mi ar bw mth cd R Q A ls hx hb hml hown hts hRm hP hK hD hZ hA hl hret
  subst hRm
  have hown : s.vm.findClass RX5 = some mi.cls := hown
  have hS : va_S A s.heap s.heap [] := va_S.rf
  have hl : lv_has ls 3 [(0, .ref (ad b)), (1, .int v), (2, .int w)] := hl
  have hf : fr b st st := fr.rf
  have hdB := hO.1.b
  have hinX5 : ∀ w ∈ wsX50, w ∈ wsX5_points := by decide +kernel
  refine lv_aload_n hx hb dX5_points_0 rfl (lv_at hl 0 rfl) ?_
  refine lv_iconst (v := 0) hx hb dX5_points_1 (by decide) ?_
  refine rp (v := 0) (ty := .int) (T := TX5) (N := 14) (C := RX5) hx hb hts hinX5 tyX5 tyX5_ok nmX5 hown hK hP hD hS hM rfl 6 (by decide) (hts (.fieldLink RX5 28 "NeedleGridModel" "thrown" "I") (by decide +kernel)) rfl rfl (by decide +kernel) rfl rfl dX5_points_2 (fun s_1 H locs hM hf_2 hP hD hS => ?_)
  have hf := hf.tr hf_2
  refine lv_iload_n hx hb dX5_points_5 rfl (lv_at hl 1 rfl) ?_
  refine nS_i (As := [.int v]) (rest := _) hx hb hml hown hts hP hK hD hZ hA hS ⟨Nat.zero_le _, Nat.zero_le _⟩ (m_isCell l E ad s_1 v) (va_cwS 1 hts gX5_points_X5_isCell rfl rfl rfl (by decide +kernel) ⟨Nat.le_of_ble_eq_true rfl, Nat.le_of_ble_eq_true rfl⟩) hl.1 rfl (Nat.le_of_ble_eq_true rfl) dX5_points_6 (fun r_3 s_4 H locs hq hP hD hS => ?_)
  obtain ⟨rfl, rfl⟩ := hq
  refine lv_if_ne (tgt := 18) hx hb dX5_points_9 (by decide) (fun c9_4 => absurd hbad c9_4) (fun c9_4 => ?_)
  refine lv_aload_n hx hb dX5_points_12 rfl (lv_at hl 0 rfl) ?_
  refine lv_iconst (v := 1) hx hb dX5_points_13 (by decide) ?_
  refine nVi (As := [.int 1]) (rest := _) hx hb hml hown hts hP hK hD hZ hA hS ⟨Nat.zero_le _, Nat.zero_le _⟩ hM.1 rfl (m_fails l E ad s_1 b (gu (mG N P kp C n th J) 6 (fun _ => 0)) hM 1) (cwV 1 hts gX5_points_X5_fails rfl rfl rfl (by decide +kernel) ⟨Nat.le_of_ble_eq_true rfl, Nat.le_of_ble_eq_true rfl⟩) hl.1 rfl (Nat.le_of_ble_eq_true rfl) dX5_points_14 (fun r_6 s_8 H locs hq hP hD hS => ?_)
  obtain ⟨hrr_6, hM, hf_7⟩ := hq
  have hrr_6 : r_6 = 0 := hrr_6
  have hf := hf.tr hf_7
  have hM : isR E ad s_8 b sM (gu (mG N P kp C n th J) 6 (fun _ => 1)) := hM.eq (all14 rfl rfl rfl rfl rfl rfl rfl rfl rfl rfl rfl rfl rfl rfl)
  exact hret _ _ _ _ _ _ hP hD hS (⟨hrr_6, ⟨J, hM.eq (all14 rfl rfl rfl rfl rfl rfl rfl rfl rfl rfl rfl rfl rfl rfl)⟩, hf⟩) dX5_points_17

set_option maxHeartbeats 4000000 in
set_option maxRecDepth 100000 in
theorem m_points_n (l : Launch) (E : NE) (ad : Nat → Nat) (st : NW) (b : Nat) (N P : Nat → Int32) (kp : Nat) (C : Nat → Int32) (n : Nat) (th : Int32) (J : Nat → Nat → Int32) (hkp : kp ≤ 6) (hn : n ≤ 60) (hO : okN N) (hM : isR E ad st b sM (mG N P kp C n th J)) (c : Nat) (hc : c < 36) (v : Int32) (hbad : inI v 0 100 = 0) : nMi l yX5_points wsX5_points (nRm 9 212) E ad st [.ref (ad b), .int (nI c), .int v] (fun r s1 => r = 0 ∧ (∃ J1, isR E ad s1 b sM (mG N P kp C n 2 J1)) ∧ fr b st s1) := by
  refine nSi (cc := cX5_points) (maxL := 3) (by decide) rfl (Nat.le_of_ble_eq_true rfl) ?_
  intro pg en s mi ar bw mth cd R Q A ls hx hb hml hown hts hRm hP hK hD hZ hA hl hret
  subst hRm
  have hown : s.vm.findClass RX5 = some mi.cls := hown
  have hS : va_S A s.heap s.heap [] := va_S.rf
  have hl : lv_has ls 3 [(0, .ref (ad b)), (1, .int (nI c)), (2, .int v)] := hl
  have hf : fr b st st := fr.rf
  have hdB := hO.1.b
  have hinX5 : ∀ w ∈ wsX50, w ∈ wsX5_points := by decide +kernel
  refine lv_aload_n hx hb dX5_points_0 rfl (lv_at hl 0 rfl) ?_
  refine lv_iconst (v := 0) hx hb dX5_points_1 (by decide) ?_
  refine rp (v := 0) (ty := .int) (T := TX5) (N := 14) (C := RX5) hx hb hts hinX5 tyX5 tyX5_ok nmX5 hown hK hP hD hS hM rfl 6 (by decide) (hts (.fieldLink RX5 28 "NeedleGridModel" "thrown" "I") (by decide +kernel)) rfl rfl (by decide +kernel) rfl rfl dX5_points_2 (fun s_1 H locs hM hf_2 hP hD hS => ?_)
  have hf := hf.tr hf_2
  refine lv_iload_n hx hb dX5_points_5 rfl (lv_at hl 1 rfl) ?_
  refine nS_i (As := [.int (nI c)]) (rest := _) hx hb hml hown hts hP hK hD hZ hA hS ⟨Nat.zero_le _, Nat.zero_le _⟩ (m_isCell l E ad s_1 (nI c)) (va_cwS 1 hts gX5_points_X5_isCell rfl rfl rfl (by decide +kernel) ⟨Nat.le_of_ble_eq_true rfl, Nat.le_of_ble_eq_true rfl⟩) hl.1 rfl (Nat.le_of_ble_eq_true rfl) dX5_points_6 (fun r_3 s_4 H locs hq hP hD hS => ?_)
  obtain ⟨rfl, rfl⟩ := hq
  refine lv_if_ne (tgt := 18) hx hb dX5_points_9 (by decide) (fun c9_4 => ?_) (fun c9_4 => absurd c9_4 (cell_ok hc))
  refine lv_iload_n hx hb dX5_points_18 rfl (lv_at hl 2 rfl) ?_
  refine lv_iconst (v := 0) hx hb dX5_points_19 (by decide) ?_
  refine lv_bipush (v := 100) hx hb dX5_points_20 (by decide) ?_
  refine nS_i (As := [.int v, .int 0, .int 100]) (rest := _) hx hb hml hown hts hP hK hD hZ hA hS ⟨Nat.zero_le _, Nat.zero_le _⟩ (m_in l E ad s_1 v 0 100) (va_cwS 3 hts gX5_points_X5_in rfl rfl rfl (by decide +kernel) ⟨Nat.le_of_ble_eq_true rfl, Nat.le_of_ble_eq_true rfl⟩) hl.1 rfl (Nat.le_of_ble_eq_true rfl) dX5_points_22 (fun r_6 s_7 H locs hq hP hD hS => ?_)
  obtain ⟨rfl, rfl⟩ := hq
  refine lv_if_eq (tgt := 37) hx hb dX5_points_25 (by decide) (fun c25_7 => ?_) (fun c25_7 => absurd hbad c25_7)
  refine lv_aload_n hx hb dX5_points_37 rfl (lv_at hl 0 rfl) ?_
  refine lv_iconst (v := 2) hx hb dX5_points_38 (by decide) ?_
  refine nVi (As := [.int 2]) (rest := _) hx hb hml hown hts hP hK hD hZ hA hS ⟨Nat.zero_le _, Nat.zero_le _⟩ hM.1 rfl (m_fails l E ad s_1 b (gu (mG N P kp C n th J) 6 (fun _ => 0)) hM 2) (cwV 1 hts gX5_points_X5_fails rfl rfl rfl (by decide +kernel) ⟨Nat.le_of_ble_eq_true rfl, Nat.le_of_ble_eq_true rfl⟩) hl.1 rfl (Nat.le_of_ble_eq_true rfl) dX5_points_39 (fun r_9 s_11 H locs hq hP hD hS => ?_)
  obtain ⟨hrr_9, hM, hf_10⟩ := hq
  have hrr_9 : r_9 = 0 := hrr_9
  have hf := hf.tr hf_10
  have hM : isR E ad s_11 b sM (gu (mG N P kp C n th J) 6 (fun _ => 2)) := hM.eq (all14 rfl rfl rfl rfl rfl rfl rfl rfl rfl rfl rfl rfl rfl rfl)
  exact hret _ _ _ _ _ _ hP hD hS (⟨hrr_9, ⟨J, hM.eq (all14 rfl rfl rfl rfl rfl rfl rfl rfl rfl rfl rfl rfl rfl rfl)⟩, hf⟩) dX5_points_42

theorem t_pos {t : Int32} (h : ¬ t < 1) : ¬ t ≤ 0 := by
  rw [Int32.lt_iff_toInt_lt] at h
  rw [Int32.le_iff_toInt_le]
  have a : (1 : Int32).toInt = 1 := by decide
  have b : (0 : Int32).toInt = 0 := by decide
  omega

set_option maxHeartbeats 4000000 in
set_option maxRecDepth 100000 in
theorem m_ifBar (l : Launch) (E : NE) (ad : Nat → Nat) (st : NW) (b : Nat) (N P : Nat → Int32) (kp : Nat) (C : Nat → Int32) (n : Nat) (th : Int32) (J : Nat → Nat → Int32) (hkp : kp ≤ 6) (hn : n ≤ 60) (hO : okN N) (hM : isR E ad st b sM (mG N P kp C n th J)) (c d : Nat) (t : Int32) (hc : c < 36) (hd : d < 8) (h1 : ¬ t < 1) (h2 : t ≤ 50) : nMi l yX5_ifBar wsX5_ifBar (nRm 7 167) E ad st [.ref (ad b), .int (nI c), .int (nI d), .int t] (fun r s1 => r = nI (cnI (ifbG (gN N) c (nI d) t) 36) ∧ (∃ J1, isR E ad s1 b sM (mG N P kp C n 0 J1)) ∧ fr b st s1) := by
  refine nSi (cc := cX5_ifBar) (maxL := 4) (by decide) rfl (Nat.le_of_ble_eq_true rfl) ?_
  intro pg en s mi ar bw mth cd R Q A ls hx hb hml hown hts hRm hP hK hD hZ hA hl hret
  subst hRm
  have hown : s.vm.findClass RX5 = some mi.cls := hown
  have hS : va_S A s.heap s.heap [] := va_S.rf
  have hl : lv_has ls 4 [(0, .ref (ad b)), (1, .int (nI c)), (2, .int (nI d)), (3, .int t)] := hl
  have hf : fr b st st := fr.rf
  have hdB := hO.1.b
  have ht : ¬ t ≤ 0 := t_pos h1
  have hinX5 : ∀ w ∈ wsX50, w ∈ wsX5_ifBar := by decide +kernel
  refine lv_aload_n hx hb dX5_ifBar_0 rfl (lv_at hl 0 rfl) ?_
  refine lv_iconst (v := 0) hx hb dX5_ifBar_1 (by decide) ?_
  refine rp (v := 0) (ty := .int) (T := TX5) (N := 14) (C := RX5) hx hb hts hinX5 tyX5 tyX5_ok nmX5 hown hK hP hD hS hM rfl 6 (by decide) (hts (.fieldLink RX5 28 "NeedleGridModel" "thrown" "I") (by decide +kernel)) rfl rfl (by decide +kernel) rfl rfl dX5_ifBar_2 (fun s_1 H locs hM hf_2 hP hD hS => ?_)
  have hf := hf.tr hf_2
  refine lv_iload_n hx hb dX5_ifBar_5 rfl (lv_at hl 1 rfl) ?_
  refine nS_i (As := [.int (nI c)]) (rest := _) hx hb hml hown hts hP hK hD hZ hA hS ⟨Nat.zero_le _, Nat.zero_le _⟩ (m_isCell l E ad s_1 (nI c)) (va_cwS 1 hts gX5_ifBar_X5_isCell rfl rfl rfl (by decide +kernel) ⟨Nat.le_of_ble_eq_true rfl, Nat.le_of_ble_eq_true rfl⟩) hl.1 rfl (Nat.le_of_ble_eq_true rfl) dX5_ifBar_6 (fun r_3 s_4 H locs hq hP hD hS => ?_)
  obtain ⟨rfl, rfl⟩ := hq
  refine lv_if_ne (tgt := 18) hx hb dX5_ifBar_9 (by decide) (fun c9_4 => ?_) (fun c9_4 => absurd c9_4 (cell_ok hc))
  refine lv_iload_n hx hb dX5_ifBar_18 rfl (lv_at hl 2 rfl) ?_
  refine lv_iload_n hx hb dX5_ifBar_19 rfl (lv_at hl 3 rfl) ?_
  refine nS_i (As := [.int (nI d), .int t]) (rest := _) hx hb hml hown hts hP hK hD hZ hA hS ⟨Nat.zero_le _, Nat.zero_le _⟩ (m_isBar l E ad s_1 (nI d) t) (va_cwS 2 hts gX5_ifBar_X5_isBar rfl rfl rfl (by decide +kernel) ⟨Nat.le_of_ble_eq_true rfl, Nat.le_of_ble_eq_true rfl⟩) hl.1 rfl (Nat.le_of_ble_eq_true rfl) dX5_ifBar_20 (fun r_6 s_7 H locs hq hP hD hS => ?_)
  obtain ⟨rfl, rfl⟩ := hq
  refine lv_if_eq (tgt := 36) hx hb dX5_ifBar_23 (by decide) (fun c23_7 => absurd c23_7 (bar_ok hd h1 h2)) (fun c23_7 => ?_)
  refine lv_aload_n hx hb dX5_ifBar_26 rfl (lv_at hl 0 rfl) ?_
  refine lv_iload_n hx hb dX5_ifBar_27 rfl (lv_at hl 1 rfl) ?_
  refine lv_iload_n hx hb dX5_ifBar_28 rfl (lv_at hl 2 rfl) ?_
  refine lv_iload_n hx hb dX5_ifBar_29 rfl (lv_at hl 3 rfl) ?_
  refine nVi (As := [.int (nI c), .int (nI d), .int t]) (rest := _) hx hb hml hown hts hP hK hD hZ hA hS ⟨Nat.zero_le _, Nat.zero_le _⟩ hM.1 rfl (m_byBar l E ad s_1 b N P kp C n 0 J hkp hn hO (hM.eq (all14 rfl rfl rfl rfl rfl rfl rfl rfl rfl rfl rfl rfl rfl rfl)) c d t (by omega) (by omega) ht) (cwV 3 hts gX5_ifBar_X5_byBar rfl rfl rfl (by decide +kernel) ⟨Nat.le_of_ble_eq_true rfl, Nat.le_of_ble_eq_true rfl⟩) hl.1 rfl (Nat.le_of_ble_eq_true rfl) dX5_ifBar_30 (fun r_9 s_12 H locs hq hP hD hS => ?_)
  obtain ⟨hrr_9, ⟨J_11, hM⟩, hf_10⟩ := hq
  have hf := hf.tr hf_10
  refine lv_goto (tgt := 41) hx hb dX5_ifBar_33 (by decide) ?_
  exact hret _ _ _ _ _ _ hP hD hS (⟨hrr_9, ⟨J_11, hM.eq (all14 rfl rfl rfl rfl rfl rfl rfl rfl rfl rfl rfl rfl rfl rfl)⟩, hf⟩) dX5_ifBar_41

set_option maxHeartbeats 4000000 in
set_option maxRecDepth 100000 in
theorem m_ifBar_c (l : Launch) (E : NE) (ad : Nat → Nat) (st : NW) (b : Nat) (N P : Nat → Int32) (kp : Nat) (C : Nat → Int32) (n : Nat) (th : Int32) (J : Nat → Nat → Int32) (hkp : kp ≤ 6) (hn : n ≤ 60) (hO : okN N) (hM : isR E ad st b sM (mG N P kp C n th J)) (v : Int32) (hbad : inI v 0 35 = 0) (w t : Int32) : nMi l yX5_ifBar wsX5_ifBar (nRm 7 167) E ad st [.ref (ad b), .int v, .int w, .int t] (fun r s1 => r = 0 ∧ (∃ J1, isR E ad s1 b sM (mG N P kp C n 1 J1)) ∧ fr b st s1) := by
  refine nSi (cc := cX5_ifBar) (maxL := 4) (by decide) rfl (Nat.le_of_ble_eq_true rfl) ?_
  intro pg en s mi ar bw mth cd R Q A ls hx hb hml hown hts hRm hP hK hD hZ hA hl hret
  subst hRm
  have hown : s.vm.findClass RX5 = some mi.cls := hown
  have hS : va_S A s.heap s.heap [] := va_S.rf
  have hl : lv_has ls 4 [(0, .ref (ad b)), (1, .int v), (2, .int w), (3, .int t)] := hl
  have hf : fr b st st := fr.rf
  have hdB := hO.1.b
  have hinX5 : ∀ w ∈ wsX50, w ∈ wsX5_ifBar := by decide +kernel
  refine lv_aload_n hx hb dX5_ifBar_0 rfl (lv_at hl 0 rfl) ?_
  refine lv_iconst (v := 0) hx hb dX5_ifBar_1 (by decide) ?_
  refine rp (v := 0) (ty := .int) (T := TX5) (N := 14) (C := RX5) hx hb hts hinX5 tyX5 tyX5_ok nmX5 hown hK hP hD hS hM rfl 6 (by decide) (hts (.fieldLink RX5 28 "NeedleGridModel" "thrown" "I") (by decide +kernel)) rfl rfl (by decide +kernel) rfl rfl dX5_ifBar_2 (fun s_1 H locs hM hf_2 hP hD hS => ?_)
  have hf := hf.tr hf_2
  refine lv_iload_n hx hb dX5_ifBar_5 rfl (lv_at hl 1 rfl) ?_
  refine nS_i (As := [.int v]) (rest := _) hx hb hml hown hts hP hK hD hZ hA hS ⟨Nat.zero_le _, Nat.zero_le _⟩ (m_isCell l E ad s_1 v) (va_cwS 1 hts gX5_ifBar_X5_isCell rfl rfl rfl (by decide +kernel) ⟨Nat.le_of_ble_eq_true rfl, Nat.le_of_ble_eq_true rfl⟩) hl.1 rfl (Nat.le_of_ble_eq_true rfl) dX5_ifBar_6 (fun r_3 s_4 H locs hq hP hD hS => ?_)
  obtain ⟨rfl, rfl⟩ := hq
  refine lv_if_ne (tgt := 18) hx hb dX5_ifBar_9 (by decide) (fun c9_4 => absurd hbad c9_4) (fun c9_4 => ?_)
  refine lv_aload_n hx hb dX5_ifBar_12 rfl (lv_at hl 0 rfl) ?_
  refine lv_iconst (v := 1) hx hb dX5_ifBar_13 (by decide) ?_
  refine nVi (As := [.int 1]) (rest := _) hx hb hml hown hts hP hK hD hZ hA hS ⟨Nat.zero_le _, Nat.zero_le _⟩ hM.1 rfl (m_fails l E ad s_1 b (gu (mG N P kp C n th J) 6 (fun _ => 0)) hM 1) (cwV 1 hts gX5_ifBar_X5_fails rfl rfl rfl (by decide +kernel) ⟨Nat.le_of_ble_eq_true rfl, Nat.le_of_ble_eq_true rfl⟩) hl.1 rfl (Nat.le_of_ble_eq_true rfl) dX5_ifBar_14 (fun r_6 s_8 H locs hq hP hD hS => ?_)
  obtain ⟨hrr_6, hM, hf_7⟩ := hq
  have hrr_6 : r_6 = 0 := hrr_6
  have hf := hf.tr hf_7
  have hM : isR E ad s_8 b sM (gu (mG N P kp C n th J) 6 (fun _ => 1)) := hM.eq (all14 rfl rfl rfl rfl rfl rfl rfl rfl rfl rfl rfl rfl rfl rfl)
  exact hret _ _ _ _ _ _ hP hD hS (⟨hrr_6, ⟨J, hM.eq (all14 rfl rfl rfl rfl rfl rfl rfl rfl rfl rfl rfl rfl rfl rfl)⟩, hf⟩) dX5_ifBar_17

set_option maxHeartbeats 4000000 in
set_option maxRecDepth 100000 in
theorem m_ifBar_d (l : Launch) (E : NE) (ad : Nat → Nat) (st : NW) (b : Nat) (N P : Nat → Int32) (kp : Nat) (C : Nat → Int32) (n : Nat) (th : Int32) (J : Nat → Nat → Int32) (hkp : kp ≤ 6) (hn : n ≤ 60) (hO : okN N) (hM : isR E ad st b sM (mG N P kp C n th J)) (c : Nat) (hc : c < 36) (v t : Int32) (hbad : (if inI v 0 7 = 0 then (0 : Int32) else if inI t 1 50 = 0 then 0 else 1) = 0) : nMi l yX5_ifBar wsX5_ifBar (nRm 7 167) E ad st [.ref (ad b), .int (nI c), .int v, .int t] (fun r s1 => r = 0 ∧ (∃ J1, isR E ad s1 b sM (mG N P kp C n 2 J1)) ∧ fr b st s1) := by
  refine nSi (cc := cX5_ifBar) (maxL := 4) (by decide) rfl (Nat.le_of_ble_eq_true rfl) ?_
  intro pg en s mi ar bw mth cd R Q A ls hx hb hml hown hts hRm hP hK hD hZ hA hl hret
  subst hRm
  have hown : s.vm.findClass RX5 = some mi.cls := hown
  have hS : va_S A s.heap s.heap [] := va_S.rf
  have hl : lv_has ls 4 [(0, .ref (ad b)), (1, .int (nI c)), (2, .int v), (3, .int t)] := hl
  have hf : fr b st st := fr.rf
  have hdB := hO.1.b
  have hinX5 : ∀ w ∈ wsX50, w ∈ wsX5_ifBar := by decide +kernel
  refine lv_aload_n hx hb dX5_ifBar_0 rfl (lv_at hl 0 rfl) ?_
  refine lv_iconst (v := 0) hx hb dX5_ifBar_1 (by decide) ?_
  refine rp (v := 0) (ty := .int) (T := TX5) (N := 14) (C := RX5) hx hb hts hinX5 tyX5 tyX5_ok nmX5 hown hK hP hD hS hM rfl 6 (by decide) (hts (.fieldLink RX5 28 "NeedleGridModel" "thrown" "I") (by decide +kernel)) rfl rfl (by decide +kernel) rfl rfl dX5_ifBar_2 (fun s_1 H locs hM hf_2 hP hD hS => ?_)
  have hf := hf.tr hf_2
  refine lv_iload_n hx hb dX5_ifBar_5 rfl (lv_at hl 1 rfl) ?_
  refine nS_i (As := [.int (nI c)]) (rest := _) hx hb hml hown hts hP hK hD hZ hA hS ⟨Nat.zero_le _, Nat.zero_le _⟩ (m_isCell l E ad s_1 (nI c)) (va_cwS 1 hts gX5_ifBar_X5_isCell rfl rfl rfl (by decide +kernel) ⟨Nat.le_of_ble_eq_true rfl, Nat.le_of_ble_eq_true rfl⟩) hl.1 rfl (Nat.le_of_ble_eq_true rfl) dX5_ifBar_6 (fun r_3 s_4 H locs hq hP hD hS => ?_)
  obtain ⟨rfl, rfl⟩ := hq
  refine lv_if_ne (tgt := 18) hx hb dX5_ifBar_9 (by decide) (fun c9_4 => ?_) (fun c9_4 => absurd c9_4 (cell_ok hc))
  refine lv_iload_n hx hb dX5_ifBar_18 rfl (lv_at hl 2 rfl) ?_
  refine lv_iload_n hx hb dX5_ifBar_19 rfl (lv_at hl 3 rfl) ?_
  refine nS_i (As := [.int v, .int t]) (rest := _) hx hb hml hown hts hP hK hD hZ hA hS ⟨Nat.zero_le _, Nat.zero_le _⟩ (m_isBar l E ad s_1 v t) (va_cwS 2 hts gX5_ifBar_X5_isBar rfl rfl rfl (by decide +kernel) ⟨Nat.le_of_ble_eq_true rfl, Nat.le_of_ble_eq_true rfl⟩) hl.1 rfl (Nat.le_of_ble_eq_true rfl) dX5_ifBar_20 (fun r_6 s_7 H locs hq hP hD hS => ?_)
  obtain ⟨rfl, rfl⟩ := hq
  refine lv_if_eq (tgt := 36) hx hb dX5_ifBar_23 (by decide) (fun c23_7 => ?_) (fun c23_7 => absurd hbad c23_7)
  refine lv_aload_n hx hb dX5_ifBar_36 rfl (lv_at hl 0 rfl) ?_
  refine lv_iconst (v := 2) hx hb dX5_ifBar_37 (by decide) ?_
  refine nVi (As := [.int 2]) (rest := _) hx hb hml hown hts hP hK hD hZ hA hS ⟨Nat.zero_le _, Nat.zero_le _⟩ hM.1 rfl (m_fails l E ad s_1 b (gu (mG N P kp C n th J) 6 (fun _ => 0)) hM 2) (cwV 1 hts gX5_ifBar_X5_fails rfl rfl rfl (by decide +kernel) ⟨Nat.le_of_ble_eq_true rfl, Nat.le_of_ble_eq_true rfl⟩) hl.1 rfl (Nat.le_of_ble_eq_true rfl) dX5_ifBar_38 (fun r_9 s_11 H locs hq hP hD hS => ?_)
  obtain ⟨hrr_9, hM, hf_10⟩ := hq
  have hrr_9 : r_9 = 0 := hrr_9
  have hf := hf.tr hf_10
  have hM : isR E ad s_11 b sM (gu (mG N P kp C n th J) 6 (fun _ => 2)) := hM.eq (all14 rfl rfl rfl rfl rfl rfl rfl rfl rfl rfl rfl rfl rfl rfl)
  exact hret _ _ _ _ _ _ hP hD hS (⟨hrr_9, ⟨J, hM.eq (all14 rfl rfl rfl rfl rfl rfl rfl rfl rfl rfl rfl rfl rfl rfl)⟩, hf⟩) dX5_ifBar_41

set_option maxHeartbeats 4000000 in
set_option maxRecDepth 100000 in
theorem m_bestBar (l : Launch) (E : NE) (ad : Nat → Nat) (st : NW) (b : Nat) (N P : Nat → Int32) (kp : Nat) (C : Nat → Int32) (n : Nat) (th : Int32) (J : Nat → Nat → Int32) (hkp : kp ≤ 6) (hn : n ≤ 60) (hO : okN N) (hM : isR E ad st b sM (mG N P kp C n th J)) (c d : Nat) (t : Int32) (hc : c < 36) (hd : d < 8) (h1 : ¬ t < 1) (h2 : t ≤ 50) : nMi l yX5_bestBar wsX5_bestBar (nRm 7 167) E ad st [.ref (ad b), .int (nI c), .int (nI d), .int t] (fun r s1 => r = fnd1 (bstG (gN N) c (nI d) t) 288 0 ∧ (∃ J1, isR E ad s1 b sM (mG N P kp C n 0 J1)) ∧ fr b st s1) := by
  refine nSi (cc := cX5_bestBar) (maxL := 4) (by decide) rfl (Nat.le_of_ble_eq_true rfl) ?_
  intro pg en s mi ar bw mth cd R Q A ls hx hb hml hown hts hRm hP hK hD hZ hA hl hret
  subst hRm
  have hown : s.vm.findClass RX5 = some mi.cls := hown
  have hS : va_S A s.heap s.heap [] := va_S.rf
  have hl : lv_has ls 4 [(0, .ref (ad b)), (1, .int (nI c)), (2, .int (nI d)), (3, .int t)] := hl
  have hf : fr b st st := fr.rf
  have hdB := hO.1.b
  have ht : ¬ t ≤ 0 := t_pos h1
  have hinX5 : ∀ w ∈ wsX50, w ∈ wsX5_bestBar := by decide +kernel
  refine lv_aload_n hx hb dX5_bestBar_0 rfl (lv_at hl 0 rfl) ?_
  refine lv_iconst (v := 0) hx hb dX5_bestBar_1 (by decide) ?_
  refine rp (v := 0) (ty := .int) (T := TX5) (N := 14) (C := RX5) hx hb hts hinX5 tyX5 tyX5_ok nmX5 hown hK hP hD hS hM rfl 6 (by decide) (hts (.fieldLink RX5 28 "NeedleGridModel" "thrown" "I") (by decide +kernel)) rfl rfl (by decide +kernel) rfl rfl dX5_bestBar_2 (fun s_1 H locs hM hf_2 hP hD hS => ?_)
  have hf := hf.tr hf_2
  refine lv_iload_n hx hb dX5_bestBar_5 rfl (lv_at hl 1 rfl) ?_
  refine nS_i (As := [.int (nI c)]) (rest := _) hx hb hml hown hts hP hK hD hZ hA hS ⟨Nat.zero_le _, Nat.zero_le _⟩ (m_isCell l E ad s_1 (nI c)) (va_cwS 1 hts gX5_bestBar_X5_isCell rfl rfl rfl (by decide +kernel) ⟨Nat.le_of_ble_eq_true rfl, Nat.le_of_ble_eq_true rfl⟩) hl.1 rfl (Nat.le_of_ble_eq_true rfl) dX5_bestBar_6 (fun r_3 s_4 H locs hq hP hD hS => ?_)
  obtain ⟨rfl, rfl⟩ := hq
  refine lv_if_ne (tgt := 18) hx hb dX5_bestBar_9 (by decide) (fun c9_4 => ?_) (fun c9_4 => absurd c9_4 (cell_ok hc))
  refine lv_iload_n hx hb dX5_bestBar_18 rfl (lv_at hl 2 rfl) ?_
  refine lv_iload_n hx hb dX5_bestBar_19 rfl (lv_at hl 3 rfl) ?_
  refine nS_i (As := [.int (nI d), .int t]) (rest := _) hx hb hml hown hts hP hK hD hZ hA hS ⟨Nat.zero_le _, Nat.zero_le _⟩ (m_isBar l E ad s_1 (nI d) t) (va_cwS 2 hts gX5_bestBar_X5_isBar rfl rfl rfl (by decide +kernel) ⟨Nat.le_of_ble_eq_true rfl, Nat.le_of_ble_eq_true rfl⟩) hl.1 rfl (Nat.le_of_ble_eq_true rfl) dX5_bestBar_20 (fun r_6 s_7 H locs hq hP hD hS => ?_)
  obtain ⟨rfl, rfl⟩ := hq
  refine lv_if_eq (tgt := 36) hx hb dX5_bestBar_23 (by decide) (fun c23_7 => absurd c23_7 (bar_ok hd h1 h2)) (fun c23_7 => ?_)
  refine lv_aload_n hx hb dX5_bestBar_26 rfl (lv_at hl 0 rfl) ?_
  refine lv_iload_n hx hb dX5_bestBar_27 rfl (lv_at hl 1 rfl) ?_
  refine lv_iload_n hx hb dX5_bestBar_28 rfl (lv_at hl 2 rfl) ?_
  refine lv_iload_n hx hb dX5_bestBar_29 rfl (lv_at hl 3 rfl) ?_
  refine nVi (As := [.int (nI c), .int (nI d), .int t]) (rest := _) hx hb hml hown hts hP hK hD hZ hA hS ⟨Nat.zero_le _, Nat.zero_le _⟩ hM.1 rfl (m_best l E ad s_1 b N P kp C n 0 J hkp hn hO (hM.eq (all14 rfl rfl rfl rfl rfl rfl rfl rfl rfl rfl rfl rfl rfl rfl)) c d t (by omega) (by omega) ht) (cwV 3 hts gX5_bestBar_X5_best rfl rfl rfl (by decide +kernel) ⟨Nat.le_of_ble_eq_true rfl, Nat.le_of_ble_eq_true rfl⟩) hl.1 rfl (Nat.le_of_ble_eq_true rfl) dX5_bestBar_30 (fun r_9 s_12 H locs hq hP hD hS => ?_)
  obtain ⟨hrr_9, ⟨J_11, hM⟩, hf_10⟩ := hq
  have hf := hf.tr hf_10
  refine lv_goto (tgt := 41) hx hb dX5_bestBar_33 (by decide) ?_
  exact hret _ _ _ _ _ _ hP hD hS (⟨hrr_9, ⟨J_11, hM.eq (all14 rfl rfl rfl rfl rfl rfl rfl rfl rfl rfl rfl rfl rfl rfl)⟩, hf⟩) dX5_bestBar_41

set_option maxHeartbeats 4000000 in
set_option maxRecDepth 100000 in
theorem m_bestBar_c (l : Launch) (E : NE) (ad : Nat → Nat) (st : NW) (b : Nat) (N P : Nat → Int32) (kp : Nat) (C : Nat → Int32) (n : Nat) (th : Int32) (J : Nat → Nat → Int32) (hkp : kp ≤ 6) (hn : n ≤ 60) (hO : okN N) (hM : isR E ad st b sM (mG N P kp C n th J)) (v : Int32) (hbad : inI v 0 35 = 0) (w t : Int32) : nMi l yX5_bestBar wsX5_bestBar (nRm 7 167) E ad st [.ref (ad b), .int v, .int w, .int t] (fun r s1 => r = 0 ∧ (∃ J1, isR E ad s1 b sM (mG N P kp C n 1 J1)) ∧ fr b st s1) := by
  refine nSi (cc := cX5_bestBar) (maxL := 4) (by decide) rfl (Nat.le_of_ble_eq_true rfl) ?_
  intro pg en s mi ar bw mth cd R Q A ls hx hb hml hown hts hRm hP hK hD hZ hA hl hret
  subst hRm
  have hown : s.vm.findClass RX5 = some mi.cls := hown
  have hS : va_S A s.heap s.heap [] := va_S.rf
  have hl : lv_has ls 4 [(0, .ref (ad b)), (1, .int v), (2, .int w), (3, .int t)] := hl
  have hf : fr b st st := fr.rf
  have hdB := hO.1.b
  have hinX5 : ∀ w ∈ wsX50, w ∈ wsX5_bestBar := by decide +kernel
  refine lv_aload_n hx hb dX5_bestBar_0 rfl (lv_at hl 0 rfl) ?_
  refine lv_iconst (v := 0) hx hb dX5_bestBar_1 (by decide) ?_
  refine rp (v := 0) (ty := .int) (T := TX5) (N := 14) (C := RX5) hx hb hts hinX5 tyX5 tyX5_ok nmX5 hown hK hP hD hS hM rfl 6 (by decide) (hts (.fieldLink RX5 28 "NeedleGridModel" "thrown" "I") (by decide +kernel)) rfl rfl (by decide +kernel) rfl rfl dX5_bestBar_2 (fun s_1 H locs hM hf_2 hP hD hS => ?_)
  have hf := hf.tr hf_2
  refine lv_iload_n hx hb dX5_bestBar_5 rfl (lv_at hl 1 rfl) ?_
  refine nS_i (As := [.int v]) (rest := _) hx hb hml hown hts hP hK hD hZ hA hS ⟨Nat.zero_le _, Nat.zero_le _⟩ (m_isCell l E ad s_1 v) (va_cwS 1 hts gX5_bestBar_X5_isCell rfl rfl rfl (by decide +kernel) ⟨Nat.le_of_ble_eq_true rfl, Nat.le_of_ble_eq_true rfl⟩) hl.1 rfl (Nat.le_of_ble_eq_true rfl) dX5_bestBar_6 (fun r_3 s_4 H locs hq hP hD hS => ?_)
  obtain ⟨rfl, rfl⟩ := hq
  refine lv_if_ne (tgt := 18) hx hb dX5_bestBar_9 (by decide) (fun c9_4 => absurd hbad c9_4) (fun c9_4 => ?_)
  refine lv_aload_n hx hb dX5_bestBar_12 rfl (lv_at hl 0 rfl) ?_
  refine lv_iconst (v := 1) hx hb dX5_bestBar_13 (by decide) ?_
  refine nVi (As := [.int 1]) (rest := _) hx hb hml hown hts hP hK hD hZ hA hS ⟨Nat.zero_le _, Nat.zero_le _⟩ hM.1 rfl (m_fails l E ad s_1 b (gu (mG N P kp C n th J) 6 (fun _ => 0)) hM 1) (cwV 1 hts gX5_bestBar_X5_fails rfl rfl rfl (by decide +kernel) ⟨Nat.le_of_ble_eq_true rfl, Nat.le_of_ble_eq_true rfl⟩) hl.1 rfl (Nat.le_of_ble_eq_true rfl) dX5_bestBar_14 (fun r_6 s_8 H locs hq hP hD hS => ?_)
  obtain ⟨hrr_6, hM, hf_7⟩ := hq
  have hrr_6 : r_6 = 0 := hrr_6
  have hf := hf.tr hf_7
  have hM : isR E ad s_8 b sM (gu (mG N P kp C n th J) 6 (fun _ => 1)) := hM.eq (all14 rfl rfl rfl rfl rfl rfl rfl rfl rfl rfl rfl rfl rfl rfl)
  exact hret _ _ _ _ _ _ hP hD hS (⟨hrr_6, ⟨J, hM.eq (all14 rfl rfl rfl rfl rfl rfl rfl rfl rfl rfl rfl rfl rfl rfl)⟩, hf⟩) dX5_bestBar_17

set_option maxHeartbeats 4000000 in
set_option maxRecDepth 100000 in
theorem m_bestBar_d (l : Launch) (E : NE) (ad : Nat → Nat) (st : NW) (b : Nat) (N P : Nat → Int32) (kp : Nat) (C : Nat → Int32) (n : Nat) (th : Int32) (J : Nat → Nat → Int32) (hkp : kp ≤ 6) (hn : n ≤ 60) (hO : okN N) (hM : isR E ad st b sM (mG N P kp C n th J)) (c : Nat) (hc : c < 36) (v t : Int32) (hbad : (if inI v 0 7 = 0 then (0 : Int32) else if inI t 1 50 = 0 then 0 else 1) = 0) : nMi l yX5_bestBar wsX5_bestBar (nRm 7 167) E ad st [.ref (ad b), .int (nI c), .int v, .int t] (fun r s1 => r = 0 ∧ (∃ J1, isR E ad s1 b sM (mG N P kp C n 2 J1)) ∧ fr b st s1) := by
  refine nSi (cc := cX5_bestBar) (maxL := 4) (by decide) rfl (Nat.le_of_ble_eq_true rfl) ?_
  intro pg en s mi ar bw mth cd R Q A ls hx hb hml hown hts hRm hP hK hD hZ hA hl hret
  subst hRm
  have hown : s.vm.findClass RX5 = some mi.cls := hown
  have hS : va_S A s.heap s.heap [] := va_S.rf
  have hl : lv_has ls 4 [(0, .ref (ad b)), (1, .int (nI c)), (2, .int v), (3, .int t)] := hl
  have hf : fr b st st := fr.rf
  have hdB := hO.1.b
  have hinX5 : ∀ w ∈ wsX50, w ∈ wsX5_bestBar := by decide +kernel
  refine lv_aload_n hx hb dX5_bestBar_0 rfl (lv_at hl 0 rfl) ?_
  refine lv_iconst (v := 0) hx hb dX5_bestBar_1 (by decide) ?_
  refine rp (v := 0) (ty := .int) (T := TX5) (N := 14) (C := RX5) hx hb hts hinX5 tyX5 tyX5_ok nmX5 hown hK hP hD hS hM rfl 6 (by decide) (hts (.fieldLink RX5 28 "NeedleGridModel" "thrown" "I") (by decide +kernel)) rfl rfl (by decide +kernel) rfl rfl dX5_bestBar_2 (fun s_1 H locs hM hf_2 hP hD hS => ?_)
  have hf := hf.tr hf_2
  refine lv_iload_n hx hb dX5_bestBar_5 rfl (lv_at hl 1 rfl) ?_
  refine nS_i (As := [.int (nI c)]) (rest := _) hx hb hml hown hts hP hK hD hZ hA hS ⟨Nat.zero_le _, Nat.zero_le _⟩ (m_isCell l E ad s_1 (nI c)) (va_cwS 1 hts gX5_bestBar_X5_isCell rfl rfl rfl (by decide +kernel) ⟨Nat.le_of_ble_eq_true rfl, Nat.le_of_ble_eq_true rfl⟩) hl.1 rfl (Nat.le_of_ble_eq_true rfl) dX5_bestBar_6 (fun r_3 s_4 H locs hq hP hD hS => ?_)
  obtain ⟨rfl, rfl⟩ := hq
  refine lv_if_ne (tgt := 18) hx hb dX5_bestBar_9 (by decide) (fun c9_4 => ?_) (fun c9_4 => absurd c9_4 (cell_ok hc))
  refine lv_iload_n hx hb dX5_bestBar_18 rfl (lv_at hl 2 rfl) ?_
  refine lv_iload_n hx hb dX5_bestBar_19 rfl (lv_at hl 3 rfl) ?_
  refine nS_i (As := [.int v, .int t]) (rest := _) hx hb hml hown hts hP hK hD hZ hA hS ⟨Nat.zero_le _, Nat.zero_le _⟩ (m_isBar l E ad s_1 v t) (va_cwS 2 hts gX5_bestBar_X5_isBar rfl rfl rfl (by decide +kernel) ⟨Nat.le_of_ble_eq_true rfl, Nat.le_of_ble_eq_true rfl⟩) hl.1 rfl (Nat.le_of_ble_eq_true rfl) dX5_bestBar_20 (fun r_6 s_7 H locs hq hP hD hS => ?_)
  obtain ⟨rfl, rfl⟩ := hq
  refine lv_if_eq (tgt := 36) hx hb dX5_bestBar_23 (by decide) (fun c23_7 => ?_) (fun c23_7 => absurd hbad c23_7)
  refine lv_aload_n hx hb dX5_bestBar_36 rfl (lv_at hl 0 rfl) ?_
  refine lv_iconst (v := 2) hx hb dX5_bestBar_37 (by decide) ?_
  refine nVi (As := [.int 2]) (rest := _) hx hb hml hown hts hP hK hD hZ hA hS ⟨Nat.zero_le _, Nat.zero_le _⟩ hM.1 rfl (m_fails l E ad s_1 b (gu (mG N P kp C n th J) 6 (fun _ => 0)) hM 2) (cwV 1 hts gX5_bestBar_X5_fails rfl rfl rfl (by decide +kernel) ⟨Nat.le_of_ble_eq_true rfl, Nat.le_of_ble_eq_true rfl⟩) hl.1 rfl (Nat.le_of_ble_eq_true rfl) dX5_bestBar_38 (fun r_9 s_11 H locs hq hP hD hS => ?_)
  obtain ⟨hrr_9, hM, hf_10⟩ := hq
  have hrr_9 : r_9 = 0 := hrr_9
  have hf := hf.tr hf_10
  have hM : isR E ad s_11 b sM (gu (mG N P kp C n th J) 6 (fun _ => 2)) := hM.eq (all14 rfl rfl rfl rfl rfl rfl rfl rfl rfl rfl rfl rfl rfl rfl)
  exact hret _ _ _ _ _ _ hP hD hS (⟨hrr_9, ⟨J, hM.eq (all14 rfl rfl rfl rfl rfl rfl rfl rfl rfl rfl rfl rfl rfl rfl)⟩, hf⟩) dX5_bestBar_41

set_option maxHeartbeats 4000000 in
set_option maxRecDepth 100000 in
theorem m_leastTurns (l : Launch) (E : NE) (ad : Nat → Nat) (st : NW) (b : Nat) (N P : Nat → Int32) (kp : Nat) (C : Nat → Int32) (n : Nat) (th : Int32) (J : Nat → Nat → Int32) (hkp : kp ≤ 6) (hn : n ≤ 60) (hO : okN N) (hM : isR E ad st b sM (mG N P kp C n th J)) (c : Nat) (hc : c < 36)  : nMi l yX5_leastTurns wsX5_leastTurns (nRm 7 164) E ad st [.ref (ad b), .int (nI c)] (fun r s1 => r = fnd1 (lstG (gN N) c) 51 0 ∧ (∃ J1, isR E ad s1 b sM (mG N P kp C n 0 J1)) ∧ fr b st s1) := by
  refine nSi (cc := cX5_leastTurns) (maxL := 2) (by decide) rfl (Nat.le_of_ble_eq_true rfl) ?_
  intro pg en s mi ar bw mth cd R Q A ls hx hb hml hown hts hRm hP hK hD hZ hA hl hret
  subst hRm
  have hown : s.vm.findClass RX5 = some mi.cls := hown
  have hS : va_S A s.heap s.heap [] := va_S.rf
  have hl : lv_has ls 2 [(0, .ref (ad b)), (1, .int (nI c))] := hl
  have hf : fr b st st := fr.rf
  have hdB := hO.1.b
  have hinX5 : ∀ w ∈ wsX50, w ∈ wsX5_leastTurns := by decide +kernel
  refine lv_aload_n hx hb dX5_leastTurns_0 rfl (lv_at hl 0 rfl) ?_
  refine lv_iconst (v := 0) hx hb dX5_leastTurns_1 (by decide) ?_
  refine rp (v := 0) (ty := .int) (T := TX5) (N := 14) (C := RX5) hx hb hts hinX5 tyX5 tyX5_ok nmX5 hown hK hP hD hS hM rfl 6 (by decide) (hts (.fieldLink RX5 28 "NeedleGridModel" "thrown" "I") (by decide +kernel)) rfl rfl (by decide +kernel) rfl rfl dX5_leastTurns_2 (fun s_1 H locs hM hf_2 hP hD hS => ?_)
  have hf := hf.tr hf_2
  refine lv_iload_n hx hb dX5_leastTurns_5 rfl (lv_at hl 1 rfl) ?_
  refine nS_i (As := [.int (nI c)]) (rest := _) hx hb hml hown hts hP hK hD hZ hA hS ⟨Nat.zero_le _, Nat.zero_le _⟩ (m_isCell l E ad s_1 (nI c)) (va_cwS 1 hts gX5_leastTurns_X5_isCell rfl rfl rfl (by decide +kernel) ⟨Nat.le_of_ble_eq_true rfl, Nat.le_of_ble_eq_true rfl⟩) hl.1 rfl (Nat.le_of_ble_eq_true rfl) dX5_leastTurns_6 (fun r_3 s_4 H locs hq hP hD hS => ?_)
  obtain ⟨rfl, rfl⟩ := hq
  refine lv_if_eq (tgt := 20) hx hb dX5_leastTurns_9 (by decide) (fun c9_4 => absurd c9_4 (cell_ok hc)) (fun c9_4 => ?_)
  refine lv_aload_n hx hb dX5_leastTurns_12 rfl (lv_at hl 0 rfl) ?_
  refine lv_iload_n hx hb dX5_leastTurns_13 rfl (lv_at hl 1 rfl) ?_
  refine nVi (As := [.int (nI c)]) (rest := _) hx hb hml hown hts hP hK hD hZ hA hS ⟨Nat.zero_le _, Nat.zero_le _⟩ hM.1 rfl (m_least l E ad s_1 b N P kp C n 0 J hkp hn hO (hM.eq (all14 rfl rfl rfl rfl rfl rfl rfl rfl rfl rfl rfl rfl rfl rfl)) c (by omega)) (cwV 1 hts gX5_leastTurns_X5_least rfl rfl rfl (by decide +kernel) ⟨Nat.le_of_ble_eq_true rfl, Nat.le_of_ble_eq_true rfl⟩) hl.1 rfl (Nat.le_of_ble_eq_true rfl) dX5_leastTurns_14 (fun r_6 s_9 H locs hq hP hD hS => ?_)
  obtain ⟨hrr_6, ⟨J_8, hM⟩, hf_7⟩ := hq
  have hf := hf.tr hf_7
  refine lv_goto (tgt := 25) hx hb dX5_leastTurns_17 (by decide) ?_
  exact hret _ _ _ _ _ _ hP hD hS (⟨hrr_6, ⟨J_8, hM.eq (all14 rfl rfl rfl rfl rfl rfl rfl rfl rfl rfl rfl rfl rfl rfl)⟩, hf⟩) dX5_leastTurns_25

set_option maxHeartbeats 4000000 in
set_option maxRecDepth 100000 in
theorem m_leastTurns_c (l : Launch) (E : NE) (ad : Nat → Nat) (st : NW) (b : Nat) (N P : Nat → Int32) (kp : Nat) (C : Nat → Int32) (n : Nat) (th : Int32) (J : Nat → Nat → Int32) (hkp : kp ≤ 6) (hn : n ≤ 60) (hO : okN N) (hM : isR E ad st b sM (mG N P kp C n th J)) (v : Int32) (hbad : inI v 0 35 = 0) : nMi l yX5_leastTurns wsX5_leastTurns (nRm 7 164) E ad st [.ref (ad b), .int v] (fun r s1 => r = 0 ∧ (∃ J1, isR E ad s1 b sM (mG N P kp C n 1 J1)) ∧ fr b st s1) := by
  refine nSi (cc := cX5_leastTurns) (maxL := 2) (by decide) rfl (Nat.le_of_ble_eq_true rfl) ?_
  intro pg en s mi ar bw mth cd R Q A ls hx hb hml hown hts hRm hP hK hD hZ hA hl hret
  subst hRm
  have hown : s.vm.findClass RX5 = some mi.cls := hown
  have hS : va_S A s.heap s.heap [] := va_S.rf
  have hl : lv_has ls 2 [(0, .ref (ad b)), (1, .int v)] := hl
  have hf : fr b st st := fr.rf
  have hdB := hO.1.b
  have hinX5 : ∀ w ∈ wsX50, w ∈ wsX5_leastTurns := by decide +kernel
  refine lv_aload_n hx hb dX5_leastTurns_0 rfl (lv_at hl 0 rfl) ?_
  refine lv_iconst (v := 0) hx hb dX5_leastTurns_1 (by decide) ?_
  refine rp (v := 0) (ty := .int) (T := TX5) (N := 14) (C := RX5) hx hb hts hinX5 tyX5 tyX5_ok nmX5 hown hK hP hD hS hM rfl 6 (by decide) (hts (.fieldLink RX5 28 "NeedleGridModel" "thrown" "I") (by decide +kernel)) rfl rfl (by decide +kernel) rfl rfl dX5_leastTurns_2 (fun s_1 H locs hM hf_2 hP hD hS => ?_)
  have hf := hf.tr hf_2
  refine lv_iload_n hx hb dX5_leastTurns_5 rfl (lv_at hl 1 rfl) ?_
  refine nS_i (As := [.int v]) (rest := _) hx hb hml hown hts hP hK hD hZ hA hS ⟨Nat.zero_le _, Nat.zero_le _⟩ (m_isCell l E ad s_1 v) (va_cwS 1 hts gX5_leastTurns_X5_isCell rfl rfl rfl (by decide +kernel) ⟨Nat.le_of_ble_eq_true rfl, Nat.le_of_ble_eq_true rfl⟩) hl.1 rfl (Nat.le_of_ble_eq_true rfl) dX5_leastTurns_6 (fun r_3 s_4 H locs hq hP hD hS => ?_)
  obtain ⟨rfl, rfl⟩ := hq
  refine lv_if_eq (tgt := 20) hx hb dX5_leastTurns_9 (by decide) (fun c9_4 => ?_) (fun c9_4 => absurd hbad c9_4)
  refine lv_aload_n hx hb dX5_leastTurns_20 rfl (lv_at hl 0 rfl) ?_
  refine lv_iconst (v := 1) hx hb dX5_leastTurns_21 (by decide) ?_
  refine nVi (As := [.int 1]) (rest := _) hx hb hml hown hts hP hK hD hZ hA hS ⟨Nat.zero_le _, Nat.zero_le _⟩ hM.1 rfl (m_fails l E ad s_1 b (gu (mG N P kp C n th J) 6 (fun _ => 0)) hM 1) (cwV 1 hts gX5_leastTurns_X5_fails rfl rfl rfl (by decide +kernel) ⟨Nat.le_of_ble_eq_true rfl, Nat.le_of_ble_eq_true rfl⟩) hl.1 rfl (Nat.le_of_ble_eq_true rfl) dX5_leastTurns_22 (fun r_6 s_8 H locs hq hP hD hS => ?_)
  obtain ⟨hrr_6, hM, hf_7⟩ := hq
  have hrr_6 : r_6 = 0 := hrr_6
  have hf := hf.tr hf_7
  have hM : isR E ad s_8 b sM (gu (mG N P kp C n th J) 6 (fun _ => 1)) := hM.eq (all14 rfl rfl rfl rfl rfl rfl rfl rfl rfl rfl rfl rfl rfl rfl)
  exact hret _ _ _ _ _ _ hP hD hS (⟨hrr_6, ⟨J, hM.eq (all14 rfl rfl rfl rfl rfl rfl rfl rfl rfl rfl rfl rfl rfl rfl)⟩, hf⟩) dX5_leastTurns_25

set_option maxHeartbeats 4000000 in
set_option maxRecDepth 100000 in
theorem m_obedience (l : Launch) (E : NE) (ad : Nat → Nat) (st : NW) (b : Nat) (N P : Nat → Int32) (kp : Nat) (C : Nat → Int32) (n : Nat) (th : Int32) (J : Nat → Nat → Int32) (hkp : kp ≤ 6) (hn : n ≤ 60) (hO : okN N) (hM : isR E ad st b sM (mG N P kp C n th J))  : nMd l yX5_obedience wsX5_obedience (nRm 8 190) E ad st [.ref (ad b)] (fun r s1 => r = obV N ∧ (∃ J1, isR E ad s1 b sM (mG N P kp C n 0 J1)) ∧ fr b st s1) := by
  refine nSd (cc := cX5_obedience) (maxL := 1) (by decide) rfl (Nat.le_of_ble_eq_true rfl) ?_
  intro pg en s mi ar bw mth cd R Q A ls hx hb hml hown hts hRm hP hK hD hZ hA hl hret
  subst hRm
  have hown : s.vm.findClass RX5 = some mi.cls := hown
  have hS : va_S A s.heap s.heap [] := va_S.rf
  have hl : lv_has ls 1 [(0, .ref (ad b))] := hl
  have hf : fr b st st := fr.rf
  have hdB := hO.1.b
  have hinX5 : ∀ w ∈ wsX50, w ∈ wsX5_obedience := by decide +kernel
  refine lv_aload_n hx hb dX5_obedience_0 rfl (lv_at hl 0 rfl) ?_
  refine lv_iconst (v := 0) hx hb dX5_obedience_1 (by decide) ?_
  refine rp (v := 0) (ty := .int) (T := TX5) (N := 14) (C := RX5) hx hb hts hinX5 tyX5 tyX5_ok nmX5 hown hK hP hD hS hM rfl 6 (by decide) (hts (.fieldLink RX5 28 "NeedleGridModel" "thrown" "I") (by decide +kernel)) rfl rfl (by decide +kernel) rfl rfl dX5_obedience_2 (fun s_1 H locs hM hf_2 hP hD hS => ?_)
  have hf := hf.tr hf_2
  refine lv_aload_n hx hb dX5_obedience_5 rfl (lv_at hl 0 rfl) ?_
  refine nVd (As := []) (rest := _) hx hb hml hown hts hP hK hD hZ hA hS ⟨Nat.zero_le _, Nat.zero_le _⟩ hM.1 rfl (m_share l E ad s_1 b N P kp C n 0 J hkp hn hO (hM.eq (all14 rfl rfl rfl rfl rfl rfl rfl rfl rfl rfl rfl rfl rfl rfl)) ) (cwV 0 hts gX5_obedience_X5_share rfl rfl rfl (by decide +kernel) ⟨Nat.le_of_ble_eq_true rfl, Nat.le_of_ble_eq_true rfl⟩) hl.1 rfl (Nat.le_of_ble_eq_true rfl) dX5_obedience_6 (fun r_3 s_6 H locs hq hP hD hS => ?_)
  obtain ⟨hrr_3, ⟨J_5, hM⟩, hf_4⟩ := hq
  have hf := hf.tr hf_4
  exact hret _ _ _ _ _ _ hP hD hS (⟨hrr_3, ⟨J_5, hM.eq (all14 rfl rfl rfl rfl rfl rfl rfl rfl rfl rfl rfl rfl rfl rfl)⟩, hf⟩) dX5_obedience_9

set_option maxHeartbeats 4000000 in
set_option maxRecDepth 100000 in
theorem m_thrown (l : Launch) (E : NE) (ad : Nat → Nat) (st : NW) (b : Nat) (G : Nat → Nat → Int32) (hM : isR E ad st b sM G) : nMi l yX5_thrown wsX5_thrown (nRm 0 0) E ad st [.ref (ad b)] (fun r s1 => r = G 6 0 ∧ st = s1) := by
  refine nSi (cc := cX5_thrown) (maxL := 1) (by decide) rfl (Nat.le_of_ble_eq_true rfl) ?_
  intro pg en s mi ar bw mth cd R Q A ls hx hb hml hown hts hRm hP hK hD hZ hA hl hret
  subst hRm
  have hown : s.vm.findClass RX5 = some mi.cls := hown
  have hS : va_S A s.heap s.heap [] := va_S.rf
  have hl : lv_has ls 1 [(0, .ref (ad b))] := hl
  have hinX5 : ∀ w ∈ wsX50, w ∈ wsX5_thrown := by decide +kernel
  refine lv_aload_n hx hb dX5_thrown_0 rfl (lv_at hl 0 rfl) ?_
  refine rg (v := .int (G 6 0)) (T := TX5) (N := 14) (C := RX5) hx hb hts hinX5 hown hK hP hM rfl 6 (by decide) (hts (.fieldLink RX5 28 "NeedleGridModel" "thrown" "I") (by decide +kernel)) rfl dX5_thrown_1 ?_
  exact hret _ _ _ _ _ _ hP hD hS (⟨rfl, rfl⟩) dX5_thrown_4

set_option maxHeartbeats 4000000 in
set_option maxRecDepth 100000 in
theorem m_fails (l : Launch) (E : NE) (ad : Nat → Nat) (st : NW) (b : Nat) (G : Nat → Nat → Int32) (hM : isR E ad st b sM G) (v : Int32) : nMi l yX5_fails wsX5_fails (nRm 0 0) E ad st [.ref (ad b), .int v] (fun r s1 => r = 0 ∧ isR E ad s1 b sM (gu G 6 (fun _ => v)) ∧ fr b st s1) := by
  refine nSi (cc := cX5_fails) (maxL := 2) (by decide) rfl (Nat.le_of_ble_eq_true rfl) ?_
  intro pg en s mi ar bw mth cd R Q A ls hx hb hml hown hts hRm hP hK hD hZ hA hl hret
  subst hRm
  have hown : s.vm.findClass RX5 = some mi.cls := hown
  have hS : va_S A s.heap s.heap [] := va_S.rf
  have hl : lv_has ls 2 [(0, .ref (ad b)), (1, .int v)] := hl
  have hf : fr b st st := fr.rf
  have hinX5 : ∀ w ∈ wsX50, w ∈ wsX5_fails := by decide +kernel
  refine lv_aload_n hx hb dX5_fails_0 rfl (lv_at hl 0 rfl) ?_
  refine lv_iload_n hx hb dX5_fails_1 rfl (lv_at hl 1 rfl) ?_
  refine rp (v := v) (ty := .int) (T := TX5) (N := 14) (C := RX5) hx hb hts hinX5 tyX5 tyX5_ok nmX5 hown hK hP hD hS hM rfl 6 (by decide) (hts (.fieldLink RX5 28 "NeedleGridModel" "thrown" "I") (by decide +kernel)) rfl rfl (by decide +kernel) rfl rfl dX5_fails_2 (fun s_1 H locs hM hf_2 hP hD hS => ?_)
  have hf := hf.tr hf_2
  refine lv_iconst (v := 0) hx hb dX5_fails_5 (by decide) ?_
  exact hret _ _ _ _ _ _ hP hD hS (⟨rfl, hM, hf⟩) dX5_fails_6

set_option maxHeartbeats 4000000 in
set_option maxRecDepth 100000 in
theorem m_changes (l : Launch) (E : NE) (ad : Nat → Nat) (st : NW) (b : Nat) (G : Nat → Nat → Int32) (hM : isR E ad st b sM G) (j : Nat) (hj : j < 186) (v : Int32) : nMi l yX5_changes wsX5_changes (nRm 0 0) E ad st [.ref (ad b), .int (nI j), .int v] (fun r s1 => r = G 0 j ∧ isR E ad s1 b sM (gu G 0 (upd (G 0) j v)) ∧ fr b st s1) := by
  refine nSi (cc := cX5_changes) (maxL := 4) (by decide) rfl (Nat.le_of_ble_eq_true rfl) ?_
  intro pg en s mi ar bw mth cd R Q A ls hx hb hml hown hts hRm hP hK hD hZ hA hl hret
  subst hRm
  have hown : s.vm.findClass RX5 = some mi.cls := hown
  have hS : va_S A s.heap s.heap [] := va_S.rf
  have hl : lv_has ls 4 [(0, .ref (ad b)), (1, .int (nI j)), (2, .int v)] := hl
  have hf : fr b st st := fr.rf
  have hinX5 : ∀ w ∈ wsX50, w ∈ wsX5_changes := by decide +kernel
  refine lv_aload_n hx hb dX5_changes_0 rfl (lv_at hl 0 rfl) ?_
  refine rg (v := .ref (ad (b + 1 + 0))) (T := TX5) (N := 14) (C := RX5) hx hb hts hinX5 hown hK hP hM rfl 0 (by decide) (hts (.fieldLink RX5 7 "NeedleGridModel" "now" "[I") (by decide +kernel)) rfl dX5_changes_1 ?_
  refine lv_iload_n hx hb dX5_changes_4 rfl (lv_at hl 1 rfl) ?_
  refine ra (j := j) (n := 186) hx hb hK hP hM 0 rfl (by omega) (by decide) dX5_changes_5 ?_
  refine lv_topi (fun x3_6 ex3_6 => ?_)
  have ex3_6 : x3_6 = G 0 j := ex3_6
  refine lv_istore_n (lv' := [(3, .int x3_6), (0, .ref (ad b)), (1, .int (nI j)), (2, .int v)]) hx hb dX5_changes_6 rfl hl (by decide) rfl (fun ls hl => ?_)
  refine lv_aload_n hx hb dX5_changes_7 rfl (lv_at hl 1 rfl) ?_
  refine rg (v := .ref (ad (b + 1 + 0))) (T := TX5) (N := 14) (C := RX5) hx hb hts hinX5 hown hK hP hM rfl 0 (by decide) (hts (.fieldLink RX5 7 "NeedleGridModel" "now" "[I") (by decide +kernel)) rfl dX5_changes_8 ?_
  refine lv_iload_n hx hb dX5_changes_11 rfl (lv_at hl 2 rfl) ?_
  refine lv_iload_n hx hb dX5_changes_12 rfl (lv_at hl 3 rfl) ?_
  refine rs (j := j) (n := 186) (x := v) hx hb hK hP hD hS hM 0 rfl (by decide) (by omega) (by decide) dX5_changes_13 (fun s_1 H locs hM hf_2 hP hD hS => ?_)
  have hf := hf.tr hf_2
  refine lv_iload_n hx hb dX5_changes_14 rfl (lv_at hl 0 rfl) ?_
  exact hret _ _ _ _ _ _ hP hD hS (⟨by subst ex3_6; rfl, hM, hf⟩) dX5_changes_15

set_option maxHeartbeats 4000000 in
set_option maxRecDepth 100000 in
theorem m_allTurn0 (l : Launch) (E : NE) (ad : Nat → Nat) (st : NW) (b : Nat) (G : Nat → Nat → Int32) (hM : isR E ad st b sM G) (hdB : okB (G 0)) : nMi l yX5_allTurn wsX5_allTurn (nRm 7 166) E ad st [.ref (ad b), .ref (ad (b + 1 + 0))] (fun r s1 => r = nI (cnI (mTP (G 0)) 36) ∧ (∃ z1 z2 z3, isR E ad s1 b sM (gu (gu (gu (gu G 0 (mStp (G 0))) 11 z1) 12 z2) 13 z3)) ∧ fr b st s1) := by
  refine nSi (cc := cX5_allTurn) (maxL := 4) (by decide) rfl (Nat.le_of_ble_eq_true rfl) ?_
  intro pg en s mi ar bw mth cd R Q A ls hx hb hml hown hts hRm hP hK hD hZ hA hl hret
  subst hRm
  have hown : s.vm.findClass RX5 = some mi.cls := hown
  have hS : va_S A s.heap s.heap [] := va_S.rf
  have hl : lv_has ls 4 [(0, .ref (ad b)), (1, .ref (ad (b + 1 + 0)))] := hl
  have hf : fr b st st := fr.rf
  have hinX5 : ∀ w ∈ wsX50, w ∈ wsX5_allTurn := by decide +kernel
  refine lv_iconst (v := 0) hx hb dX5_allTurn_0 (by decide) ?_
  refine lv_istore_n (lv' := [(2, .int 0), (0, .ref (ad b)), (1, .ref (ad (b + 1 + 0)))]) hx hb dX5_allTurn_1 rfl hl (by decide) rfl (fun ls hl => ?_)
  refine lv_iconst (v := 0) hx hb dX5_allTurn_2 (by decide) ?_
  refine lv_istore_n (lv' := [(3, .int 0), (2, .int 0), (0, .ref (ad b)), (1, .ref (ad (b + 1 + 0)))]) hx hb dX5_allTurn_3 rfl hl (by decide) rfl (fun ls hl => ?_)
  have LP_1 : ∀ (k9 i : Nat), i ≤ 36 → 36 - i < k9 → ∀ (sL_2 : NW) (H : Heap) (locs : List Loc) (ls : Array Slot) (za : Nat → Int32) (zb : Nat → Int32), isR E ad sL_2 b sM (gu (gu (gu G 11 (fil (mTu (G 0)) (G 11) i)) 12 za) 13 zb) → fr b st sL_2 → nP E ad sL_2 H → nD A ad sL_2 → va_S A s.heap H locs → lv_has ls 4 [(2, .int (nI (cnI (mTP (G 0)) i))), (3, .int (nI i)), (0, .ref (ad b)), (1, .ref (ad (b + 1 + 0)))] → W pg l en (nRm 7 166) s mi ar bw mth cd H locs 0 0 Q (F0 mi 4 ls []) := by
    intro k9
    induction k9 with
    | zero => intro i _ h9; exact absurd h9 (Nat.not_lt_zero _)
    | succ k9 ih4 =>
      intro i hi hk9 sL_2 H locs ls za zb hM hf hP hD hS hl
      refine lv_iload_n hx hb dX5_allTurn_4 rfl (lv_at hl 1 rfl) ?_
      refine lv_bipush (v := 36) hx hb dX5_allTurn_5 (by decide) ?_
      refine lv_icmp_ge (tgt := 51) hx hb dX5_allTurn_7 (by decide) (fun c7_2 => ?_) (fun c7_2 => ?_)
      · have h36 : 36 ≤ i := (nI_geL (n := 36) rfl (by decide) (by omega)).mp c7_2
        obtain rfl : i = 36 := by omega
        refine lv_iconst (v := 0) hx hb dX5_allTurn_51 (by decide) ?_
        refine lv_istore_n (lv' := [(3, .int 0), (2, .int (nI (cnI (mTP (G 0)) 36))), (0, .ref (ad b)), (1, .ref (ad (b + 1 + 0)))]) hx hb dX5_allTurn_52 rfl hl (by decide) rfl (fun ls hl => ?_)
        have LP_4 : ∀ (k9 j : Nat), j ≤ 36 → 36 - j < k9 → ∀ (sL_5 : NW) (H : Heap) (locs : List Loc) (ls : Array Slot) (za2 : Nat → Int32) (zb2 : Nat → Int32), isR E ad sL_5 b sM (gu (gu (gu (gu G 11 (fil (mTu (G 0)) (G 11) 36)) 12 zb2) 13 za2) 0 (stI (G 0) (mTu (G 0)) j)) → fr b st sL_5 → nP E ad sL_5 H → nD A ad sL_5 → va_S A s.heap H locs → lv_has ls 4 [(2, .int (nI (cnI (mTP (G 0)) 36))), (3, .int (nI j)), (0, .ref (ad b)), (1, .ref (ad (b + 1 + 0)))] → W pg l en (nRm 7 166) s mi ar bw mth cd H locs 0 0 Q (F0 mi 53 ls []) := by
          intro k9
          induction k9 with
          | zero => intro j _ h9; exact absurd h9 (Nat.not_lt_zero _)
          | succ k9 ih53 =>
            intro j hi hk9 sL_5 H locs ls za2 zb2 hM hf hP hD hS hl
            refine lv_iload_n hx hb dX5_allTurn_53 rfl (lv_at hl 1 rfl) ?_
            refine lv_bipush (v := 36) hx hb dX5_allTurn_54 (by decide) ?_
            refine lv_icmp_ge (tgt := 77) hx hb dX5_allTurn_56 (by decide) (fun c56_5 => ?_) (fun c56_5 => ?_)
            · have h36 : 36 ≤ j := (nI_geL (n := 36) rfl (by decide) (by omega)).mp c56_5
              obtain rfl : j = 36 := by omega
              refine lv_iload_n hx hb dX5_allTurn_77 rfl (lv_at hl 0 rfl) ?_
              exact hret _ _ _ _ _ _ hP hD hS (⟨rfl, ⟨fil (mTu (G 0)) (G 11) 36, zb2, za2, hM.eq (all14 rfl rfl rfl rfl rfl rfl rfl rfl rfl rfl rfl rfl rfl rfl)⟩, hf⟩) dX5_allTurn_78
            · have hlt : j < 36 := by have := mt (nI_geL (n := 36) (i := j) rfl (by decide) (by omega)).mpr c56_5; omega
              refine lv_aload_n hx hb dX5_allTurn_59 rfl (lv_at hl 3 rfl) ?_
              refine lv_bipush (v := 6) hx hb dX5_allTurn_60 (by decide) ?_
              refine lv_iload_n hx hb dX5_allTurn_62 rfl (lv_at hl 1 rfl) ?_
              refine lv_iadd hx hb dX5_allTurn_63 ?_
              rw [show 6 + nI j = nI (6 + j) from nI_add 6 j]
              refine lv_aload_n hx hb dX5_allTurn_64 rfl (lv_at hl 2 rfl) ?_
              refine rg (v := .ref (ad (b + 1 + 11))) (T := TX5) (N := 14) (C := RX5) hx hb hts hinX5 hown hK hP hM rfl 11 (by decide) (hts (.fieldLink RX5 25 "NeedleGridModel" "next" "[I") (by decide +kernel)) rfl dX5_allTurn_65 ?_
              refine lv_iload_n hx hb dX5_allTurn_68 rfl (lv_at hl 1 rfl) ?_
              refine ra (j := j) (n := 36) hx hb hK hP hM 11 rfl (by omega) (by decide) dX5_allTurn_69 ?_
              refine rs (j := (6 + j)) (n := 186) (x := (fil (mTu (G 0)) (G 11) 36) j) hx hb hK hP hD hS hM 0 rfl (by decide) (by omega) (by decide) dX5_allTurn_70 (fun s_7 H locs hM hf_8 hP hD hS => ?_)
              have hf := hf.tr hf_8
              have hM : isR E ad s_7 b sM (gu (gu (gu (gu G 11 (fil (mTu (G 0)) (G 11) 36)) 12 zb2) 13 za2) 0 (upd (stI (G 0) (mTu (G 0)) j) (6 + j) ((fil (mTu (G 0)) (G 11) 36) j))) := hM.eq (all14 rfl rfl rfl rfl rfl rfl rfl rfl rfl rfl rfl rfl rfl rfl)
              refine lv_iinc (v := nI (j + 1)) (lv' := [(3, .int (nI (j + 1))), (2, .int (nI (cnI (mTP (G 0)) 36))), (0, .ref (ad b)), (1, .ref (ad (b + 1 + 0)))]) hx hb dX5_allTurn_71 hl (k := 1) rfl (nI_1 _) (by decide) rfl (fun ls hl => ?_)
              refine lv_goto (tgt := 53) hx hb dX5_allTurn_74 (by decide) ?_
              exact ih53 (j + 1) (by omega) (by omega) _ _ _ _ za2 zb2 (hM.eq (all14 (by rw [← stI_s, ← fil_in (f := mTu (G 0)) (g := G 11) (i := 36) hlt]) rfl rfl rfl rfl rfl rfl rfl rfl rfl rfl rfl rfl rfl)) hf hP hD hS (lv_sub hl [1, 0, 2, 3] rfl)
        exact LP_4 (36 + 1) 0 (Nat.zero_le _) (by omega) _ _ _ _ zb za (hM.eq (all14 (stI_0 (S := (G 0)) (f := mTu (G 0))).symm rfl rfl rfl rfl rfl rfl rfl rfl rfl rfl rfl rfl rfl)) hf hP hD hS (lv_sub hl [1, 0, 2, 3] rfl)
      · have hlt : i < 36 := by have := mt (nI_geL (n := 36) (i := i) rfl (by decide) (by omega)).mpr c7_2; omega
        refine lv_aload_n hx hb dX5_allTurn_10 rfl (lv_at hl 2 rfl) ?_
        refine rg (v := .ref (ad (b + 1 + 11))) (T := TX5) (N := 14) (C := RX5) hx hb hts hinX5 hown hK hP hM rfl 11 (by decide) (hts (.fieldLink RX5 25 "NeedleGridModel" "next" "[I") (by decide +kernel)) rfl dX5_allTurn_11 ?_
        refine lv_iload_n hx hb dX5_allTurn_14 rfl (lv_at hl 1 rfl) ?_
        refine lv_aload_n hx hb dX5_allTurn_15 rfl (lv_at hl 2 rfl) ?_
        refine lv_aload_n hx hb dX5_allTurn_16 rfl (lv_at hl 3 rfl) ?_
        refine lv_iload_n hx hb dX5_allTurn_17 rfl (lv_at hl 1 rfl) ?_
        refine nVi (As := [.ref (ad (b + 1 + 0)), .int (nI i)]) (rest := _) hx hb hml hown hts hP hK hD hZ hA hS ⟨Nat.zero_le _, Nat.zero_le _⟩ hM.1 rfl (m_turned0 l E ad sL_2 b (gu (gu (gu G 11 (fil (mTu (G 0)) (G 11) i)) 12 za) 13 zb) hM i (by omega) hdB) (cwV 2 hts gX5_allTurn_X5_turned rfl rfl rfl (by decide +kernel) ⟨Nat.le_of_ble_eq_true rfl, Nat.le_of_ble_eq_true rfl⟩) hl.1 rfl (Nat.le_of_ble_eq_true rfl) dX5_allTurn_18 (fun r_10 s_12 H locs hq hP hD hS => ?_)
        obtain ⟨hrr_10, hM, hf_11⟩ := hq
        have hrr_10 : r_10 = mTu (G 0) i := hrr_10
        have hf := hf.tr hf_11
        have hM : isR E ad s_12 b sM (gu (gu (gu G 11 (fil (mTu (G 0)) (G 11) i)) 12 (fun _ => LX (G 0) i)) 13 (fun _ => LY (G 0) i)) := hM.eq (all14 rfl rfl rfl rfl rfl rfl rfl rfl rfl rfl rfl rfl rfl rfl)
        refine rs (j := i) (n := 36) (x := r_10) hx hb hK hP hD hS hM 11 rfl (by decide) (by omega) (by decide) dX5_allTurn_21 (fun s_13 H locs hM hf_14 hP hD hS => ?_)
        have hf := hf.tr hf_14
        have hM : isR E ad s_13 b sM (gu (gu (gu G 12 (fun _ => LX (G 0) i)) 13 (fun _ => LY (G 0) i)) 11 (upd (fil (mTu (G 0)) (G 11) i) i r_10)) := hM.eq (all14 rfl rfl rfl rfl rfl rfl rfl rfl rfl rfl rfl rfl rfl rfl)
        refine lv_iload_n hx hb dX5_allTurn_22 rfl (lv_at hl 0 rfl) ?_
        refine lv_aload_n hx hb dX5_allTurn_23 rfl (lv_at hl 2 rfl) ?_
        refine rg (v := .ref (ad (b + 1 + 11))) (T := TX5) (N := 14) (C := RX5) hx hb hts hinX5 hown hK hP hM rfl 11 (by decide) (hts (.fieldLink RX5 25 "NeedleGridModel" "next" "[I") (by decide +kernel)) rfl dX5_allTurn_24 ?_
        refine lv_iload_n hx hb dX5_allTurn_27 rfl (lv_at hl 1 rfl) ?_
        refine ra (j := i) (n := 36) hx hb hK hP hM 11 rfl (by omega) (by decide) dX5_allTurn_28 ?_
        refine lv_aload_n hx hb dX5_allTurn_29 rfl (lv_at hl 3 rfl) ?_
        refine lv_bipush (v := 6) hx hb dX5_allTurn_30 (by decide) ?_
        refine lv_iload_n hx hb dX5_allTurn_32 rfl (lv_at hl 1 rfl) ?_
        refine lv_iadd hx hb dX5_allTurn_33 ?_
        rw [show 6 + nI i = nI (6 + i) from nI_add 6 i]
        refine ra (j := (6 + i)) (n := 186) hx hb hK hP hM 0 rfl (by omega) (by decide) dX5_allTurn_34 ?_
        refine lv_icmp_ne (tgt := 42) hx hb dX5_allTurn_35 (by decide) (fun c35_14 => ?_) (fun c35_14 => ?_)
        · have c35_14 : ¬ ((upd (fil (mTu (G 0)) (G 11) i) i r_10) i) = (G 0 (6 + i)) := c35_14
          have hPi : (mTP (G 0)) i = true := mTP_t (fun h9 => c35_14 ((pk_us).trans (hrr_10.trans h9)))
          refine lv_iconst (v := 1) hx hb dX5_allTurn_42 (by decide) ?_
          refine lv_iadd hx hb dX5_allTurn_43 ?_
          rw [nI_1]
          refine lv_istore_n (lv' := [(2, .int (nI ((cnI (mTP (G 0)) i) + 1))), (3, .int (nI i)), (0, .ref (ad b)), (1, .ref (ad (b + 1 + 0)))]) hx hb dX5_allTurn_44 rfl hl (by decide) rfl (fun ls hl => ?_)
          refine lv_iinc (v := nI (i + 1)) (lv' := [(3, .int (nI (i + 1))), (2, .int (nI ((cnI (mTP (G 0)) i) + 1))), (0, .ref (ad b)), (1, .ref (ad (b + 1 + 0)))]) hx hb dX5_allTurn_45 hl (k := 1) rfl (nI_1 _) (by decide) rfl (fun ls hl => ?_)
          refine lv_goto (tgt := 4) hx hb dX5_allTurn_48 (by decide) ?_
          exact ih4 (i + 1) (by omega) (by omega) _ _ _ _ (fun _ => LX (G 0) i) (fun _ => LY (G 0) i) (hM.eq (all14 rfl rfl rfl rfl rfl rfl rfl rfl rfl rfl rfl (fil_s2 hrr_10) rfl rfl)) hf hP hD hS (by rw [cnI_t hPi]; exact lv_sub hl [1, 0, 2, 3] rfl)
        · have c35_14 : ((upd (fil (mTu (G 0)) (G 11) i) i r_10) i) = (G 0 (6 + i)) := c35_14
          have hPi : (mTP (G 0)) i = false := mTP_f (hrr_10.symm.trans ((pk_us).symm.trans c35_14))
          refine lv_iconst (v := 0) hx hb dX5_allTurn_38 (by decide) ?_
          refine lv_goto (tgt := 43) hx hb dX5_allTurn_39 (by decide) ?_
          refine lv_iadd hx hb dX5_allTurn_43 ?_
          rw [show nI (cnI (mTP (G 0)) i) + 0 = nI (cnI (mTP (G 0)) i) from Int32.add_zero _]
          refine lv_istore_n (lv' := [(2, .int (nI (cnI (mTP (G 0)) i))), (3, .int (nI i)), (0, .ref (ad b)), (1, .ref (ad (b + 1 + 0)))]) hx hb dX5_allTurn_44 rfl hl (by decide) rfl (fun ls hl => ?_)
          refine lv_iinc (v := nI (i + 1)) (lv' := [(3, .int (nI (i + 1))), (2, .int (nI (cnI (mTP (G 0)) i))), (0, .ref (ad b)), (1, .ref (ad (b + 1 + 0)))]) hx hb dX5_allTurn_45 hl (k := 1) rfl (nI_1 _) (by decide) rfl (fun ls hl => ?_)
          refine lv_goto (tgt := 4) hx hb dX5_allTurn_48 (by decide) ?_
          exact ih4 (i + 1) (by omega) (by omega) _ _ _ _ (fun _ => LX (G 0) i) (fun _ => LY (G 0) i) (hM.eq (all14 rfl rfl rfl rfl rfl rfl rfl rfl rfl rfl rfl (fil_s2 hrr_10) rfl rfl)) hf hP hD hS (by rw [cnI_f hPi]; exact lv_sub hl [1, 0, 2, 3] rfl)
  exact LP_1 (36 + 1) 0 (Nat.zero_le _) (by omega) _ _ _ _ (G 12) (G 13) (hM.eq (all14 rfl rfl rfl rfl rfl rfl rfl rfl rfl rfl rfl (fil_0 (mTu (G 0)) (G 11)).symm rfl rfl)) hf hP hD hS (lv_sub hl [1, 0, 2, 3] rfl)

set_option maxHeartbeats 4000000 in
set_option maxRecDepth 100000 in
theorem m_allTurn1 (l : Launch) (E : NE) (ad : Nat → Nat) (st : NW) (b : Nat) (G : Nat → Nat → Int32) (hM : isR E ad st b sM G) (hdB : okB (G 1)) : nMi l yX5_allTurn wsX5_allTurn (nRm 7 166) E ad st [.ref (ad b), .ref (ad (b + 1 + 1))] (fun r s1 => r = nI (cnI (mTP (G 1)) 36) ∧ (∃ z1 z2 z3, isR E ad s1 b sM (gu (gu (gu (gu G 1 (mStp (G 1))) 11 z1) 12 z2) 13 z3)) ∧ fr b st s1) := by
  refine nSi (cc := cX5_allTurn) (maxL := 4) (by decide) rfl (Nat.le_of_ble_eq_true rfl) ?_
  intro pg en s mi ar bw mth cd R Q A ls hx hb hml hown hts hRm hP hK hD hZ hA hl hret
  subst hRm
  have hown : s.vm.findClass RX5 = some mi.cls := hown
  have hS : va_S A s.heap s.heap [] := va_S.rf
  have hl : lv_has ls 4 [(0, .ref (ad b)), (1, .ref (ad (b + 1 + 1)))] := hl
  have hf : fr b st st := fr.rf
  have hinX5 : ∀ w ∈ wsX50, w ∈ wsX5_allTurn := by decide +kernel
  refine lv_iconst (v := 0) hx hb dX5_allTurn_0 (by decide) ?_
  refine lv_istore_n (lv' := [(2, .int 0), (0, .ref (ad b)), (1, .ref (ad (b + 1 + 1)))]) hx hb dX5_allTurn_1 rfl hl (by decide) rfl (fun ls hl => ?_)
  refine lv_iconst (v := 0) hx hb dX5_allTurn_2 (by decide) ?_
  refine lv_istore_n (lv' := [(3, .int 0), (2, .int 0), (0, .ref (ad b)), (1, .ref (ad (b + 1 + 1)))]) hx hb dX5_allTurn_3 rfl hl (by decide) rfl (fun ls hl => ?_)
  have LP_1 : ∀ (k9 i : Nat), i ≤ 36 → 36 - i < k9 → ∀ (sL_2 : NW) (H : Heap) (locs : List Loc) (ls : Array Slot) (za : Nat → Int32) (zb : Nat → Int32), isR E ad sL_2 b sM (gu (gu (gu G 11 (fil (mTu (G 1)) (G 11) i)) 12 za) 13 zb) → fr b st sL_2 → nP E ad sL_2 H → nD A ad sL_2 → va_S A s.heap H locs → lv_has ls 4 [(2, .int (nI (cnI (mTP (G 1)) i))), (3, .int (nI i)), (0, .ref (ad b)), (1, .ref (ad (b + 1 + 1)))] → W pg l en (nRm 7 166) s mi ar bw mth cd H locs 0 0 Q (F0 mi 4 ls []) := by
    intro k9
    induction k9 with
    | zero => intro i _ h9; exact absurd h9 (Nat.not_lt_zero _)
    | succ k9 ih4 =>
      intro i hi hk9 sL_2 H locs ls za zb hM hf hP hD hS hl
      refine lv_iload_n hx hb dX5_allTurn_4 rfl (lv_at hl 1 rfl) ?_
      refine lv_bipush (v := 36) hx hb dX5_allTurn_5 (by decide) ?_
      refine lv_icmp_ge (tgt := 51) hx hb dX5_allTurn_7 (by decide) (fun c7_2 => ?_) (fun c7_2 => ?_)
      · have h36 : 36 ≤ i := (nI_geL (n := 36) rfl (by decide) (by omega)).mp c7_2
        obtain rfl : i = 36 := by omega
        refine lv_iconst (v := 0) hx hb dX5_allTurn_51 (by decide) ?_
        refine lv_istore_n (lv' := [(3, .int 0), (2, .int (nI (cnI (mTP (G 1)) 36))), (0, .ref (ad b)), (1, .ref (ad (b + 1 + 1)))]) hx hb dX5_allTurn_52 rfl hl (by decide) rfl (fun ls hl => ?_)
        have LP_4 : ∀ (k9 j : Nat), j ≤ 36 → 36 - j < k9 → ∀ (sL_5 : NW) (H : Heap) (locs : List Loc) (ls : Array Slot) (za2 : Nat → Int32) (zb2 : Nat → Int32), isR E ad sL_5 b sM (gu (gu (gu (gu G 11 (fil (mTu (G 1)) (G 11) 36)) 12 zb2) 13 za2) 1 (stI (G 1) (mTu (G 1)) j)) → fr b st sL_5 → nP E ad sL_5 H → nD A ad sL_5 → va_S A s.heap H locs → lv_has ls 4 [(2, .int (nI (cnI (mTP (G 1)) 36))), (3, .int (nI j)), (0, .ref (ad b)), (1, .ref (ad (b + 1 + 1)))] → W pg l en (nRm 7 166) s mi ar bw mth cd H locs 0 0 Q (F0 mi 53 ls []) := by
          intro k9
          induction k9 with
          | zero => intro j _ h9; exact absurd h9 (Nat.not_lt_zero _)
          | succ k9 ih53 =>
            intro j hi hk9 sL_5 H locs ls za2 zb2 hM hf hP hD hS hl
            refine lv_iload_n hx hb dX5_allTurn_53 rfl (lv_at hl 1 rfl) ?_
            refine lv_bipush (v := 36) hx hb dX5_allTurn_54 (by decide) ?_
            refine lv_icmp_ge (tgt := 77) hx hb dX5_allTurn_56 (by decide) (fun c56_5 => ?_) (fun c56_5 => ?_)
            · have h36 : 36 ≤ j := (nI_geL (n := 36) rfl (by decide) (by omega)).mp c56_5
              obtain rfl : j = 36 := by omega
              refine lv_iload_n hx hb dX5_allTurn_77 rfl (lv_at hl 0 rfl) ?_
              exact hret _ _ _ _ _ _ hP hD hS (⟨rfl, ⟨fil (mTu (G 1)) (G 11) 36, zb2, za2, hM.eq (all14 rfl rfl rfl rfl rfl rfl rfl rfl rfl rfl rfl rfl rfl rfl)⟩, hf⟩) dX5_allTurn_78
            · have hlt : j < 36 := by have := mt (nI_geL (n := 36) (i := j) rfl (by decide) (by omega)).mpr c56_5; omega
              refine lv_aload_n hx hb dX5_allTurn_59 rfl (lv_at hl 3 rfl) ?_
              refine lv_bipush (v := 6) hx hb dX5_allTurn_60 (by decide) ?_
              refine lv_iload_n hx hb dX5_allTurn_62 rfl (lv_at hl 1 rfl) ?_
              refine lv_iadd hx hb dX5_allTurn_63 ?_
              rw [show 6 + nI j = nI (6 + j) from nI_add 6 j]
              refine lv_aload_n hx hb dX5_allTurn_64 rfl (lv_at hl 2 rfl) ?_
              refine rg (v := .ref (ad (b + 1 + 11))) (T := TX5) (N := 14) (C := RX5) hx hb hts hinX5 hown hK hP hM rfl 11 (by decide) (hts (.fieldLink RX5 25 "NeedleGridModel" "next" "[I") (by decide +kernel)) rfl dX5_allTurn_65 ?_
              refine lv_iload_n hx hb dX5_allTurn_68 rfl (lv_at hl 1 rfl) ?_
              refine ra (j := j) (n := 36) hx hb hK hP hM 11 rfl (by omega) (by decide) dX5_allTurn_69 ?_
              refine rs (j := (6 + j)) (n := 186) (x := (fil (mTu (G 1)) (G 11) 36) j) hx hb hK hP hD hS hM 1 rfl (by decide) (by omega) (by decide) dX5_allTurn_70 (fun s_7 H locs hM hf_8 hP hD hS => ?_)
              have hf := hf.tr hf_8
              have hM : isR E ad s_7 b sM (gu (gu (gu (gu G 11 (fil (mTu (G 1)) (G 11) 36)) 12 zb2) 13 za2) 1 (upd (stI (G 1) (mTu (G 1)) j) (6 + j) ((fil (mTu (G 1)) (G 11) 36) j))) := hM.eq (all14 rfl rfl rfl rfl rfl rfl rfl rfl rfl rfl rfl rfl rfl rfl)
              refine lv_iinc (v := nI (j + 1)) (lv' := [(3, .int (nI (j + 1))), (2, .int (nI (cnI (mTP (G 1)) 36))), (0, .ref (ad b)), (1, .ref (ad (b + 1 + 1)))]) hx hb dX5_allTurn_71 hl (k := 1) rfl (nI_1 _) (by decide) rfl (fun ls hl => ?_)
              refine lv_goto (tgt := 53) hx hb dX5_allTurn_74 (by decide) ?_
              exact ih53 (j + 1) (by omega) (by omega) _ _ _ _ za2 zb2 (hM.eq (all14 rfl (by rw [← stI_s, ← fil_in (f := mTu (G 1)) (g := G 11) (i := 36) hlt]) rfl rfl rfl rfl rfl rfl rfl rfl rfl rfl rfl rfl)) hf hP hD hS (lv_sub hl [1, 0, 2, 3] rfl)
        exact LP_4 (36 + 1) 0 (Nat.zero_le _) (by omega) _ _ _ _ zb za (hM.eq (all14 rfl (stI_0 (S := (G 1)) (f := mTu (G 1))).symm rfl rfl rfl rfl rfl rfl rfl rfl rfl rfl rfl rfl)) hf hP hD hS (lv_sub hl [1, 0, 2, 3] rfl)
      · have hlt : i < 36 := by have := mt (nI_geL (n := 36) (i := i) rfl (by decide) (by omega)).mpr c7_2; omega
        refine lv_aload_n hx hb dX5_allTurn_10 rfl (lv_at hl 2 rfl) ?_
        refine rg (v := .ref (ad (b + 1 + 11))) (T := TX5) (N := 14) (C := RX5) hx hb hts hinX5 hown hK hP hM rfl 11 (by decide) (hts (.fieldLink RX5 25 "NeedleGridModel" "next" "[I") (by decide +kernel)) rfl dX5_allTurn_11 ?_
        refine lv_iload_n hx hb dX5_allTurn_14 rfl (lv_at hl 1 rfl) ?_
        refine lv_aload_n hx hb dX5_allTurn_15 rfl (lv_at hl 2 rfl) ?_
        refine lv_aload_n hx hb dX5_allTurn_16 rfl (lv_at hl 3 rfl) ?_
        refine lv_iload_n hx hb dX5_allTurn_17 rfl (lv_at hl 1 rfl) ?_
        refine nVi (As := [.ref (ad (b + 1 + 1)), .int (nI i)]) (rest := _) hx hb hml hown hts hP hK hD hZ hA hS ⟨Nat.zero_le _, Nat.zero_le _⟩ hM.1 rfl (m_turned1 l E ad sL_2 b (gu (gu (gu G 11 (fil (mTu (G 1)) (G 11) i)) 12 za) 13 zb) hM i (by omega) hdB) (cwV 2 hts gX5_allTurn_X5_turned rfl rfl rfl (by decide +kernel) ⟨Nat.le_of_ble_eq_true rfl, Nat.le_of_ble_eq_true rfl⟩) hl.1 rfl (Nat.le_of_ble_eq_true rfl) dX5_allTurn_18 (fun r_10 s_12 H locs hq hP hD hS => ?_)
        obtain ⟨hrr_10, hM, hf_11⟩ := hq
        have hrr_10 : r_10 = mTu (G 1) i := hrr_10
        have hf := hf.tr hf_11
        have hM : isR E ad s_12 b sM (gu (gu (gu G 11 (fil (mTu (G 1)) (G 11) i)) 12 (fun _ => LX (G 1) i)) 13 (fun _ => LY (G 1) i)) := hM.eq (all14 rfl rfl rfl rfl rfl rfl rfl rfl rfl rfl rfl rfl rfl rfl)
        refine rs (j := i) (n := 36) (x := r_10) hx hb hK hP hD hS hM 11 rfl (by decide) (by omega) (by decide) dX5_allTurn_21 (fun s_13 H locs hM hf_14 hP hD hS => ?_)
        have hf := hf.tr hf_14
        have hM : isR E ad s_13 b sM (gu (gu (gu G 12 (fun _ => LX (G 1) i)) 13 (fun _ => LY (G 1) i)) 11 (upd (fil (mTu (G 1)) (G 11) i) i r_10)) := hM.eq (all14 rfl rfl rfl rfl rfl rfl rfl rfl rfl rfl rfl rfl rfl rfl)
        refine lv_iload_n hx hb dX5_allTurn_22 rfl (lv_at hl 0 rfl) ?_
        refine lv_aload_n hx hb dX5_allTurn_23 rfl (lv_at hl 2 rfl) ?_
        refine rg (v := .ref (ad (b + 1 + 11))) (T := TX5) (N := 14) (C := RX5) hx hb hts hinX5 hown hK hP hM rfl 11 (by decide) (hts (.fieldLink RX5 25 "NeedleGridModel" "next" "[I") (by decide +kernel)) rfl dX5_allTurn_24 ?_
        refine lv_iload_n hx hb dX5_allTurn_27 rfl (lv_at hl 1 rfl) ?_
        refine ra (j := i) (n := 36) hx hb hK hP hM 11 rfl (by omega) (by decide) dX5_allTurn_28 ?_
        refine lv_aload_n hx hb dX5_allTurn_29 rfl (lv_at hl 3 rfl) ?_
        refine lv_bipush (v := 6) hx hb dX5_allTurn_30 (by decide) ?_
        refine lv_iload_n hx hb dX5_allTurn_32 rfl (lv_at hl 1 rfl) ?_
        refine lv_iadd hx hb dX5_allTurn_33 ?_
        rw [show 6 + nI i = nI (6 + i) from nI_add 6 i]
        refine ra (j := (6 + i)) (n := 186) hx hb hK hP hM 1 rfl (by omega) (by decide) dX5_allTurn_34 ?_
        refine lv_icmp_ne (tgt := 42) hx hb dX5_allTurn_35 (by decide) (fun c35_14 => ?_) (fun c35_14 => ?_)
        · have c35_14 : ¬ ((upd (fil (mTu (G 1)) (G 11) i) i r_10) i) = (G 1 (6 + i)) := c35_14
          have hPi : (mTP (G 1)) i = true := mTP_t (fun h9 => c35_14 ((pk_us).trans (hrr_10.trans h9)))
          refine lv_iconst (v := 1) hx hb dX5_allTurn_42 (by decide) ?_
          refine lv_iadd hx hb dX5_allTurn_43 ?_
          rw [nI_1]
          refine lv_istore_n (lv' := [(2, .int (nI ((cnI (mTP (G 1)) i) + 1))), (3, .int (nI i)), (0, .ref (ad b)), (1, .ref (ad (b + 1 + 1)))]) hx hb dX5_allTurn_44 rfl hl (by decide) rfl (fun ls hl => ?_)
          refine lv_iinc (v := nI (i + 1)) (lv' := [(3, .int (nI (i + 1))), (2, .int (nI ((cnI (mTP (G 1)) i) + 1))), (0, .ref (ad b)), (1, .ref (ad (b + 1 + 1)))]) hx hb dX5_allTurn_45 hl (k := 1) rfl (nI_1 _) (by decide) rfl (fun ls hl => ?_)
          refine lv_goto (tgt := 4) hx hb dX5_allTurn_48 (by decide) ?_
          exact ih4 (i + 1) (by omega) (by omega) _ _ _ _ (fun _ => LX (G 1) i) (fun _ => LY (G 1) i) (hM.eq (all14 rfl rfl rfl rfl rfl rfl rfl rfl rfl rfl rfl (fil_s2 hrr_10) rfl rfl)) hf hP hD hS (by rw [cnI_t hPi]; exact lv_sub hl [1, 0, 2, 3] rfl)
        · have c35_14 : ((upd (fil (mTu (G 1)) (G 11) i) i r_10) i) = (G 1 (6 + i)) := c35_14
          have hPi : (mTP (G 1)) i = false := mTP_f (hrr_10.symm.trans ((pk_us).symm.trans c35_14))
          refine lv_iconst (v := 0) hx hb dX5_allTurn_38 (by decide) ?_
          refine lv_goto (tgt := 43) hx hb dX5_allTurn_39 (by decide) ?_
          refine lv_iadd hx hb dX5_allTurn_43 ?_
          rw [show nI (cnI (mTP (G 1)) i) + 0 = nI (cnI (mTP (G 1)) i) from Int32.add_zero _]
          refine lv_istore_n (lv' := [(2, .int (nI (cnI (mTP (G 1)) i))), (3, .int (nI i)), (0, .ref (ad b)), (1, .ref (ad (b + 1 + 1)))]) hx hb dX5_allTurn_44 rfl hl (by decide) rfl (fun ls hl => ?_)
          refine lv_iinc (v := nI (i + 1)) (lv' := [(3, .int (nI (i + 1))), (2, .int (nI (cnI (mTP (G 1)) i))), (0, .ref (ad b)), (1, .ref (ad (b + 1 + 1)))]) hx hb dX5_allTurn_45 hl (k := 1) rfl (nI_1 _) (by decide) rfl (fun ls hl => ?_)
          refine lv_goto (tgt := 4) hx hb dX5_allTurn_48 (by decide) ?_
          exact ih4 (i + 1) (by omega) (by omega) _ _ _ _ (fun _ => LX (G 1) i) (fun _ => LY (G 1) i) (hM.eq (all14 rfl rfl rfl rfl rfl rfl rfl rfl rfl rfl rfl (fil_s2 hrr_10) rfl rfl)) hf hP hD hS (by rw [cnI_f hPi]; exact lv_sub hl [1, 0, 2, 3] rfl)
  exact LP_1 (36 + 1) 0 (Nat.zero_le _) (by omega) _ _ _ _ (G 12) (G 13) (hM.eq (all14 rfl rfl rfl rfl rfl rfl rfl rfl rfl rfl rfl (fil_0 (mTu (G 1)) (G 11)).symm rfl rfl)) hf hP hD hS (lv_sub hl [1, 0, 2, 3] rfl)

set_option maxHeartbeats 4000000 in
set_option maxRecDepth 100000 in
theorem m_lying (l : Launch) (E : NE) (ad : Nat → Nat) (st : NW) (b : Nat) (G : Nat → Nat → Int32) (hM : isR E ad st b sM G) : nMi l yX5_lying wsX5_lying (nRm 0 0) E ad st [.ref (ad (b + 1 + 0))] (fun r s1 => r = nI (cnI (barP (G 0)) 36) ∧ st = s1) := by
  refine nSi (cc := cX5_lying) (maxL := 3) (by decide) rfl (Nat.le_of_ble_eq_true rfl) ?_
  intro pg en s mi ar bw mth cd R Q A ls hx hb hml hown hts hRm hP hK hD hZ hA hl hret
  subst hRm
  have hown : s.vm.findClass RX5 = some mi.cls := hown
  have hS : va_S A s.heap s.heap [] := va_S.rf
  have hl : lv_has ls 3 [(0, .ref (ad (b + 1 + 0)))] := hl
  refine lv_iconst (v := 0) hx hb dX5_lying_0 (by decide) ?_
  refine lv_istore_n (lv' := [(1, .int 0), (0, .ref (ad (b + 1 + 0)))]) hx hb dX5_lying_1 rfl hl (by decide) rfl (fun ls hl => ?_)
  refine lv_iconst (v := 0) hx hb dX5_lying_2 (by decide) ?_
  refine lv_istore_n (lv' := [(2, .int 0), (1, .int 0), (0, .ref (ad (b + 1 + 0)))]) hx hb dX5_lying_3 rfl hl (by decide) rfl (fun ls hl => ?_)
  have LP_1 : ∀ (k9 i : Nat), i ≤ 36 → 36 - i < k9 → ∀ (H : Heap) (locs : List Loc) (ls : Array Slot), nP E ad st H → nD A ad st → va_S A s.heap H locs → lv_has ls 3 [(1, .int (nI (cnI (barP (G 0)) i))), (2, .int (nI i)), (0, .ref (ad (b + 1 + 0)))] → W pg l en (nRm 0 0) s mi ar bw mth cd H locs 0 0 Q (F0 mi 4 ls []) := by
    intro k9
    induction k9 with
    | zero => intro i _ h9; exact absurd h9 (Nat.not_lt_zero _)
    | succ k9 ih4 =>
      intro i hi hk9 H locs ls  hP hD hS hl
      refine lv_iload_n hx hb dX5_lying_4 rfl (lv_at hl 1 rfl) ?_
      refine lv_bipush (v := 36) hx hb dX5_lying_5 (by decide) ?_
      refine lv_icmp_ge (tgt := 34) hx hb dX5_lying_7 (by decide) (fun c7_1 => ?_) (fun c7_1 => ?_)
      · have h36 : 36 ≤ i := (nI_geL (n := 36) rfl (by decide) (by omega)).mp c7_1
        obtain rfl : i = 36 := by omega
        refine lv_iload_n hx hb dX5_lying_34 rfl (lv_at hl 0 rfl) ?_
        exact hret _ _ _ _ _ _ hP hD hS (⟨rfl, rfl⟩) dX5_lying_35
      · have hlt : i < 36 := by have := mt (nI_geL (n := 36) (i := i) rfl (by decide) (by omega)).mpr c7_1; omega
        refine lv_iload_n hx hb dX5_lying_10 rfl (lv_at hl 0 rfl) ?_
        refine lv_aload_n hx hb dX5_lying_11 rfl (lv_at hl 2 rfl) ?_
        refine lv_sipush (v := 150) hx hb dX5_lying_12 (by decide) ?_
        refine lv_iload_n hx hb dX5_lying_15 rfl (lv_at hl 1 rfl) ?_
        refine lv_iadd hx hb dX5_lying_16 ?_
        rw [show 150 + nI i = nI (150 + i) from nI_add 150 i]
        refine ra (j := (150 + i)) (n := 186) hx hb hK hP hM 0 rfl (by omega) (by decide) dX5_lying_17 ?_
        refine lv_if_le (tgt := 25) hx hb dX5_lying_18 (by decide) (fun c18_2 => ?_) (fun c18_2 => ?_)
        · have c18_2 : (G 0 (150 + i)) ≤ 0 := c18_2
          have hPi : (barP (G 0)) i = false := barP_f c18_2
          refine lv_iconst (v := 0) hx hb dX5_lying_25 (by decide) ?_
          refine lv_iadd hx hb dX5_lying_26 ?_
          rw [show nI (cnI (barP (G 0)) i) + 0 = nI (cnI (barP (G 0)) i) from Int32.add_zero _]
          refine lv_istore_n (lv' := [(1, .int (nI (cnI (barP (G 0)) i))), (2, .int (nI i)), (0, .ref (ad (b + 1 + 0)))]) hx hb dX5_lying_27 rfl hl (by decide) rfl (fun ls hl => ?_)
          refine lv_iinc (v := nI (i + 1)) (lv' := [(2, .int (nI (i + 1))), (1, .int (nI (cnI (barP (G 0)) i))), (0, .ref (ad (b + 1 + 0)))]) hx hb dX5_lying_28 hl (k := 1) rfl (nI_1 _) (by decide) rfl (fun ls hl => ?_)
          refine lv_goto (tgt := 4) hx hb dX5_lying_31 (by decide) ?_
          exact ih4 (i + 1) (by omega) (by omega) _ _ _  hP hD hS (by rw [cnI_f hPi]; exact lv_sub hl [1, 0, 2] rfl)
        · have c18_2 : ¬ (G 0 (150 + i)) ≤ 0 := c18_2
          have hPi : (barP (G 0)) i = true := barP_t c18_2
          refine lv_iconst (v := 1) hx hb dX5_lying_21 (by decide) ?_
          refine lv_goto (tgt := 26) hx hb dX5_lying_22 (by decide) ?_
          refine lv_iadd hx hb dX5_lying_26 ?_
          rw [nI_1]
          refine lv_istore_n (lv' := [(1, .int (nI ((cnI (barP (G 0)) i) + 1))), (2, .int (nI i)), (0, .ref (ad (b + 1 + 0)))]) hx hb dX5_lying_27 rfl hl (by decide) rfl (fun ls hl => ?_)
          refine lv_iinc (v := nI (i + 1)) (lv' := [(2, .int (nI (i + 1))), (1, .int (nI ((cnI (barP (G 0)) i) + 1))), (0, .ref (ad (b + 1 + 0)))]) hx hb dX5_lying_28 hl (k := 1) rfl (nI_1 _) (by decide) rfl (fun ls hl => ?_)
          refine lv_goto (tgt := 4) hx hb dX5_lying_31 (by decide) ?_
          exact ih4 (i + 1) (by omega) (by omega) _ _ _  hP hD hS (by rw [cnI_t hPi]; exact lv_sub hl [1, 0, 2] rfl)
  exact LP_1 (36 + 1) 0 (Nat.zero_le _) (by omega) _ _ _  hP hD hS (lv_sub hl [1, 0, 2] rfl)

set_option maxHeartbeats 4000000 in
set_option maxRecDepth 100000 in
theorem m_laysBar0 (l : Launch) (E : NE) (ad : Nat → Nat) (st : NW) (b : Nat) (G : Nat → Nat → Int32) (hM : isR E ad st b sM G) (c : Nat) (hc : c < 36) (d t : Int32) : nMv l yX5_laysBar wsX5_laysBar (nRm 0 0) E ad st [.ref (ad (b + 1 + 0)), .int (nI c), .int d, .int t] (fun s1 => isR E ad s1 b sM (gu G 0 (upd (upd (G 0) (114 + c) d) (150 + c) t)) ∧ fr b st s1) := by
  refine nSv (cc := cX5_laysBar) (maxL := 4) (by decide) rfl (Nat.le_of_ble_eq_true rfl) ?_
  intro pg en s mi ar bw mth cd R Q A ls hx hb hml hown hts hRm hP hK hD hZ hA hl hret
  subst hRm
  have hown : s.vm.findClass RX5 = some mi.cls := hown
  have hS : va_S A s.heap s.heap [] := va_S.rf
  have hl : lv_has ls 4 [(0, .ref (ad (b + 1 + 0))), (1, .int (nI c)), (2, .int d), (3, .int t)] := hl
  have hf : fr b st st := fr.rf
  refine lv_aload_n hx hb dX5_laysBar_0 rfl (lv_at hl 0 rfl) ?_
  refine lv_bipush (v := 114) hx hb dX5_laysBar_1 (by decide) ?_
  refine lv_iload_n hx hb dX5_laysBar_3 rfl (lv_at hl 1 rfl) ?_
  refine lv_iadd hx hb dX5_laysBar_4 ?_
  rw [show 114 + nI c = nI (114 + c) from nI_add 114 c]
  refine lv_iload_n hx hb dX5_laysBar_5 rfl (lv_at hl 2 rfl) ?_
  refine rs (j := (114 + c)) (n := 186) (x := d) hx hb hK hP hD hS hM 0 rfl (by decide) (by omega) (by decide) dX5_laysBar_6 (fun s_1 H locs hM hf_2 hP hD hS => ?_)
  have hf := hf.tr hf_2
  refine lv_aload_n hx hb dX5_laysBar_7 rfl (lv_at hl 0 rfl) ?_
  refine lv_sipush (v := 150) hx hb dX5_laysBar_8 (by decide) ?_
  refine lv_iload_n hx hb dX5_laysBar_11 rfl (lv_at hl 1 rfl) ?_
  refine lv_iadd hx hb dX5_laysBar_12 ?_
  rw [show 150 + nI c = nI (150 + c) from nI_add 150 c]
  refine lv_iload_n hx hb dX5_laysBar_13 rfl (lv_at hl 3 rfl) ?_
  refine rs (j := (150 + c)) (n := 186) (x := t) hx hb hK hP hD hS hM 0 rfl (by decide) (by omega) (by decide) dX5_laysBar_14 (fun s_3 H locs hM hf_4 hP hD hS => ?_)
  have hf := hf.tr hf_4
  have hM : isR E ad s_3 b sM (gu G 0 (upd (upd (G 0) (114 + c) d) (150 + c) t)) := hM.eq (all14 rfl rfl rfl rfl rfl rfl rfl rfl rfl rfl rfl rfl rfl rfl)
  exact hret _ _ _ _ _ hP hD hS (⟨hM.eq (all14 rfl rfl rfl rfl rfl rfl rfl rfl rfl rfl rfl rfl rfl rfl), hf⟩) dX5_laysBar_15

set_option maxHeartbeats 4000000 in
set_option maxRecDepth 100000 in
theorem m_laysBar1 (l : Launch) (E : NE) (ad : Nat → Nat) (st : NW) (b : Nat) (G : Nat → Nat → Int32) (hM : isR E ad st b sM G) (c : Nat) (hc : c < 36) (d t : Int32) : nMv l yX5_laysBar wsX5_laysBar (nRm 0 0) E ad st [.ref (ad (b + 1 + 1)), .int (nI c), .int d, .int t] (fun s1 => isR E ad s1 b sM (gu G 1 (upd (upd (G 1) (114 + c) d) (150 + c) t)) ∧ fr b st s1) := by
  refine nSv (cc := cX5_laysBar) (maxL := 4) (by decide) rfl (Nat.le_of_ble_eq_true rfl) ?_
  intro pg en s mi ar bw mth cd R Q A ls hx hb hml hown hts hRm hP hK hD hZ hA hl hret
  subst hRm
  have hown : s.vm.findClass RX5 = some mi.cls := hown
  have hS : va_S A s.heap s.heap [] := va_S.rf
  have hl : lv_has ls 4 [(0, .ref (ad (b + 1 + 1))), (1, .int (nI c)), (2, .int d), (3, .int t)] := hl
  have hf : fr b st st := fr.rf
  refine lv_aload_n hx hb dX5_laysBar_0 rfl (lv_at hl 0 rfl) ?_
  refine lv_bipush (v := 114) hx hb dX5_laysBar_1 (by decide) ?_
  refine lv_iload_n hx hb dX5_laysBar_3 rfl (lv_at hl 1 rfl) ?_
  refine lv_iadd hx hb dX5_laysBar_4 ?_
  rw [show 114 + nI c = nI (114 + c) from nI_add 114 c]
  refine lv_iload_n hx hb dX5_laysBar_5 rfl (lv_at hl 2 rfl) ?_
  refine rs (j := (114 + c)) (n := 186) (x := d) hx hb hK hP hD hS hM 1 rfl (by decide) (by omega) (by decide) dX5_laysBar_6 (fun s_1 H locs hM hf_2 hP hD hS => ?_)
  have hf := hf.tr hf_2
  refine lv_aload_n hx hb dX5_laysBar_7 rfl (lv_at hl 0 rfl) ?_
  refine lv_sipush (v := 150) hx hb dX5_laysBar_8 (by decide) ?_
  refine lv_iload_n hx hb dX5_laysBar_11 rfl (lv_at hl 1 rfl) ?_
  refine lv_iadd hx hb dX5_laysBar_12 ?_
  rw [show 150 + nI c = nI (150 + c) from nI_add 150 c]
  refine lv_iload_n hx hb dX5_laysBar_13 rfl (lv_at hl 3 rfl) ?_
  refine rs (j := (150 + c)) (n := 186) (x := t) hx hb hK hP hD hS hM 1 rfl (by decide) (by omega) (by decide) dX5_laysBar_14 (fun s_3 H locs hM hf_4 hP hD hS => ?_)
  have hf := hf.tr hf_4
  have hM : isR E ad s_3 b sM (gu G 1 (upd (upd (G 1) (114 + c) d) (150 + c) t)) := hM.eq (all14 rfl rfl rfl rfl rfl rfl rfl rfl rfl rfl rfl rfl rfl rfl)
  exact hret _ _ _ _ _ hP hD hS (⟨hM.eq (all14 rfl rfl rfl rfl rfl rfl rfl rfl rfl rfl rfl rfl rfl rfl), hf⟩) dX5_laysBar_15

set_option maxHeartbeats 4000000 in
set_option maxRecDepth 100000 in
theorem m_copies02 (l : Launch) (E : NE) (ad : Nat → Nat) (st : NW) (b : Nat) (G : Nat → Nat → Int32) (hM : isR E ad st b sM G) (p q : Nat) (hp : p + 186 ≤ 186) (hq : q + 186 ≤ 1116) : nMv l yX5_copies wsX5_copies (nRm 0 0) E ad st [.ref (ad (b + 1 + 0)), .int (nI p), .ref (ad (b + 1 + 2)), .int (nI q)] (fun s1 => isR E ad s1 b sM (gu G 2 (cpI (G 0) (G 2) p q 186)) ∧ fr b st s1) := by
  refine nSv (cc := cX5_copies) (maxL := 5) (by decide) rfl (Nat.le_of_ble_eq_true rfl) ?_
  intro pg en s mi ar bw mth cd R Q A ls hx hb hml hown hts hRm hP hK hD hZ hA hl hret
  subst hRm
  have hown : s.vm.findClass RX5 = some mi.cls := hown
  have hS : va_S A s.heap s.heap [] := va_S.rf
  have hl : lv_has ls 5 [(0, .ref (ad (b + 1 + 0))), (1, .int (nI p)), (2, .ref (ad (b + 1 + 2))), (3, .int (nI q))] := hl
  have hf : fr b st st := fr.rf
  refine lv_iconst (v := 0) hx hb dX5_copies_0 (by decide) ?_
  refine lv_istore (lv' := [(4, .int 0), (0, .ref (ad (b + 1 + 0))), (1, .int (nI p)), (2, .ref (ad (b + 1 + 2))), (3, .int (nI q))]) hx hb dX5_copies_1 hl (by decide) rfl (fun ls hl => ?_)
  have LP_1 : ∀ (k9 i : Nat), i ≤ 186 → 186 - i < k9 → ∀ (sL_2 : NW) (H : Heap) (locs : List Loc) (ls : Array Slot), isR E ad sL_2 b sM (gu G 2 (cpI (G 0) (G 2) p q i)) → fr b st sL_2 → nP E ad sL_2 H → nD A ad sL_2 → va_S A s.heap H locs → lv_has ls 5 [(4, .int (nI i)), (0, .ref (ad (b + 1 + 0))), (1, .int (nI p)), (2, .ref (ad (b + 1 + 2))), (3, .int (nI q))] → W pg l en (nRm 0 0) s mi ar bw mth cd H locs 0 0 Q (F0 mi 3 ls []) := by
    intro k9
    induction k9 with
    | zero => intro i _ h9; exact absurd h9 (Nat.not_lt_zero _)
    | succ k9 ih3 =>
      intro i hi hk9 sL_2 H locs ls hM hf hP hD hS hl
      refine lv_iload hx hb dX5_copies_3 (lv_at hl 0 rfl) ?_
      refine lv_sipush (v := 186) hx hb dX5_copies_5 (by decide) ?_
      refine lv_icmp_ge (tgt := 29) hx hb dX5_copies_8 (by decide) (fun c8_2 => ?_) (fun c8_2 => ?_)
      · have h36 : 186 ≤ i := (nI_geL (n := 186) rfl (by decide) (by omega)).mp c8_2
        obtain rfl : i = 186 := by omega
        exact hret _ _ _ _ _ hP hD hS (⟨hM, hf⟩) dX5_copies_29
      · have hlt : i < 186 := by have := mt (nI_geL (n := 186) (i := i) rfl (by decide) (by omega)).mpr c8_2; omega
        refine lv_aload_n hx hb dX5_copies_11 rfl (lv_at hl 3 rfl) ?_
        refine lv_iload_n hx hb dX5_copies_12 rfl (lv_at hl 4 rfl) ?_
        refine lv_iload hx hb dX5_copies_13 (lv_at hl 0 rfl) ?_
        refine lv_iadd hx hb dX5_copies_15 ?_
        rw [show nI q + nI i = nI (q + i) from nI_add q i]
        refine lv_aload_n hx hb dX5_copies_16 rfl (lv_at hl 1 rfl) ?_
        refine lv_iload_n hx hb dX5_copies_17 rfl (lv_at hl 2 rfl) ?_
        refine lv_iload hx hb dX5_copies_18 (lv_at hl 0 rfl) ?_
        refine lv_iadd hx hb dX5_copies_20 ?_
        rw [show nI p + nI i = nI (p + i) from nI_add p i]
        refine ra (j := (p + i)) (n := 186) hx hb hK hP hM 0 rfl (by omega) (by decide) dX5_copies_21 ?_
        refine rs (j := (q + i)) (n := 1116) (x := G 0 (p + i)) hx hb hK hP hD hS hM 2 rfl (by decide) (by omega) (by decide) dX5_copies_22 (fun s_4 H locs hM hf_5 hP hD hS => ?_)
        have hf := hf.tr hf_5
        have hM : isR E ad s_4 b sM (gu G 2 (upd (cpI (G 0) (G 2) p q i) (q + i) (G 0 (p + i)))) := hM.eq (all14 rfl rfl rfl rfl rfl rfl rfl rfl rfl rfl rfl rfl rfl rfl)
        refine lv_iinc (v := nI (i + 1)) (lv' := [(4, .int (nI (i + 1))), (0, .ref (ad (b + 1 + 0))), (1, .int (nI p)), (2, .ref (ad (b + 1 + 2))), (3, .int (nI q))]) hx hb dX5_copies_23 hl (k := 0) rfl (nI_1 _) (by decide) rfl (fun ls hl => ?_)
        refine lv_goto (tgt := 3) hx hb dX5_copies_26 (by decide) ?_
        exact ih3 (i + 1) (by omega) (by omega) _ _ _ _ (hM.eq (all14 rfl rfl (cpI_s (f := G 0) (g := G 2) (p := p) (q := q) (i := i)) rfl rfl rfl rfl rfl rfl rfl rfl rfl rfl rfl)) hf hP hD hS (lv_sub hl [0, 1, 2, 3, 4] rfl)
  exact LP_1 (186 + 1) 0 (Nat.zero_le _) (by omega) _ _ _ _ (hM.eq (all14 rfl rfl (cpI_0 (f := G 0) (g := G 2) (p := p) (q := q)).symm rfl rfl rfl rfl rfl rfl rfl rfl rfl rfl rfl)) hf hP hD hS (lv_sub hl [0, 1, 2, 3, 4] rfl)

set_option maxHeartbeats 4000000 in
set_option maxRecDepth 100000 in
theorem m_copies20 (l : Launch) (E : NE) (ad : Nat → Nat) (st : NW) (b : Nat) (G : Nat → Nat → Int32) (hM : isR E ad st b sM G) (p q : Nat) (hp : p + 186 ≤ 1116) (hq : q + 186 ≤ 186) : nMv l yX5_copies wsX5_copies (nRm 0 0) E ad st [.ref (ad (b + 1 + 2)), .int (nI p), .ref (ad (b + 1 + 0)), .int (nI q)] (fun s1 => isR E ad s1 b sM (gu G 0 (cpI (G 2) (G 0) p q 186)) ∧ fr b st s1) := by
  refine nSv (cc := cX5_copies) (maxL := 5) (by decide) rfl (Nat.le_of_ble_eq_true rfl) ?_
  intro pg en s mi ar bw mth cd R Q A ls hx hb hml hown hts hRm hP hK hD hZ hA hl hret
  subst hRm
  have hown : s.vm.findClass RX5 = some mi.cls := hown
  have hS : va_S A s.heap s.heap [] := va_S.rf
  have hl : lv_has ls 5 [(0, .ref (ad (b + 1 + 2))), (1, .int (nI p)), (2, .ref (ad (b + 1 + 0))), (3, .int (nI q))] := hl
  have hf : fr b st st := fr.rf
  refine lv_iconst (v := 0) hx hb dX5_copies_0 (by decide) ?_
  refine lv_istore (lv' := [(4, .int 0), (0, .ref (ad (b + 1 + 2))), (1, .int (nI p)), (2, .ref (ad (b + 1 + 0))), (3, .int (nI q))]) hx hb dX5_copies_1 hl (by decide) rfl (fun ls hl => ?_)
  have LP_1 : ∀ (k9 i : Nat), i ≤ 186 → 186 - i < k9 → ∀ (sL_2 : NW) (H : Heap) (locs : List Loc) (ls : Array Slot), isR E ad sL_2 b sM (gu G 0 (cpI (G 2) (G 0) p q i)) → fr b st sL_2 → nP E ad sL_2 H → nD A ad sL_2 → va_S A s.heap H locs → lv_has ls 5 [(4, .int (nI i)), (0, .ref (ad (b + 1 + 2))), (1, .int (nI p)), (2, .ref (ad (b + 1 + 0))), (3, .int (nI q))] → W pg l en (nRm 0 0) s mi ar bw mth cd H locs 0 0 Q (F0 mi 3 ls []) := by
    intro k9
    induction k9 with
    | zero => intro i _ h9; exact absurd h9 (Nat.not_lt_zero _)
    | succ k9 ih3 =>
      intro i hi hk9 sL_2 H locs ls hM hf hP hD hS hl
      refine lv_iload hx hb dX5_copies_3 (lv_at hl 0 rfl) ?_
      refine lv_sipush (v := 186) hx hb dX5_copies_5 (by decide) ?_
      refine lv_icmp_ge (tgt := 29) hx hb dX5_copies_8 (by decide) (fun c8_2 => ?_) (fun c8_2 => ?_)
      · have h36 : 186 ≤ i := (nI_geL (n := 186) rfl (by decide) (by omega)).mp c8_2
        obtain rfl : i = 186 := by omega
        exact hret _ _ _ _ _ hP hD hS (⟨hM, hf⟩) dX5_copies_29
      · have hlt : i < 186 := by have := mt (nI_geL (n := 186) (i := i) rfl (by decide) (by omega)).mpr c8_2; omega
        refine lv_aload_n hx hb dX5_copies_11 rfl (lv_at hl 3 rfl) ?_
        refine lv_iload_n hx hb dX5_copies_12 rfl (lv_at hl 4 rfl) ?_
        refine lv_iload hx hb dX5_copies_13 (lv_at hl 0 rfl) ?_
        refine lv_iadd hx hb dX5_copies_15 ?_
        rw [show nI q + nI i = nI (q + i) from nI_add q i]
        refine lv_aload_n hx hb dX5_copies_16 rfl (lv_at hl 1 rfl) ?_
        refine lv_iload_n hx hb dX5_copies_17 rfl (lv_at hl 2 rfl) ?_
        refine lv_iload hx hb dX5_copies_18 (lv_at hl 0 rfl) ?_
        refine lv_iadd hx hb dX5_copies_20 ?_
        rw [show nI p + nI i = nI (p + i) from nI_add p i]
        refine ra (j := (p + i)) (n := 1116) hx hb hK hP hM 2 rfl (by omega) (by decide) dX5_copies_21 ?_
        refine rs (j := (q + i)) (n := 186) (x := G 2 (p + i)) hx hb hK hP hD hS hM 0 rfl (by decide) (by omega) (by decide) dX5_copies_22 (fun s_4 H locs hM hf_5 hP hD hS => ?_)
        have hf := hf.tr hf_5
        have hM : isR E ad s_4 b sM (gu G 0 (upd (cpI (G 2) (G 0) p q i) (q + i) (G 2 (p + i)))) := hM.eq (all14 rfl rfl rfl rfl rfl rfl rfl rfl rfl rfl rfl rfl rfl rfl)
        refine lv_iinc (v := nI (i + 1)) (lv' := [(4, .int (nI (i + 1))), (0, .ref (ad (b + 1 + 2))), (1, .int (nI p)), (2, .ref (ad (b + 1 + 0))), (3, .int (nI q))]) hx hb dX5_copies_23 hl (k := 0) rfl (nI_1 _) (by decide) rfl (fun ls hl => ?_)
        refine lv_goto (tgt := 3) hx hb dX5_copies_26 (by decide) ?_
        exact ih3 (i + 1) (by omega) (by omega) _ _ _ _ (hM.eq (all14 (cpI_s (f := G 2) (g := G 0) (p := p) (q := q) (i := i)) rfl rfl rfl rfl rfl rfl rfl rfl rfl rfl rfl rfl rfl)) hf hP hD hS (lv_sub hl [0, 1, 2, 3, 4] rfl)
  exact LP_1 (186 + 1) 0 (Nat.zero_le _) (by omega) _ _ _ _ (hM.eq (all14 (cpI_0 (f := G 2) (g := G 0) (p := p) (q := q)).symm rfl rfl rfl rfl rfl rfl rfl rfl rfl rfl rfl rfl rfl)) hf hP hD hS (lv_sub hl [0, 1, 2, 3, 4] rfl)

set_option maxHeartbeats 4000000 in
set_option maxRecDepth 100000 in
theorem m_copies01 (l : Launch) (E : NE) (ad : Nat → Nat) (st : NW) (b : Nat) (G : Nat → Nat → Int32) (hM : isR E ad st b sM G) (p q : Nat) (hp : p + 186 ≤ 186) (hq : q + 186 ≤ 186) : nMv l yX5_copies wsX5_copies (nRm 0 0) E ad st [.ref (ad (b + 1 + 0)), .int (nI p), .ref (ad (b + 1 + 1)), .int (nI q)] (fun s1 => isR E ad s1 b sM (gu G 1 (cpI (G 0) (G 1) p q 186)) ∧ fr b st s1) := by
  refine nSv (cc := cX5_copies) (maxL := 5) (by decide) rfl (Nat.le_of_ble_eq_true rfl) ?_
  intro pg en s mi ar bw mth cd R Q A ls hx hb hml hown hts hRm hP hK hD hZ hA hl hret
  subst hRm
  have hown : s.vm.findClass RX5 = some mi.cls := hown
  have hS : va_S A s.heap s.heap [] := va_S.rf
  have hl : lv_has ls 5 [(0, .ref (ad (b + 1 + 0))), (1, .int (nI p)), (2, .ref (ad (b + 1 + 1))), (3, .int (nI q))] := hl
  have hf : fr b st st := fr.rf
  refine lv_iconst (v := 0) hx hb dX5_copies_0 (by decide) ?_
  refine lv_istore (lv' := [(4, .int 0), (0, .ref (ad (b + 1 + 0))), (1, .int (nI p)), (2, .ref (ad (b + 1 + 1))), (3, .int (nI q))]) hx hb dX5_copies_1 hl (by decide) rfl (fun ls hl => ?_)
  have LP_1 : ∀ (k9 i : Nat), i ≤ 186 → 186 - i < k9 → ∀ (sL_2 : NW) (H : Heap) (locs : List Loc) (ls : Array Slot), isR E ad sL_2 b sM (gu G 1 (cpI (G 0) (G 1) p q i)) → fr b st sL_2 → nP E ad sL_2 H → nD A ad sL_2 → va_S A s.heap H locs → lv_has ls 5 [(4, .int (nI i)), (0, .ref (ad (b + 1 + 0))), (1, .int (nI p)), (2, .ref (ad (b + 1 + 1))), (3, .int (nI q))] → W pg l en (nRm 0 0) s mi ar bw mth cd H locs 0 0 Q (F0 mi 3 ls []) := by
    intro k9
    induction k9 with
    | zero => intro i _ h9; exact absurd h9 (Nat.not_lt_zero _)
    | succ k9 ih3 =>
      intro i hi hk9 sL_2 H locs ls hM hf hP hD hS hl
      refine lv_iload hx hb dX5_copies_3 (lv_at hl 0 rfl) ?_
      refine lv_sipush (v := 186) hx hb dX5_copies_5 (by decide) ?_
      refine lv_icmp_ge (tgt := 29) hx hb dX5_copies_8 (by decide) (fun c8_2 => ?_) (fun c8_2 => ?_)
      · have h36 : 186 ≤ i := (nI_geL (n := 186) rfl (by decide) (by omega)).mp c8_2
        obtain rfl : i = 186 := by omega
        exact hret _ _ _ _ _ hP hD hS (⟨hM, hf⟩) dX5_copies_29
      · have hlt : i < 186 := by have := mt (nI_geL (n := 186) (i := i) rfl (by decide) (by omega)).mpr c8_2; omega
        refine lv_aload_n hx hb dX5_copies_11 rfl (lv_at hl 3 rfl) ?_
        refine lv_iload_n hx hb dX5_copies_12 rfl (lv_at hl 4 rfl) ?_
        refine lv_iload hx hb dX5_copies_13 (lv_at hl 0 rfl) ?_
        refine lv_iadd hx hb dX5_copies_15 ?_
        rw [show nI q + nI i = nI (q + i) from nI_add q i]
        refine lv_aload_n hx hb dX5_copies_16 rfl (lv_at hl 1 rfl) ?_
        refine lv_iload_n hx hb dX5_copies_17 rfl (lv_at hl 2 rfl) ?_
        refine lv_iload hx hb dX5_copies_18 (lv_at hl 0 rfl) ?_
        refine lv_iadd hx hb dX5_copies_20 ?_
        rw [show nI p + nI i = nI (p + i) from nI_add p i]
        refine ra (j := (p + i)) (n := 186) hx hb hK hP hM 0 rfl (by omega) (by decide) dX5_copies_21 ?_
        refine rs (j := (q + i)) (n := 186) (x := G 0 (p + i)) hx hb hK hP hD hS hM 1 rfl (by decide) (by omega) (by decide) dX5_copies_22 (fun s_4 H locs hM hf_5 hP hD hS => ?_)
        have hf := hf.tr hf_5
        have hM : isR E ad s_4 b sM (gu G 1 (upd (cpI (G 0) (G 1) p q i) (q + i) (G 0 (p + i)))) := hM.eq (all14 rfl rfl rfl rfl rfl rfl rfl rfl rfl rfl rfl rfl rfl rfl)
        refine lv_iinc (v := nI (i + 1)) (lv' := [(4, .int (nI (i + 1))), (0, .ref (ad (b + 1 + 0))), (1, .int (nI p)), (2, .ref (ad (b + 1 + 1))), (3, .int (nI q))]) hx hb dX5_copies_23 hl (k := 0) rfl (nI_1 _) (by decide) rfl (fun ls hl => ?_)
        refine lv_goto (tgt := 3) hx hb dX5_copies_26 (by decide) ?_
        exact ih3 (i + 1) (by omega) (by omega) _ _ _ _ (hM.eq (all14 rfl (cpI_s (f := G 0) (g := G 1) (p := p) (q := q) (i := i)) rfl rfl rfl rfl rfl rfl rfl rfl rfl rfl rfl rfl)) hf hP hD hS (lv_sub hl [0, 1, 2, 3, 4] rfl)
  exact LP_1 (186 + 1) 0 (Nat.zero_le _) (by omega) _ _ _ _ (hM.eq (all14 rfl (cpI_0 (f := G 0) (g := G 1) (p := p) (q := q)).symm rfl rfl rfl rfl rfl rfl rfl rfl rfl rfl rfl rfl)) hf hP hD hS (lv_sub hl [0, 1, 2, 3, 4] rfl)

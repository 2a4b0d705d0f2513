set_option maxHeartbeats 4000000 in
set_option maxRecDepth 100000 in
theorem c_bitsOf (l : Launch) (E : NE) (ad : Nat → Nat) (st : NW) (x : UInt64) (v : Int64) (hv : bitV x = some v) : nMl l yX4_bitsOf wsX4_bitsOf (nRm 0 0) E ad st [.double x] (fun r s1 => r = v ∧ st = s1) := by
  refine nSl (cc := cX4_bitsOf) (maxL := 6) (by decide) rfl (Nat.le_of_ble_eq_true rfl) ?_
  intro pg en s mi ar bw mth cd R Q A ls hx hb hml hown hts hRm hP hK hD hZ hA hl hret
  subst hRm
  have hown : s.vm.findClass RX4 = some mi.cls := hown
  have hS : va_S A s.heap s.heap [] := va_S.rf
  have hl : lv_has ls 6 [(0, .double x)] := hl
  refine lv_dload_n hx hb dX4_bitsOf_0 rfl (lv_at hl 0 rfl) ?_
  refine lv_dconst0 hx hb dX4_bitsOf_1 ?_
  refine lv_dcmp hx hb dX4_bitsOf_2 ?_
  refine lv_if_gt (tgt := 8) hx hb dX4_bitsOf_3 (by decide) (fun c3_0 => ?_) (fun c3_0 => ?_)
  · unfold bitV at hv
    rw [if_pos c3_0] at hv
    refine lv_dload_n hx hb dX4_bitsOf_8 rfl (lv_at hl 0 rfl) ?_
    refine lv_dstore_n (lv' := [(2, .double x), (0, .double x)]) hx hb dX4_bitsOf_9 rfl hl (by decide) rfl (fun ls hl => ?_)
    refine lv_ldc2 (v := 1023) hx hb hown (hts (.constantLong RX4 269 1023) (by decide +kernel)) dX4_bitsOf_10 ?_
    refine lv_lstore (lv' := [(4, .long 1023), (2, .double x), (0, .double x)]) hx hb dX4_bitsOf_13 hl (by decide) rfl (fun ls hl => ?_)
    have LP : ∀ (k9 : Nat) (y : UInt64) (e : Int64), boS k9 y e = some v → ∀ (ls : Array Slot), nP E ad st s.heap → nD A ad st → va_S A s.heap s.heap [] → lv_has ls 6 [(2, .double y), (4, .long e)] → W pg l en (nRm 0 0) s mi ar bw mth cd s.heap [] 0 0 Q (F0 mi 15 ls []) := by
      intro k9
      induction k9 with
      | zero => intro y e h9; exact absurd h9 (fun z => by cases z)
      | succ k9 ih =>
        intro y e hv ls hP hD hS hl
        simp only [boS] at hv
        refine lv_dload_n hx hb dX4_bitsOf_15 rfl (lv_at hl 0 rfl) ?_
        refine lv_dconst1 hx hb dX4_bitsOf_16 ?_
        refine lv_dcmp hx hb dX4_bitsOf_17 ?_
        refine lv_if_ge (tgt := 43) hx hb dX4_bitsOf_18 (by decide) (fun c18_1 => ?_) (fun c18_1 => ?_)
        · rw [if_pos c18_1] at hv
          refine lv_lload hx hb dX4_bitsOf_43 (lv_at hl 1 rfl) ?_
          refine lv_bipush (v := 52) hx hb dX4_bitsOf_45 (by decide) ?_
          refine lv_lshl (v := e <<< ((52 : Int32).toInt64 &&& 63)) hx hb dX4_bitsOf_47 rfl ?_
          refine lv_dload_n hx hb dX4_bitsOf_48 rfl (lv_at hl 0 rfl) ?_
          refine lv_dconst1 hx hb dX4_bitsOf_49 ?_
          unfold boE at hv
          by_cases hd3 : okD (FP.dsub y FP.dconst1) = true
          case neg => rw [if_neg hd3] at hv; cases hv
          rw [if_pos hd3] at hv
          refine lv_dsub hx hb dX4_bitsOf_50 (okD.n hd3) ?_
          refine lv_ldc2d (v := 4841369599423283200) hx hb hown (hts (.constantDouble RX4 273 4841369599423283200) (by decide +kernel)) dX4_bitsOf_51 ?_
          by_cases hd4 : okD (FP.dmul (FP.dsub y FP.dconst1) 4841369599423283200) = true
          case neg => rw [if_neg hd4] at hv; cases hv
          rw [if_pos hd4] at hv
          refine lv_dmul hx hb dX4_bitsOf_54 (okD.n hd4) ?_
          refine lv_d2l hx hb dX4_bitsOf_55 ?_
          refine lv_ladd hx hb dX4_bitsOf_56 ?_
          exact hret _ _ _ _ _ _ hP hD hS (⟨Option.some.inj hv, rfl⟩) dX4_bitsOf_57
        · rw [if_neg c18_1] at hv
          refine lv_lload hx hb dX4_bitsOf_21 (lv_at hl 1 rfl) ?_
          refine lv_lconst (v := 1) hx hb dX4_bitsOf_23 (by decide) ?_
          refine W.lcmp hx hb dX4_bitsOf_24 ?_
          refine lv_if_le (tgt := 43) hx hb dX4_bitsOf_25 (by decide) (fun c25_2 => ?_) (fun c25_2 => ?_)
          · rw [if_pos c25_2] at hv
            refine lv_lload hx hb dX4_bitsOf_43 (lv_at hl 1 rfl) ?_
            refine lv_bipush (v := 52) hx hb dX4_bitsOf_45 (by decide) ?_
            refine lv_lshl (v := e <<< ((52 : Int32).toInt64 &&& 63)) hx hb dX4_bitsOf_47 rfl ?_
            refine lv_dload_n hx hb dX4_bitsOf_48 rfl (lv_at hl 0 rfl) ?_
            refine lv_dconst1 hx hb dX4_bitsOf_49 ?_
            unfold boE at hv
            by_cases hd3 : okD (FP.dsub y FP.dconst1) = true
            case neg => rw [if_neg hd3] at hv; cases hv
            rw [if_pos hd3] at hv
            refine lv_dsub hx hb dX4_bitsOf_50 (okD.n hd3) ?_
            refine lv_ldc2d (v := 4841369599423283200) hx hb hown (hts (.constantDouble RX4 273 4841369599423283200) (by decide +kernel)) dX4_bitsOf_51 ?_
            by_cases hd4 : okD (FP.dmul (FP.dsub y FP.dconst1) 4841369599423283200) = true
            case neg => rw [if_neg hd4] at hv; cases hv
            rw [if_pos hd4] at hv
            refine lv_dmul hx hb dX4_bitsOf_54 (okD.n hd4) ?_
            refine lv_d2l hx hb dX4_bitsOf_55 ?_
            refine lv_ladd hx hb dX4_bitsOf_56 ?_
            exact hret _ _ _ _ _ _ hP hD hS (⟨Option.some.inj hv, rfl⟩) dX4_bitsOf_57
          · rw [if_neg c25_2] at hv
            refine lv_dload_n hx hb dX4_bitsOf_28 rfl (lv_at hl 0 rfl) ?_
            refine lv_ldc2d (v := 4611686018427387904) hx hb hown (hts (.constantDouble RX4 271 4611686018427387904) (by decide +kernel)) dX4_bitsOf_29 ?_
            by_cases hd2 : okD (FP.dmul y 4611686018427387904) = true
            case neg => rw [if_neg hd2] at hv; cases hv
            rw [if_pos hd2] at hv
            have hv2 := hv
            refine lv_dmul hx hb dX4_bitsOf_32 (okD.n hd2) ?_
            refine lv_dstore_n (lv' := [(2, .double (FP.dmul y 4611686018427387904)), (4, .long e)]) hx hb dX4_bitsOf_33 rfl hl (by decide) rfl (fun ls hl => ?_)
            refine lv_lload hx hb dX4_bitsOf_34 (lv_at hl 1 rfl) ?_
            refine lv_lconst (v := 1) hx hb dX4_bitsOf_36 (by decide) ?_
            refine lv_lsub hx hb dX4_bitsOf_37 ?_
            refine lv_lstore (lv' := [(4, .long (e - 1)), (2, .double (FP.dmul y 4611686018427387904))]) hx hb dX4_bitsOf_38 hl (by decide) rfl (fun ls hl => ?_)
            refine lv_goto (tgt := 15) hx hb dX4_bitsOf_40 (by decide) ?_
            exact ih _ _ hv2 _ hP hD hS (lv_sub hl [1, 0] rfl)
    exact LP 8 _ _ hv _ hP hD hS (lv_sub hl [1, 0] rfl)
  · unfold bitV at hv
    rw [if_neg c3_0] at hv
    refine lv_lconst (v := 0) hx hb dX4_bitsOf_6 (by decide) ?_
    exact hret _ _ _ _ _ _ hP hD hS (⟨Option.some.inj hv, rfl⟩) dX4_bitsOf_7

set_option maxHeartbeats 4000000 in
set_option maxRecDepth 100000 in
theorem c_withCells (l : Launch) (E : NE) (ad : Nat → Nat) (st : NW) (N : Nat → Int32) (Rs : Nat → Nat → Int32) (a x : Nat) (C : Nat → Int32) (n : Nat) (ha : a ≤ 6) (hxx : x < 6) (hn : n ≤ 60) (hO : okH N) (hW : cW E ad st N Rs a x C n) (h : Int64) : nMl l yX4_withCells wsX4_withCells (nRm 4 93) E ad st [.ref (ad 0), .long h] (fun r s1 => r = hsC N h 36 ∧ st = s1) := by
  refine nSl (cc := cX4_withCells) (maxL := 7) (by decide) rfl (Nat.le_of_ble_eq_true rfl) ?_
  intro pg en s mi ar bw mth cd R Q A ls hx hb hml hown hts hRm hP hK hD hZ hA hl hret
  subst hRm
  have hown : s.vm.findClass RX4 = some mi.cls := hown
  have hS : va_S A s.heap s.heap [] := va_S.rf
  have hl : lv_has ls 7 [(0, .ref (ad 0)), (1, .long h)] := hl
  have hWW := hW
  obtain ⟨hN, hH, hQr, hT, ⟨R0, hB⟩, hR, ⟨Tr, hTr⟩, hRg⟩ := hW
  obtain ⟨G9, hGN⟩ : ∃ G9, G9 = gN N := ⟨_, rfl⟩
  rw [← hGN] at hR
  have hf : frX 0 208 st st := frX.rf
  have hinX2 : ∀ w ∈ wsX20, w ∈ wsX4_withCells := by decide +kernel
  have hinX4 : ∀ w ∈ wsX40, w ∈ wsX4_withCells := by decide +kernel
  refine lv_lload_n hx hb dX4_withCells_0 rfl (lv_at hl 1 rfl) ?_
  refine lv_lstore_n (lv' := [(3, .long h), (0, .ref (ad 0)), (1, .long h)]) hx hb dX4_withCells_1 rfl hl (by decide) rfl (fun ls hl => ?_)
  refine lv_iconst (v := 0) hx hb dX4_withCells_2 (by decide) ?_
  refine lv_istore (lv' := [(5, .int 0), (3, .long h), (0, .ref (ad 0)), (1, .long h)]) hx hb dX4_withCells_3 hl (by decide) rfl (fun ls hl => ?_)
  have LP_1 : ∀ (k9 i : Nat), i ≤ 36 → 36 - i < k9 → ∀ (H : Heap) (locs : List Loc) (ls : Array Slot), nP E ad st H → nD A ad st → va_S A s.heap H locs → lv_has ls 7 [(3, .long (hsC N h i)), (5, .int (nI i)), (0, .ref (ad 0))] → W pg l en (nRm 4 93) s mi ar bw mth cd H locs 0 0 Q (F0 mi 5 ls []) := by
    intro k9
    induction k9 with
    | zero => intro i _ h9; exact absurd h9 (Nat.not_lt_zero _)
    | succ k9 ih5 =>
      intro i hi hk9 H locs ls  hP hD hS hl
      refine lv_iload hx hb dX4_withCells_5 (lv_at hl 1 rfl) ?_
      refine lv_bipush (v := 36) hx hb dX4_withCells_7 (by decide) ?_
      refine lv_icmp_ge (tgt := 48) hx hb dX4_withCells_9 (by decide) (fun c9_1 => ?_) (fun c9_1 => ?_)
      · have h36 : 36 ≤ i := (nI_geL (n := 36) rfl (by decide) (by omega)).mp c9_1
        obtain rfl : i = 36 := by omega
        refine lv_lload_n hx hb dX4_withCells_48 rfl (lv_at hl 0 rfl) ?_
        exact hret _ _ _ _ _ _ hP hD hS (⟨rfl, rfl⟩) dX4_withCells_49
      · have hlo : i < 36 := by have := mt (nI_geL (n := 36) (i := i) rfl (by decide) (by omega)).mpr c9_1; omega
        refine lv_iconst (v := 0) hx hb dX4_withCells_12 (by decide) ?_
        refine lv_istore (lv' := [(6, .int 0), (3, .long (hsC N h i)), (5, .int (nI i)), (0, .ref (ad 0))]) hx hb dX4_withCells_13 hl (by decide) rfl (fun ls hl => ?_)
        have LP_3 : ∀ (k9 j : Nat), j ≤ 8 → 8 - j < k9 → ∀ (H : Heap) (locs : List Loc) (ls : Array Slot), nP E ad st H → nD A ad st → va_S A s.heap H locs → lv_has ls 7 [(3, .long (hsI (cellA N i) (hsC N h i) j)), (6, .int (nI j)), (5, .int (nI i)), (0, .ref (ad 0))] → W pg l en (nRm 4 93) s mi ar bw mth cd H locs 0 0 Q (F0 mi 15 ls []) := by
          intro k9
          induction k9 with
          | zero => intro j _ h9; exact absurd h9 (Nat.not_lt_zero _)
          | succ k9 ih15 =>
            intro j hi hk9 H locs ls  hP hD hS hl
            refine lv_iload hx hb dX4_withCells_15 (lv_at hl 1 rfl) ?_
            refine lv_bipush (v := 8) hx hb dX4_withCells_17 (by decide) ?_
            refine lv_icmp_ge (tgt := 42) hx hb dX4_withCells_19 (by decide) (fun c19_3 => ?_) (fun c19_3 => ?_)
            · have h36 : 8 ≤ j := (nI_geL (n := 8) rfl (by decide) (by omega)).mp c19_3
              obtain rfl : j = 8 := by omega
              refine lv_iinc (v := nI (i + 1)) (lv' := [(5, .int (nI (i + 1))), (3, .long (hsI (cellA N i) (hsC N h i) 8)), (6, .int (nI 8)), (0, .ref (ad 0))]) hx hb dX4_withCells_42 hl (k := 2) rfl (nI_1 _) (by decide) rfl (fun ls hl => ?_)
              refine lv_goto (tgt := 5) hx hb dX4_withCells_45 (by decide) ?_
              exact ih5 (i + 1) (by omega) (by omega) _ _ _  hP hD hS (by rw [show hsC N h (i + 1) = hsI (cellA N i) (hsC N h i) 8 from rfl]; exact lv_sub hl [1, 0, 3] rfl)
            · have hlt : j < 8 := by have := mt (nI_geL (n := 8) (i := j) rfl (by decide) (by omega)).mpr c19_3; omega
              refine lv_lload_n hx hb dX4_withCells_22 rfl (lv_at hl 0 rfl) ?_
              refine lv_aload_n hx hb dX4_withCells_23 rfl (lv_at hl 3 rfl) ?_
              refine lv_iload hx hb dX4_withCells_24 (lv_at hl 2 rfl) ?_
              refine lv_iload hx hb dX4_withCells_26 (lv_at hl 1 rfl) ?_
              refine nVi (As := [.int (nI i), .int (nI j)]) (rest := _) hx hb hml hown hts hP hK hD hZ hA hS ⟨Nat.zero_le _, Nat.zero_le _⟩ hN.1 rfl (c_cell l E ad st N Rs a x C n ha hxx hn hO hWW i j (by omega) (by omega)) (cwV 2 hts gX4_withCells_X4_cell rfl rfl rfl (by decide +kernel) ⟨Nat.le_of_ble_eq_true rfl, Nat.le_of_ble_eq_true rfl⟩) hl.1 rfl (Nat.le_of_ble_eq_true rfl) dX4_withCells_28 (fun r_6 s_8 H locs hq hP hD hS => ?_)
              obtain ⟨hrr_6, rfl⟩ := hq
              refine lv_i2l (v := r_6.toInt64) hx hb dX4_withCells_31 rfl ?_
              refine nS_l (As := [.long (hsI (cellA N i) (hsC N h i) j), .long r_6.toInt64]) (rest := _) hx hb hml hown hts hP hK hD hZ hA hS ⟨Nat.zero_le _, Nat.zero_le _⟩ (c_mixed l E ad st (hsI (cellA N i) (hsC N h i) j) r_6.toInt64) (va_cwS 2 hts gX4_withCells_X4_mixed rfl rfl rfl (by decide +kernel) ⟨Nat.le_of_ble_eq_true rfl, Nat.le_of_ble_eq_true rfl⟩) hl.1 rfl (Nat.le_of_ble_eq_true rfl) dX4_withCells_32 (fun r_9 s_10 H locs hq hP hD hS => ?_)
              obtain ⟨hrr_9, rfl⟩ := hq
              refine lv_lstore_n (lv' := [(3, .long r_9), (6, .int (nI j)), (5, .int (nI i)), (0, .ref (ad 0))]) hx hb dX4_withCells_35 rfl hl (by decide) rfl (fun ls hl => ?_)
              refine lv_iinc (v := nI (j + 1)) (lv' := [(6, .int (nI (j + 1))), (3, .long r_9), (5, .int (nI i)), (0, .ref (ad 0))]) hx hb dX4_withCells_36 hl (k := 1) rfl (nI_1 _) (by decide) rfl (fun ls hl => ?_)
              refine lv_goto (tgt := 15) hx hb dX4_withCells_39 (by decide) ?_
              exact ih15 (j + 1) (by omega) (by omega) _ _ _  hP hD hS (by rw [show hsI (cellA N i) (hsC N h i) (j + 1) = r_9 from by rw [hrr_9, hrr_6]; rfl]; exact lv_sub hl [1, 0, 2, 3] rfl)
        exact LP_3 (8 + 1) 0 (Nat.zero_le _) (by omega) _ _ _  hP hD hS (lv_sub hl [1, 0, 2, 3] rfl)
  exact LP_1 (36 + 1) 0 (Nat.zero_le _) (by omega) _ _ _  hP hD hS (lv_sub hl [1, 0, 2] rfl)

set_option maxHeartbeats 4000000 in
set_option maxRecDepth 100000 in
theorem c_withBars (l : Launch) (E : NE) (ad : Nat → Nat) (st : NW) (N : Nat → Int32) (Rs : Nat → Nat → Int32) (a x : Nat) (C : Nat → Int32) (n : Nat) (ha : a ≤ 6) (hxx : x < 6) (hn : n ≤ 60) (hO : okH N) (hW : cW E ad st N Rs a x C n) (h : Int64) : nMl l yX4_withBars wsX4_withBars (nRm 3 67) E ad st [.ref (ad 0), .long h] (fun r s1 => r = hsB N h (barC N) ∧ st = s1) := by
  refine nSl (cc := cX4_withBars) (maxL := 8) (by decide) rfl (Nat.le_of_ble_eq_true rfl) ?_
  intro pg en s mi ar bw mth cd R Q A ls hx hb hml hown hts hRm hP hK hD hZ hA hl hret
  subst hRm
  have hown : s.vm.findClass RX4 = some mi.cls := hown
  have hS : va_S A s.heap s.heap [] := va_S.rf
  have hl : lv_has ls 8 [(0, .ref (ad 0)), (1, .long h)] := hl
  have hWW := hW
  obtain ⟨hN, hH, hQr, hT, ⟨R0, hB⟩, hR, ⟨Tr, hTr⟩, hRg⟩ := hW
  obtain ⟨G9, hGN⟩ : ∃ G9, G9 = gN N := ⟨_, rfl⟩
  rw [← hGN] at hR
  have hf : frX 0 208 st st := frX.rf
  have hinX2 : ∀ w ∈ wsX20, w ∈ wsX4_withBars := by decide +kernel
  have hinX4 : ∀ w ∈ wsX40, w ∈ wsX4_withBars := by decide +kernel
  refine lv_lload_n hx hb dX4_withBars_0 rfl (lv_at hl 1 rfl) ?_
  refine lv_lstore_n (lv' := [(3, .long h), (0, .ref (ad 0)), (1, .long h)]) hx hb dX4_withBars_1 rfl hl (by decide) rfl (fun ls hl => ?_)
  refine lv_aload_n hx hb dX4_withBars_2 rfl (lv_at hl 1 rfl) ?_
  refine rg (v := .ref (ad 64)) (T := TX4) (N := 4) (C := RX4) hx hb hts hinX4 hown hK hP hN rfl 0 (by decide) (hts (.fieldLink RX4 12 "NeedleGrid" "now" "LNeedleGrid$Grid;") (by decide +kernel)) rfl dX4_withBars_3 ?_
  refine nVi (As := []) (rest := _) hx hb hml hown hts hP hK hD hZ hA hS ⟨Nat.zero_le _, Nat.zero_le _⟩ hR.1 rfl (c_barCount l E ad st 64 G9 hR ) (cwV 0 hts gX4_withBars_X2_barCount rfl rfl rfl (by decide +kernel) ⟨Nat.le_of_ble_eq_true rfl, Nat.le_of_ble_eq_true rfl⟩) hl.1 rfl (Nat.le_of_ble_eq_true rfl) dX4_withBars_6 (fun r_1 s_2 H locs hq hP hD hS => ?_)
  obtain ⟨hrr_1, rfl⟩ := hq
  obtain ⟨M, hM, hM36⟩ : ∃ M, M = barC N ∧ M ≤ 36 := ⟨_, rfl, cnI_le _ _⟩
  have hr9 : r_1 = nI M := by rw [hrr_1, hM, hGN]; rfl
  clear hrr_1
  subst hr9
  refine lv_istore (lv' := [(5, .int (nI M)), (3, .long h), (0, .ref (ad 0)), (1, .long h)]) hx hb dX4_withBars_9 hl (by decide) rfl (fun ls hl => ?_)
  refine lv_iconst (v := 0) hx hb dX4_withBars_11 (by decide) ?_
  refine lv_istore (lv' := [(6, .int 0), (5, .int (nI M)), (3, .long h), (0, .ref (ad 0)), (1, .long h)]) hx hb dX4_withBars_12 hl (by decide) rfl (fun ls hl => ?_)
  have LP_3 : ∀ (k9 i : Nat), i ≤ M → M - i < k9 → ∀ (H : Heap) (locs : List Loc) (ls : Array Slot), nP E ad st H → nD A ad st → va_S A s.heap H locs → lv_has ls 8 [(3, .long (hsB N h i)), (6, .int (nI i)), (5, .int (nI M)), (0, .ref (ad 0))] → W pg l en (nRm 3 67) s mi ar bw mth cd H locs 0 0 Q (F0 mi 14 ls []) := by
    intro k9
    induction k9 with
    | zero => intro i _ h9; exact absurd h9 (Nat.not_lt_zero _)
    | succ k9 ih14 =>
      intro i hi hk9 H locs ls  hP hD hS hl
      refine lv_iload hx hb dX4_withBars_14 (lv_at hl 1 rfl) ?_
      refine lv_iload hx hb dX4_withBars_16 (lv_at hl 2 rfl) ?_
      refine lv_icmp_ge (tgt := 56) hx hb dX4_withBars_18 (by decide) (fun c18_3 => ?_) (fun c18_3 => ?_)
      · have h36 : M ≤ i := (nI_leI (by omega) (by omega)).mp c18_3
        obtain rfl : M = i := by omega
        refine lv_lload_n hx hb dX4_withBars_56 rfl (lv_at hl 0 rfl) ?_
        exact hret _ _ _ _ _ _ hP hD hS (⟨by rw [hM], rfl⟩) dX4_withBars_57
      · have hlo : i < M := by have := mt (nI_leI (a := M) (b := i) (by omega) (by omega)).mpr c18_3; omega
        refine lv_iconst (v := 0) hx hb dX4_withBars_21 (by decide) ?_
        refine lv_istore (lv' := [(7, .int 0), (3, .long (hsB N h i)), (6, .int (nI i)), (5, .int (nI M)), (0, .ref (ad 0))]) hx hb dX4_withBars_22 hl (by decide) rfl (fun ls hl => ?_)
        have LP_5 : ∀ (k9 j : Nat), j ≤ 3 → 3 - j < k9 → ∀ (H : Heap) (locs : List Loc) (ls : Array Slot), nP E ad st H → nD A ad st → va_S A s.heap H locs → lv_has ls 8 [(3, .long (hsI (barA N (nI i)) (hsB N h i) j)), (7, .int (nI j)), (6, .int (nI i)), (5, .int (nI M)), (0, .ref (ad 0))] → W pg l en (nRm 3 67) s mi ar bw mth cd H locs 0 0 Q (F0 mi 24 ls []) := by
          intro k9
          induction k9 with
          | zero => intro j _ h9; exact absurd h9 (Nat.not_lt_zero _)
          | succ k9 ih24 =>
            intro j hi hk9 H locs ls  hP hD hS hl
            refine lv_iload hx hb dX4_withBars_24 (lv_at hl 1 rfl) ?_
            refine lv_iconst (v := 3) hx hb dX4_withBars_26 (by decide) ?_
            refine lv_icmp_ge (tgt := 50) hx hb dX4_withBars_27 (by decide) (fun c27_5 => ?_) (fun c27_5 => ?_)
            · have h36 : 3 ≤ j := (nI_geL (n := 3) rfl (by decide) (by omega)).mp c27_5
              obtain rfl : j = 3 := by omega
              refine lv_iinc (v := nI (i + 1)) (lv' := [(6, .int (nI (i + 1))), (3, .long (hsI (barA N (nI i)) (hsB N h i) 3)), (7, .int (nI 3)), (5, .int (nI M)), (0, .ref (ad 0))]) hx hb dX4_withBars_50 hl (k := 2) rfl (nI_1 _) (by decide) rfl (fun ls hl => ?_)
              refine lv_goto (tgt := 14) hx hb dX4_withBars_53 (by decide) ?_
              exact ih14 (i + 1) (by omega) (by omega) _ _ _  hP hD hS (by rw [show hsB N h (i + 1) = hsI (barA N (nI i)) (hsB N h i) 3 from rfl]; exact lv_sub hl [1, 0, 3, 4] rfl)
            · have hlt : j < 3 := by have := mt (nI_geL (n := 3) (i := j) rfl (by decide) (by omega)).mpr c27_5; omega
              refine lv_lload_n hx hb dX4_withBars_30 rfl (lv_at hl 0 rfl) ?_
              refine lv_aload_n hx hb dX4_withBars_31 rfl (lv_at hl 4 rfl) ?_
              refine lv_iload hx hb dX4_withBars_32 (lv_at hl 2 rfl) ?_
              refine lv_iload hx hb dX4_withBars_34 (lv_at hl 1 rfl) ?_
              refine nVi (As := [.int (nI i), .int (nI j)]) (rest := _) hx hb hml hown hts hP hK hD hZ hA hS ⟨Nat.zero_le _, Nat.zero_le _⟩ hN.1 rfl (c_barOf l E ad st N Rs a x C n ha hxx hn hO hWW (nI i) j (nI_pos (by omega)) (by omega)) (cwV 2 hts gX4_withBars_X4_barOf rfl rfl rfl (by decide +kernel) ⟨Nat.le_of_ble_eq_true rfl, Nat.le_of_ble_eq_true rfl⟩) hl.1 rfl (Nat.le_of_ble_eq_true rfl) dX4_withBars_36 (fun r_8 s_10 H locs hq hP hD hS => ?_)
              obtain ⟨hrr_8, rfl⟩ := hq
              refine lv_i2l (v := r_8.toInt64) hx hb dX4_withBars_39 rfl ?_
              refine nS_l (As := [.long (hsI (barA N (nI i)) (hsB N h i) j), .long r_8.toInt64]) (rest := _) hx hb hml hown hts hP hK hD hZ hA hS ⟨Nat.zero_le _, Nat.zero_le _⟩ (c_mixed l E ad st (hsI (barA N (nI i)) (hsB N h i) j) r_8.toInt64) (va_cwS 2 hts gX4_withBars_X4_mixed rfl rfl rfl (by decide +kernel) ⟨Nat.le_of_ble_eq_true rfl, Nat.le_of_ble_eq_true rfl⟩) hl.1 rfl (Nat.le_of_ble_eq_true rfl) dX4_withBars_40 (fun r_11 s_12 H locs hq hP hD hS => ?_)
              obtain ⟨hrr_11, rfl⟩ := hq
              refine lv_lstore_n (lv' := [(3, .long r_11), (7, .int (nI j)), (6, .int (nI i)), (5, .int (nI M)), (0, .ref (ad 0))]) hx hb dX4_withBars_43 rfl hl (by decide) rfl (fun ls hl => ?_)
              refine lv_iinc (v := nI (j + 1)) (lv' := [(7, .int (nI (j + 1))), (3, .long r_11), (6, .int (nI i)), (5, .int (nI M)), (0, .ref (ad 0))]) hx hb dX4_withBars_44 hl (k := 1) rfl (nI_1 _) (by decide) rfl (fun ls hl => ?_)
              refine lv_goto (tgt := 24) hx hb dX4_withBars_47 (by decide) ?_
              exact ih24 (j + 1) (by omega) (by omega) _ _ _  hP hD hS (by rw [show hsI (barA N (nI i)) (hsB N h i) (j + 1) = r_11 from by rw [hrr_11, hrr_8]; rfl]; exact lv_sub hl [1, 0, 2, 3, 4] rfl)
        exact LP_5 (3 + 1) 0 (Nat.zero_le _) (by omega) _ _ _  hP hD hS (lv_sub hl [1, 0, 2, 3, 4] rfl)
  exact LP_3 (M + 1) 0 (Nat.zero_le _) (by omega) _ _ _  hP hD hS (lv_sub hl [2, 0, 1, 3] rfl)

set_option maxHeartbeats 4000000 in
set_option maxRecDepth 100000 in
theorem c_withBuffer (l : Launch) (E : NE) (ad : Nat → Nat) (st : NW) (N : Nat → Int32) (Rs : Nat → Nat → Int32) (a x : Nat) (C : Nat → Int32) (n : Nat) (ha : a ≤ 6) (hxx : x < 6) (hn : n ≤ 60) (hO : okH N) (hW : cW E ad st N Rs a x C n) (h : Int64) : nMl l yX4_withBuffer wsX4_withBuffer (nRm 1 23) E ad st [.ref (ad 0), .long h] (fun r s1 => r = hsT C n h ∧ st = s1) := by
  refine nSl (cc := cX4_withBuffer) (maxL := 6) (by decide) rfl (Nat.le_of_ble_eq_true rfl) ?_
  intro pg en s mi ar bw mth cd R Q A ls hx hb hml hown hts hRm hP hK hD hZ hA hl hret
  subst hRm
  have hown : s.vm.findClass RX4 = some mi.cls := hown
  have hS : va_S A s.heap s.heap [] := va_S.rf
  have hl : lv_has ls 6 [(0, .ref (ad 0)), (1, .long h)] := hl
  have hWW := hW
  obtain ⟨hN, hH, hQr, hT, ⟨R0, hB⟩, hR, ⟨Tr, hTr⟩, hRg⟩ := hW
  obtain ⟨G9, hGN⟩ : ∃ G9, G9 = gN N := ⟨_, rfl⟩
  rw [← hGN] at hR
  have hf : frX 0 208 st st := frX.rf
  have hinX1 : ∀ w ∈ wsX10, w ∈ wsX4_withBuffer := by decide +kernel
  have hinX4 : ∀ w ∈ wsX40, w ∈ wsX4_withBuffer := by decide +kernel
  refine lv_lload_n hx hb dX4_withBuffer_0 rfl (lv_at hl 1 rfl) ?_
  refine lv_aload_n hx hb dX4_withBuffer_1 rfl (lv_at hl 0 rfl) ?_
  refine rg (v := .ref (ad 32)) (T := TX4) (N := 4) (C := RX4) hx hb hts hinX4 hown hK hP hN rfl 3 (by decide) (hts (.fieldLink RX4 29 "NeedleGrid" "text" "LNeedleGrid$BarText;") (by decide +kernel)) rfl dX4_withBuffer_2 ?_
  refine rgN (v := .int (nI n)) (T := TX1) (N := 3) (C := RX1) hx hb hts hinX1 hown hK hP hT rfl 1 (by decide) (nlF_112 hZ) rfl dX4_withBuffer_5 ?_
  refine lv_i2l (v := (nI n).toInt64) hx hb dX4_withBuffer_8 rfl ?_
  refine nS_l (As := [.long h, .long ((nI n).toInt64)]) (rest := _) hx hb hml hown hts hP hK hD hZ hA hS ⟨Nat.zero_le _, Nat.zero_le _⟩ (c_mixed l E ad st h ((nI n).toInt64)) (va_cwS 2 hts gX4_withBuffer_X4_mixed rfl rfl rfl (by decide +kernel) ⟨Nat.le_of_ble_eq_true rfl, Nat.le_of_ble_eq_true rfl⟩) hl.1 rfl (Nat.le_of_ble_eq_true rfl) dX4_withBuffer_9 (fun r_1 s_2 H locs hq hP hD hS => ?_)
  obtain ⟨hrr_1, rfl⟩ := hq
  refine lv_lstore_n (lv' := [(3, .long r_1), (0, .ref (ad 0)), (1, .long h)]) hx hb dX4_withBuffer_12 rfl hl (by decide) rfl (fun ls hl => ?_)
  obtain ⟨h0, hh0⟩ : ∃ h0, h0 = mx h (nI n).toInt64 := ⟨_, rfl⟩
  have hr9 : r_1 = h0 := by rw [hrr_1, hh0]
  clear hrr_1
  subst hr9
  refine lv_iconst (v := 0) hx hb dX4_withBuffer_13 (by decide) ?_
  refine lv_istore (lv' := [(5, .int 0), (3, .long r_1), (0, .ref (ad 0)), (1, .long h)]) hx hb dX4_withBuffer_14 hl (by decide) rfl (fun ls hl => ?_)
  have LP_3 : ∀ (k9 i : Nat), i ≤ n → n - i < k9 → ∀ (H : Heap) (locs : List Loc) (ls : Array Slot), nP E ad st H → nD A ad st → va_S A s.heap H locs → lv_has ls 6 [(3, .long (hsI C r_1 i)), (5, .int (nI i)), (0, .ref (ad 0))] → W pg l en (nRm 1 23) s mi ar bw mth cd H locs 0 0 Q (F0 mi 16 ls []) := by
    intro k9
    induction k9 with
    | zero => intro i _ h9; exact absurd h9 (Nat.not_lt_zero _)
    | succ k9 ih16 =>
      intro i hi hk9 H locs ls  hP hD hS hl
      refine lv_iload hx hb dX4_withBuffer_16 (lv_at hl 1 rfl) ?_
      refine lv_aload_n hx hb dX4_withBuffer_18 rfl (lv_at hl 2 rfl) ?_
      refine rg (v := .ref (ad 32)) (T := TX4) (N := 4) (C := RX4) hx hb hts hinX4 hown hK hP hN rfl 3 (by decide) (hts (.fieldLink RX4 29 "NeedleGrid" "text" "LNeedleGrid$BarText;") (by decide +kernel)) rfl dX4_withBuffer_19 ?_
      refine rgN (v := .int (nI n)) (T := TX1) (N := 3) (C := RX1) hx hb hts hinX1 hown hK hP hT rfl 1 (by decide) (nlF_112 hZ) rfl dX4_withBuffer_22 ?_
      refine lv_icmp_ge (tgt := 57) hx hb dX4_withBuffer_25 (by decide) (fun c25_3 => ?_) (fun c25_3 => ?_)
      · have h36 : n ≤ i := (nI_leI (by omega) (by omega)).mp c25_3
        obtain rfl : n = i := by omega
        refine lv_lload_n hx hb dX4_withBuffer_57 rfl (lv_at hl 0 rfl) ?_
        exact hret _ _ _ _ _ _ hP hD hS (⟨by unfold hsT; rw [← hh0], rfl⟩) dX4_withBuffer_58
      · have hlt : i < n := by have := mt (nI_leI (a := n) (b := i) (by omega) (by omega)).mpr c25_3; omega
        refine lv_iload hx hb dX4_withBuffer_28 (lv_at hl 1 rfl) ?_
        refine lv_bipush (v := 60) hx hb dX4_withBuffer_30 (by decide) ?_
        refine lv_icmp_ge (tgt := 57) hx hb dX4_withBuffer_32 (by decide) (fun c32_4 => absurd ((nI_geL (n := 60) rfl (by decide) (by omega)).mp c32_4) (by omega)) (fun c32_4 => ?_)
        refine lv_lload_n hx hb dX4_withBuffer_35 rfl (lv_at hl 0 rfl) ?_
        refine lv_aload_n hx hb dX4_withBuffer_36 rfl (lv_at hl 2 rfl) ?_
        refine rg (v := .ref (ad 32)) (T := TX4) (N := 4) (C := RX4) hx hb hts hinX4 hown hK hP hN rfl 3 (by decide) (hts (.fieldLink RX4 29 "NeedleGrid" "text" "LNeedleGrid$BarText;") (by decide +kernel)) rfl dX4_withBuffer_37 ?_
        refine rgN (v := .ref (ad (32 + 1 + 0))) (T := TX1) (N := 3) (C := RX1) hx hb hts hinX1 hown hK hP hT rfl 0 (by decide) (nlF_264 hZ) rfl dX4_withBuffer_40 ?_
        refine lv_iload hx hb dX4_withBuffer_43 (lv_at hl 1 rfl) ?_
        refine ra (j := i) (n := 60) hx hb hK hP hT 0 rfl (by omega) (by decide) dX4_withBuffer_45 ?_
        refine lv_i2l (v := (C i).toInt64) hx hb dX4_withBuffer_46 rfl ?_
        refine nS_l (As := [.long (hsI C r_1 i), .long ((C i).toInt64)]) (rest := _) hx hb hml hown hts hP hK hD hZ hA hS ⟨Nat.zero_le _, Nat.zero_le _⟩ (c_mixed l E ad st (hsI C r_1 i) ((C i).toInt64)) (va_cwS 2 hts gX4_withBuffer_X4_mixed rfl rfl rfl (by decide +kernel) ⟨Nat.le_of_ble_eq_true rfl, Nat.le_of_ble_eq_true rfl⟩) hl.1 rfl (Nat.le_of_ble_eq_true rfl) dX4_withBuffer_47 (fun r_6 s_7 H locs hq hP hD hS => ?_)
        obtain ⟨hrr_6, rfl⟩ := hq
        refine lv_lstore_n (lv' := [(3, .long r_6), (5, .int (nI i)), (0, .ref (ad 0))]) hx hb dX4_withBuffer_50 rfl hl (by decide) rfl (fun ls hl => ?_)
        refine lv_iinc (v := nI (i + 1)) (lv' := [(5, .int (nI (i + 1))), (3, .long r_6), (0, .ref (ad 0))]) hx hb dX4_withBuffer_51 hl (k := 1) rfl (nI_1 _) (by decide) rfl (fun ls hl => ?_)
        refine lv_goto (tgt := 16) hx hb dX4_withBuffer_54 (by decide) ?_
        exact ih16 (i + 1) (by omega) (by omega) _ _ _  hP hD hS (by rw [show hsI C r_1 (i + 1) = r_6 from by rw [hrr_6]; rfl]; exact lv_sub hl [1, 0, 2] rfl)
  exact LP_3 (n + 1) 0 (Nat.zero_le _) (by omega) _ _ _  hP hD hS (lv_sub hl [1, 0, 2] rfl)

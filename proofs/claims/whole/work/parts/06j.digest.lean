set_option maxHeartbeats 4000000 in
set_option maxRecDepth 100000 in
theorem c_digest (l : Launch) (E : NE) (ad : Nat → Nat) (st : NW) (N : Nat → Int32) (Rs : Nat → Nat → Int32) (a x : Nat) (C : Nat → Int32) (n : Nat) (ha : a ≤ 6) (hxx : x < 6) (hn : n ≤ 60) (hO : okH N) (hW : cW E ad st N Rs a x C n) (v : Int64) (hbv : bitV (obV N) = some v) : nMl l yX4_digest wsX4_digest (nRm 6 136) E ad st [.ref (ad 0)] (fun r s1 => r = digA N a C n v ∧ cW E ad s1 N Rs a x C n ∧ frX 0 208 st s1) := by
  refine nSl (cc := cX4_digest) (maxL := 4) (by decide) rfl (Nat.le_of_ble_eq_true rfl) ?_
  intro pg en s mi ar bw mth cd R Q A ls hx hb hml hown hts hRm hP hK hD hZ hA hl hret
  subst hRm
  have hown : s.vm.findClass RX4 = some mi.cls := hown
  have hS : va_S A s.heap s.heap [] := va_S.rf
  have hl : lv_has ls 4 [(0, .ref (ad 0))] := hl
  have hWW := hW
  have hN := hW.1
  have hinX1 : ∀ w ∈ wsX10, w ∈ wsX4_digest := by decide +kernel
  have hinX2 : ∀ w ∈ wsX20, w ∈ wsX4_digest := by decide +kernel
  have hinX3 : ∀ w ∈ wsX30, w ∈ wsX4_digest := by decide +kernel
  have hinX4 : ∀ w ∈ wsX40, w ∈ wsX4_digest := by decide +kernel
  refine lv_ldc2 (v := 3167) hx hb hown (hts (.constantLong RX4 209 3167) (by decide +kernel)) dX4_digest_0 ?_
  refine lv_lstore_n (lv' := [(1, .long 3167), (0, .ref (ad 0))]) hx hb dX4_digest_3 rfl hl (by decide) rfl (fun ls hl => ?_)
  refine lv_iconst (v := 0) hx hb dX4_digest_4 (by decide) ?_
  refine lv_istore_n (lv' := [(3, .int 0), (1, .long 3167), (0, .ref (ad 0))]) hx hb dX4_digest_5 rfl hl (by decide) rfl (fun ls hl => ?_)
  have LP_1 : ∀ (k9 i : Nat), i ≤ 9 → 9 - i < k9 → ∀ (H : Heap) (locs : List Loc) (ls : Array Slot), nP E ad st H → nD A ad st → va_S A s.heap H locs → lv_has ls 4 [(1, .long (hsI (cntA N a) 3167 i)), (3, .int (nI i)), (0, .ref (ad 0))] → W pg l en (nRm 6 136) s mi ar bw mth cd H locs 0 0 Q (F0 mi 6 ls []) := by
    intro k9
    induction k9 with
    | zero => intro i _ h9; exact absurd h9 (Nat.not_lt_zero _)
    | succ k9 ih6 =>
      intro i hi hk9 H locs ls  hP hD hS hl
      refine lv_iload_n hx hb dX4_digest_6 rfl (lv_at hl 1 rfl) ?_
      refine lv_bipush (v := 9) hx hb dX4_digest_7 (by decide) ?_
      refine lv_icmp_ge (tgt := 29) hx hb dX4_digest_9 (by decide) (fun c9_1 => ?_) (fun c9_1 => ?_)
      · have h36 : 9 ≤ i := (nI_geL (n := 9) rfl (by decide) (by omega)).mp c9_1
        obtain rfl : i = 9 := by omega
        refine lv_iconst (v := 0) hx hb dX4_digest_29 (by decide) ?_
        refine lv_istore_n (lv' := [(3, .int 0), (1, .long (hsI (cntA N a) 3167 9)), (0, .ref (ad 0))]) hx hb dX4_digest_30 rfl hl (by decide) rfl (fun ls hl => ?_)
        have LP_3 : ∀ (k9 j : Nat), j ≤ 3 → 3 - j < k9 → ∀ (H : Heap) (locs : List Loc) (ls : Array Slot), nP E ad st H → nD A ad st → va_S A s.heap H locs → lv_has ls 4 [(1, .long (hsI N (hsI (cntA N a) 3167 9) j)), (3, .int (nI j)), (0, .ref (ad 0))] → W pg l en (nRm 6 136) s mi ar bw mth cd H locs 0 0 Q (F0 mi 31 ls []) := by
          intro k9
          induction k9 with
          | zero => intro j _ h9; exact absurd h9 (Nat.not_lt_zero _)
          | succ k9 ih31 =>
            intro j hi hk9 H locs ls  hP hD hS hl
            refine lv_iload_n hx hb dX4_digest_31 rfl (lv_at hl 1 rfl) ?_
            refine lv_iconst (v := 3) hx hb dX4_digest_32 (by decide) ?_
            refine lv_icmp_ge (tgt := 53) hx hb dX4_digest_33 (by decide) (fun c33_3 => ?_) (fun c33_3 => ?_)
            · have h36 : 3 ≤ j := (nI_geL (n := 3) rfl (by decide) (by omega)).mp c33_3
              obtain rfl : j = 3 := by omega
              refine lv_aload_n hx hb dX4_digest_53 rfl (lv_at hl 2 rfl) ?_
              refine lv_lload_n hx hb dX4_digest_54 rfl (lv_at hl 0 rfl) ?_
              refine nVl (As := [.long (hsI N (hsI (cntA N a) 3167 9) 3)]) (rest := _) hx hb hml hown hts hP hK hD hZ hA hS ⟨Nat.zero_le _, Nat.zero_le _⟩ hN.1 rfl (c_withCells l E ad st N Rs a x C n ha hxx hn hO hWW (hsI N (hsI (cntA N a) 3167 9) 3)) (cwV 1 hts gX4_digest_X4_withCells rfl rfl rfl (by decide +kernel) ⟨Nat.le_of_ble_eq_true rfl, Nat.le_of_ble_eq_true rfl⟩) hl.1 rfl (Nat.le_of_ble_eq_true rfl) dX4_digest_55 (fun r_5 s_6 H locs hq hP hD hS => ?_)
              obtain ⟨hrr_5, rfl⟩ := hq
              refine lv_lstore_n (lv' := [(1, .long r_5), (3, .int (nI 3)), (0, .ref (ad 0))]) hx hb dX4_digest_58 rfl hl (by decide) rfl (fun ls hl => ?_)
              refine lv_aload_n hx hb dX4_digest_59 rfl (lv_at hl 2 rfl) ?_
              refine lv_lload_n hx hb dX4_digest_60 rfl (lv_at hl 0 rfl) ?_
              refine nVl (As := [.long r_5]) (rest := _) hx hb hml hown hts hP hK hD hZ hA hS ⟨Nat.zero_le _, Nat.zero_le _⟩ hN.1 rfl (c_withBars l E ad st N Rs a x C n ha hxx hn hO hWW r_5) (cwV 1 hts gX4_digest_X4_withBars rfl rfl rfl (by decide +kernel) ⟨Nat.le_of_ble_eq_true rfl, Nat.le_of_ble_eq_true rfl⟩) hl.1 rfl (Nat.le_of_ble_eq_true rfl) dX4_digest_61 (fun r_7 s_8 H locs hq hP hD hS => ?_)
              obtain ⟨hrr_7, rfl⟩ := hq
              refine lv_lstore_n (lv' := [(1, .long r_7), (3, .int (nI 3)), (0, .ref (ad 0))]) hx hb dX4_digest_64 rfl hl (by decide) rfl (fun ls hl => ?_)
              have hh0 : r_7 = hsB N (hsC N (hsI N (hsI (cntA N a) 3167 9) 3) 36) (barC N) := by rw [hrr_7, hrr_5]
              refine lv_iconst (v := 0) hx hb dX4_digest_65 (by decide) ?_
              refine lv_istore_n (lv' := [(3, .int 0), (1, .long r_7), (0, .ref (ad 0))]) hx hb dX4_digest_66 rfl hl (by decide) rfl (fun ls hl => ?_)
              have LP_9 : ∀ (k9 k : Nat), k ≤ 8 → 8 - k < k9 → ∀ (H : Heap) (locs : List Loc) (ls : Array Slot), nP E ad st H → nD A ad st → va_S A s.heap H locs → lv_has ls 4 [(1, .long (hsI (pntA N) r_7 k)), (3, .int (nI k)), (0, .ref (ad 0))] → W pg l en (nRm 6 136) s mi ar bw mth cd H locs 0 0 Q (F0 mi 67 ls []) := by
                intro k9
                induction k9 with
                | zero => intro k _ h9; exact absurd h9 (Nat.not_lt_zero _)
                | succ k9 ih67 =>
                  intro k hi hk9 H locs ls  hP hD hS hl
                  refine lv_iload_n hx hb dX4_digest_67 rfl (lv_at hl 1 rfl) ?_
                  refine lv_bipush (v := 8) hx hb dX4_digest_68 (by decide) ?_
                  refine lv_icmp_ge (tgt := 90) hx hb dX4_digest_70 (by decide) (fun c70_9 => ?_) (fun c70_9 => ?_)
                  · have h36 : 8 ≤ k := (nI_geL (n := 8) rfl (by decide) (by omega)).mp c70_9
                    obtain rfl : k = 8 := by omega
                    have hf : frX 0 208 st st := frX.rf
                    refine lv_lload_n hx hb dX4_digest_90 rfl (lv_at hl 0 rfl) ?_
                    refine lv_aload_n hx hb dX4_digest_91 rfl (lv_at hl 2 rfl) ?_
                    refine nVi (As := []) (rest := _) hx hb hml hown hts hP hK hD hZ hA hS ⟨Nat.zero_le _, Nat.zero_le _⟩ hN.1 rfl (c_restsIn l E ad st N Rs a x C n ha hxx hn hO hWW ) (cwV 0 hts gX4_digest_X4_restsIn rfl rfl rfl (by decide +kernel) ⟨Nat.le_of_ble_eq_true rfl, Nat.le_of_ble_eq_true rfl⟩) hl.1 rfl (Nat.le_of_ble_eq_true rfl) dX4_digest_92 (fun r_11 s_12 H locs hq hP hD hS => ?_)
                    obtain ⟨hrr_11, hWW, hf2⟩ := hq
                    have hN := hWW.1
                    have hf : frX 0 208 st s_12 := fun k9 h9 => (hf2 k9 h9).trans (hf k9 h9)
                    refine lv_i2l (v := r_11.toInt64) hx hb dX4_digest_95 rfl ?_
                    refine nS_l (As := [.long (hsI (pntA N) r_7 8), .long r_11.toInt64]) (rest := _) hx hb hml hown hts hP hK hD hZ hA hS ⟨Nat.zero_le _, Nat.zero_le _⟩ (c_mixed l E ad s_12 (hsI (pntA N) r_7 8) r_11.toInt64) (va_cwS 2 hts gX4_digest_X4_mixed rfl rfl rfl (by decide +kernel) ⟨Nat.le_of_ble_eq_true rfl, Nat.le_of_ble_eq_true rfl⟩) hl.1 rfl (Nat.le_of_ble_eq_true rfl) dX4_digest_96 (fun r_13 s_14 H locs hq hP hD hS => ?_)
                    obtain ⟨hrr_13, rfl⟩ := hq
                    refine lv_lstore_n (lv' := [(1, .long r_13), (3, .int (nI 8)), (0, .ref (ad 0))]) hx hb dX4_digest_99 rfl hl (by decide) rfl (fun ls hl => ?_)
                    refine lv_lload_n hx hb dX4_digest_100 rfl (lv_at hl 0 rfl) ?_
                    refine lv_aload_n hx hb dX4_digest_101 rfl (lv_at hl 2 rfl) ?_
                    refine lv_iconst (v := 0) hx hb dX4_digest_102 (by decide) ?_
                    refine lv_bipush (v := 9) hx hb dX4_digest_103 (by decide) ?_
                    refine nVi (As := [.int 0, .int 9]) (rest := _) hx hb hml hown hts hP hK hD hZ hA hS ⟨Nat.zero_le _, Nat.zero_le _⟩ hN.1 rfl (c_points l E ad s_12 N Rs a x C n ha hxx hn hO hWW 0 9 (by omega) (by omega)) (cwV 2 hts gX4_digest_X4_points rfl rfl rfl (by decide +kernel) ⟨Nat.le_of_ble_eq_true rfl, Nat.le_of_ble_eq_true rfl⟩) hl.1 rfl (Nat.le_of_ble_eq_true rfl) dX4_digest_105 (fun r_15 s_16 H locs hq hP hD hS => ?_)
                    obtain ⟨hrr_15, hWW, hf2⟩ := hq
                    have hN := hWW.1
                    have hf : frX 0 208 st s_16 := fun k9 h9 => (hf2 k9 h9).trans (hf k9 h9)
                    refine lv_i2l (v := r_15.toInt64) hx hb dX4_digest_108 rfl ?_
                    refine nS_l (As := [.long r_13, .long r_15.toInt64]) (rest := _) hx hb hml hown hts hP hK hD hZ hA hS ⟨Nat.zero_le _, Nat.zero_le _⟩ (c_mixed l E ad s_16 r_13 r_15.toInt64) (va_cwS 2 hts gX4_digest_X4_mixed rfl rfl rfl (by decide +kernel) ⟨Nat.le_of_ble_eq_true rfl, Nat.le_of_ble_eq_true rfl⟩) hl.1 rfl (Nat.le_of_ble_eq_true rfl) dX4_digest_109 (fun r_17 s_18 H locs hq hP hD hS => ?_)
                    obtain ⟨hrr_17, rfl⟩ := hq
                    refine lv_lstore_n (lv' := [(1, .long r_17), (3, .int (nI 8)), (0, .ref (ad 0))]) hx hb dX4_digest_112 rfl hl (by decide) rfl (fun ls hl => ?_)
                    refine lv_lload_n hx hb dX4_digest_113 rfl (lv_at hl 0 rfl) ?_
                    refine lv_aload_n hx hb dX4_digest_114 rfl (lv_at hl 2 rfl) ?_
                    refine lv_bipush (v := 14) hx hb dX4_digest_115 (by decide) ?_
                    refine lv_bipush (v := 9) hx hb dX4_digest_117 (by decide) ?_
                    refine nVi (As := [.int 14, .int 9]) (rest := _) hx hb hml hown hts hP hK hD hZ hA hS ⟨Nat.zero_le _, Nat.zero_le _⟩ hN.1 rfl (c_points l E ad s_16 N Rs a x C n ha hxx hn hO hWW 14 9 (by omega) (by omega)) (cwV 2 hts gX4_digest_X4_points rfl rfl rfl (by decide +kernel) ⟨Nat.le_of_ble_eq_true rfl, Nat.le_of_ble_eq_true rfl⟩) hl.1 rfl (Nat.le_of_ble_eq_true rfl) dX4_digest_119 (fun r_19 s_20 H locs hq hP hD hS => ?_)
                    obtain ⟨hrr_19, hWW, hf2⟩ := hq
                    have hN := hWW.1
                    have hf : frX 0 208 st s_20 := fun k9 h9 => (hf2 k9 h9).trans (hf k9 h9)
                    refine lv_i2l (v := r_19.toInt64) hx hb dX4_digest_122 rfl ?_
                    refine nS_l (As := [.long r_17, .long r_19.toInt64]) (rest := _) hx hb hml hown hts hP hK hD hZ hA hS ⟨Nat.zero_le _, Nat.zero_le _⟩ (c_mixed l E ad s_20 r_17 r_19.toInt64) (va_cwS 2 hts gX4_digest_X4_mixed rfl rfl rfl (by decide +kernel) ⟨Nat.le_of_ble_eq_true rfl, Nat.le_of_ble_eq_true rfl⟩) hl.1 rfl (Nat.le_of_ble_eq_true rfl) dX4_digest_123 (fun r_21 s_22 H locs hq hP hD hS => ?_)
                    obtain ⟨hrr_21, rfl⟩ := hq
                    refine lv_lstore_n (lv' := [(1, .long r_21), (3, .int (nI 8)), (0, .ref (ad 0))]) hx hb dX4_digest_126 rfl hl (by decide) rfl (fun ls hl => ?_)
                    refine lv_lload_n hx hb dX4_digest_127 rfl (lv_at hl 0 rfl) ?_
                    refine lv_aload_n hx hb dX4_digest_128 rfl (lv_at hl 2 rfl) ?_
                    refine lv_bipush (v := 35) hx hb dX4_digest_129 (by decide) ?_
                    refine lv_bipush (v := 9) hx hb dX4_digest_131 (by decide) ?_
                    refine nVi (As := [.int 35, .int 9]) (rest := _) hx hb hml hown hts hP hK hD hZ hA hS ⟨Nat.zero_le _, Nat.zero_le _⟩ hN.1 rfl (c_points l E ad s_20 N Rs a x C n ha hxx hn hO hWW 35 9 (by omega) (by omega)) (cwV 2 hts gX4_digest_X4_points rfl rfl rfl (by decide +kernel) ⟨Nat.le_of_ble_eq_true rfl, Nat.le_of_ble_eq_true rfl⟩) hl.1 rfl (Nat.le_of_ble_eq_true rfl) dX4_digest_133 (fun r_23 s_24 H locs hq hP hD hS => ?_)
                    obtain ⟨hrr_23, hWW, hf2⟩ := hq
                    have hN := hWW.1
                    have hf : frX 0 208 st s_24 := fun k9 h9 => (hf2 k9 h9).trans (hf k9 h9)
                    refine lv_i2l (v := r_23.toInt64) hx hb dX4_digest_136 rfl ?_
                    refine nS_l (As := [.long r_21, .long r_23.toInt64]) (rest := _) hx hb hml hown hts hP hK hD hZ hA hS ⟨Nat.zero_le _, Nat.zero_le _⟩ (c_mixed l E ad s_24 r_21 r_23.toInt64) (va_cwS 2 hts gX4_digest_X4_mixed rfl rfl rfl (by decide +kernel) ⟨Nat.le_of_ble_eq_true rfl, Nat.le_of_ble_eq_true rfl⟩) hl.1 rfl (Nat.le_of_ble_eq_true rfl) dX4_digest_137 (fun r_25 s_26 H locs hq hP hD hS => ?_)
                    obtain ⟨hrr_25, rfl⟩ := hq
                    refine lv_lstore_n (lv' := [(1, .long r_25), (3, .int (nI 8)), (0, .ref (ad 0))]) hx hb dX4_digest_140 rfl hl (by decide) rfl (fun ls hl => ?_)
                    refine lv_lload_n hx hb dX4_digest_141 rfl (lv_at hl 0 rfl) ?_
                    refine lv_aload_n hx hb dX4_digest_142 rfl (lv_at hl 2 rfl) ?_
                    refine lv_bipush (v := 14) hx hb dX4_digest_143 (by decide) ?_
                    refine lv_iconst (v := 2) hx hb dX4_digest_145 (by decide) ?_
                    refine lv_bipush (v := 20) hx hb dX4_digest_146 (by decide) ?_
                    refine nVi (As := [.int 14, .int 2, .int 20]) (rest := _) hx hb hml hown hts hP hK hD hZ hA hS ⟨Nat.zero_le _, Nat.zero_le _⟩ hN.1 rfl (c_ifBar l E ad s_24 N Rs a x C n ha hxx hn hO hWW 14 2 20 (by omega) (by omega) (by decide) (by decide)) (cwV 3 hts gX4_digest_X4_ifBar rfl rfl rfl (by decide +kernel) ⟨Nat.le_of_ble_eq_true rfl, Nat.le_of_ble_eq_true rfl⟩) hl.1 rfl (Nat.le_of_ble_eq_true rfl) dX4_digest_148 (fun r_27 s_29 H locs hq hP hD hS => ?_)
                    obtain ⟨hrr_27, rfl⟩ := hq
                    refine lv_i2l (v := r_27.toInt64) hx hb dX4_digest_151 rfl ?_
                    refine nS_l (As := [.long r_25, .long r_27.toInt64]) (rest := _) hx hb hml hown hts hP hK hD hZ hA hS ⟨Nat.zero_le _, Nat.zero_le _⟩ (c_mixed l E ad s_24 r_25 r_27.toInt64) (va_cwS 2 hts gX4_digest_X4_mixed rfl rfl rfl (by decide +kernel) ⟨Nat.le_of_ble_eq_true rfl, Nat.le_of_ble_eq_true rfl⟩) hl.1 rfl (Nat.le_of_ble_eq_true rfl) dX4_digest_152 (fun r_30 s_31 H locs hq hP hD hS => ?_)
                    obtain ⟨hrr_30, rfl⟩ := hq
                    refine lv_lstore_n (lv' := [(1, .long r_30), (3, .int (nI 8)), (0, .ref (ad 0))]) hx hb dX4_digest_155 rfl hl (by decide) rfl (fun ls hl => ?_)
                    refine lv_lload_n hx hb dX4_digest_156 rfl (lv_at hl 0 rfl) ?_
                    refine lv_aload_n hx hb dX4_digest_157 rfl (lv_at hl 2 rfl) ?_
                    refine lv_bipush (v := 20) hx hb dX4_digest_158 (by decide) ?_
                    refine lv_iconst (v := 0) hx hb dX4_digest_160 (by decide) ?_
                    refine lv_bipush (v := 30) hx hb dX4_digest_161 (by decide) ?_
                    refine nVi (As := [.int 20, .int 0, .int 30]) (rest := _) hx hb hml hown hts hP hK hD hZ hA hS ⟨Nat.zero_le _, Nat.zero_le _⟩ hN.1 rfl (c_bestBar l E ad s_24 N Rs a x C n ha hxx hn hO hWW 20 0 30 (by omega) (by omega) (by decide) (by decide)) (cwV 3 hts gX4_digest_X4_bestBar rfl rfl rfl (by decide +kernel) ⟨Nat.le_of_ble_eq_true rfl, Nat.le_of_ble_eq_true rfl⟩) hl.1 rfl (Nat.le_of_ble_eq_true rfl) dX4_digest_163 (fun r_32 s_34 H locs hq hP hD hS => ?_)
                    obtain ⟨hrr_32, rfl⟩ := hq
                    refine lv_i2l (v := r_32.toInt64) hx hb dX4_digest_166 rfl ?_
                    refine nS_l (As := [.long r_30, .long r_32.toInt64]) (rest := _) hx hb hml hown hts hP hK hD hZ hA hS ⟨Nat.zero_le _, Nat.zero_le _⟩ (c_mixed l E ad s_24 r_30 r_32.toInt64) (va_cwS 2 hts gX4_digest_X4_mixed rfl rfl rfl (by decide +kernel) ⟨Nat.le_of_ble_eq_true rfl, Nat.le_of_ble_eq_true rfl⟩) hl.1 rfl (Nat.le_of_ble_eq_true rfl) dX4_digest_167 (fun r_35 s_36 H locs hq hP hD hS => ?_)
                    obtain ⟨hrr_35, rfl⟩ := hq
                    refine lv_lstore_n (lv' := [(1, .long r_35), (3, .int (nI 8)), (0, .ref (ad 0))]) hx hb dX4_digest_170 rfl hl (by decide) rfl (fun ls hl => ?_)
                    refine lv_lload_n hx hb dX4_digest_171 rfl (lv_at hl 0 rfl) ?_
                    refine lv_aload_n hx hb dX4_digest_172 rfl (lv_at hl 2 rfl) ?_
                    refine lv_bipush (v := 7) hx hb dX4_digest_173 (by decide) ?_
                    refine nVi (As := [.int 7]) (rest := _) hx hb hml hown hts hP hK hD hZ hA hS ⟨Nat.zero_le _, Nat.zero_le _⟩ hN.1 rfl (c_leastTurns l E ad s_24 N Rs a x C n ha hxx hn hO hWW 7 (by omega)) (cwV 1 hts gX4_digest_X4_leastTurns rfl rfl rfl (by decide +kernel) ⟨Nat.le_of_ble_eq_true rfl, Nat.le_of_ble_eq_true rfl⟩) hl.1 rfl (Nat.le_of_ble_eq_true rfl) dX4_digest_175 (fun r_37 s_39 H locs hq hP hD hS => ?_)
                    obtain ⟨hrr_37, rfl⟩ := hq
                    refine lv_i2l (v := r_37.toInt64) hx hb dX4_digest_178 rfl ?_
                    refine nS_l (As := [.long r_35, .long r_37.toInt64]) (rest := _) hx hb hml hown hts hP hK hD hZ hA hS ⟨Nat.zero_le _, Nat.zero_le _⟩ (c_mixed l E ad s_24 r_35 r_37.toInt64) (va_cwS 2 hts gX4_digest_X4_mixed rfl rfl rfl (by decide +kernel) ⟨Nat.le_of_ble_eq_true rfl, Nat.le_of_ble_eq_true rfl⟩) hl.1 rfl (Nat.le_of_ble_eq_true rfl) dX4_digest_179 (fun r_40 s_41 H locs hq hP hD hS => ?_)
                    obtain ⟨hrr_40, rfl⟩ := hq
                    refine lv_lstore_n (lv' := [(1, .long r_40), (3, .int (nI 8)), (0, .ref (ad 0))]) hx hb dX4_digest_182 rfl hl (by decide) rfl (fun ls hl => ?_)
                    refine lv_lload_n hx hb dX4_digest_183 rfl (lv_at hl 0 rfl) ?_
                    refine lv_aload_n hx hb dX4_digest_184 rfl (lv_at hl 2 rfl) ?_
                    refine nVd (As := []) (rest := _) hx hb hml hown hts hP hK hD hZ hA hS ⟨Nat.zero_le _, Nat.zero_le _⟩ hN.1 rfl (c_obedience l E ad s_24 N Rs a x C n ha hxx hn hO hWW ) (cwV 0 hts gX4_digest_X4_obedience rfl rfl rfl (by decide +kernel) ⟨Nat.le_of_ble_eq_true rfl, Nat.le_of_ble_eq_true rfl⟩) hl.1 rfl (Nat.le_of_ble_eq_true rfl) dX4_digest_185 (fun r_42 s_44 H locs hq hP hD hS => ?_)
                    obtain ⟨hrr_42, rfl⟩ := hq
                    refine nS_l (As := [.double r_42]) (rest := _) hx hb hml hown hts hP hK hD hZ hA hS ⟨Nat.zero_le _, Nat.zero_le _⟩ (c_bitsOf l E ad s_24 r_42 v (by rw [hrr_42]; exact hbv)) (va_cwS 1 hts gX4_digest_X4_bitsOf rfl rfl rfl (by decide +kernel) ⟨Nat.le_of_ble_eq_true rfl, Nat.le_of_ble_eq_true rfl⟩) hl.1 rfl (Nat.le_of_ble_eq_true rfl) dX4_digest_188 (fun r_45 s_46 H locs hq hP hD hS => ?_)
                    obtain ⟨hrr_45, rfl⟩ := hq
                    refine nS_l (As := [.long r_40, .long r_45]) (rest := _) hx hb hml hown hts hP hK hD hZ hA hS ⟨Nat.zero_le _, Nat.zero_le _⟩ (c_mixed l E ad s_24 r_40 r_45) (va_cwS 2 hts gX4_digest_X4_mixed rfl rfl rfl (by decide +kernel) ⟨Nat.le_of_ble_eq_true rfl, Nat.le_of_ble_eq_true rfl⟩) hl.1 rfl (Nat.le_of_ble_eq_true rfl) dX4_digest_191 (fun r_47 s_48 H locs hq hP hD hS => ?_)
                    obtain ⟨hrr_47, rfl⟩ := hq
                    refine lv_lstore_n (lv' := [(1, .long r_47), (3, .int (nI 8)), (0, .ref (ad 0))]) hx hb dX4_digest_194 rfl hl (by decide) rfl (fun ls hl => ?_)
                    refine lv_aload_n hx hb dX4_digest_195 rfl (lv_at hl 2 rfl) ?_
                    refine lv_lload_n hx hb dX4_digest_196 rfl (lv_at hl 0 rfl) ?_
                    refine nVl (As := [.long r_47]) (rest := _) hx hb hml hown hts hP hK hD hZ hA hS ⟨Nat.zero_le _, Nat.zero_le _⟩ hN.1 rfl (c_withBuffer l E ad s_24 N Rs a x C n ha hxx hn hO hWW r_47) (cwV 1 hts gX4_digest_X4_withBuffer rfl rfl rfl (by decide +kernel) ⟨Nat.le_of_ble_eq_true rfl, Nat.le_of_ble_eq_true rfl⟩) hl.1 rfl (Nat.le_of_ble_eq_true rfl) dX4_digest_197 (fun r_49 s_50 H locs hq hP hD hS => ?_)
                    obtain ⟨hrr_49, rfl⟩ := hq
                    exact hret _ _ _ _ _ _ hP hD hS (⟨by rw [hrr_49, hrr_47, hrr_45, hrr_40, hrr_37, hrr_35, hrr_32, hrr_30, hrr_27, hrr_25, hrr_23, hrr_21, hrr_19, hrr_17, hrr_15, hrr_13, hrr_11, hh0]; rfl, hWW, hf⟩) dX4_digest_200
                  · have hlt : k < 8 := by have := mt (nI_geL (n := 8) (i := k) rfl (by decide) (by omega)).mpr c70_9; omega
                    refine lv_lload_n hx hb dX4_digest_73 rfl (lv_at hl 0 rfl) ?_
                    refine lv_aload_n hx hb dX4_digest_74 rfl (lv_at hl 2 rfl) ?_
                    refine lv_iload_n hx hb dX4_digest_75 rfl (lv_at hl 1 rfl) ?_
                    refine nVi (As := [.int (nI k)]) (rest := _) hx hb hml hown hts hP hK hD hZ hA hS ⟨Nat.zero_le _, Nat.zero_le _⟩ hN.1 rfl (c_pointing l E ad st N Rs a x C n ha hxx hn hO hWW k (by omega)) (cwV 1 hts gX4_digest_X4_pointing rfl rfl rfl (by decide +kernel) ⟨Nat.le_of_ble_eq_true rfl, Nat.le_of_ble_eq_true rfl⟩) hl.1 rfl (Nat.le_of_ble_eq_true rfl) dX4_digest_76 (fun r_51 s_53 H locs hq hP hD hS => ?_)
                    obtain ⟨hrr_51, rfl⟩ := hq
                    refine lv_i2l (v := r_51.toInt64) hx hb dX4_digest_79 rfl ?_
                    refine nS_l (As := [.long (hsI (pntA N) r_7 k), .long r_51.toInt64]) (rest := _) hx hb hml hown hts hP hK hD hZ hA hS ⟨Nat.zero_le _, Nat.zero_le _⟩ (c_mixed l E ad st (hsI (pntA N) r_7 k) r_51.toInt64) (va_cwS 2 hts gX4_digest_X4_mixed rfl rfl rfl (by decide +kernel) ⟨Nat.le_of_ble_eq_true rfl, Nat.le_of_ble_eq_true rfl⟩) hl.1 rfl (Nat.le_of_ble_eq_true rfl) dX4_digest_80 (fun r_54 s_55 H locs hq hP hD hS => ?_)
                    obtain ⟨hrr_54, rfl⟩ := hq
                    refine lv_lstore_n (lv' := [(1, .long r_54), (3, .int (nI k)), (0, .ref (ad 0))]) hx hb dX4_digest_83 rfl hl (by decide) rfl (fun ls hl => ?_)
                    refine lv_iinc (v := nI (k + 1)) (lv' := [(3, .int (nI (k + 1))), (1, .long r_54), (0, .ref (ad 0))]) hx hb dX4_digest_84 hl (k := 1) rfl (nI_1 _) (by decide) rfl (fun ls hl => ?_)
                    refine lv_goto (tgt := 67) hx hb dX4_digest_87 (by decide) ?_
                    exact ih67 (k + 1) (by omega) (by omega) _ _ _  hP hD hS (by rw [show hsI (pntA N) r_7 (k + 1) = r_54 from by rw [hrr_54, hrr_51]; rfl]; exact lv_sub hl [1, 0, 2] rfl)
              exact LP_9 (8 + 1) 0 (Nat.zero_le _) (by omega) _ _ _  hP hD hS (lv_sub hl [1, 0, 2] rfl)
            · have hlt : j < 3 := by have := mt (nI_geL (n := 3) (i := j) rfl (by decide) (by omega)).mpr c33_3; omega
              refine lv_lload_n hx hb dX4_digest_36 rfl (lv_at hl 0 rfl) ?_
              refine lv_aload_n hx hb dX4_digest_37 rfl (lv_at hl 2 rfl) ?_
              refine lv_iload_n hx hb dX4_digest_38 rfl (lv_at hl 1 rfl) ?_
              refine nVi (As := [.int (nI j)]) (rest := _) hx hb hml hown hts hP hK hD hZ hA hS ⟨Nat.zero_le _, Nat.zero_le _⟩ hN.1 rfl (c_setting l E ad st N Rs a x C n ha hxx hn hO hWW j (by omega)) (cwV 1 hts gX4_digest_X4_setting rfl rfl rfl (by decide +kernel) ⟨Nat.le_of_ble_eq_true rfl, Nat.le_of_ble_eq_true rfl⟩) hl.1 rfl (Nat.le_of_ble_eq_true rfl) dX4_digest_39 (fun r_57 s_59 H locs hq hP hD hS => ?_)
              obtain ⟨hrr_57, rfl⟩ := hq
              refine lv_i2l (v := r_57.toInt64) hx hb dX4_digest_42 rfl ?_
              refine nS_l (As := [.long (hsI N (hsI (cntA N a) 3167 9) j), .long r_57.toInt64]) (rest := _) hx hb hml hown hts hP hK hD hZ hA hS ⟨Nat.zero_le _, Nat.zero_le _⟩ (c_mixed l E ad st (hsI N (hsI (cntA N a) 3167 9) j) r_57.toInt64) (va_cwS 2 hts gX4_digest_X4_mixed rfl rfl rfl (by decide +kernel) ⟨Nat.le_of_ble_eq_true rfl, Nat.le_of_ble_eq_true rfl⟩) hl.1 rfl (Nat.le_of_ble_eq_true rfl) dX4_digest_43 (fun r_60 s_61 H locs hq hP hD hS => ?_)
              obtain ⟨hrr_60, rfl⟩ := hq
              refine lv_lstore_n (lv' := [(1, .long r_60), (3, .int (nI j)), (0, .ref (ad 0))]) hx hb dX4_digest_46 rfl hl (by decide) rfl (fun ls hl => ?_)
              refine lv_iinc (v := nI (j + 1)) (lv' := [(3, .int (nI (j + 1))), (1, .long r_60), (0, .ref (ad 0))]) hx hb dX4_digest_47 hl (k := 1) rfl (nI_1 _) (by decide) rfl (fun ls hl => ?_)
              refine lv_goto (tgt := 31) hx hb dX4_digest_50 (by decide) ?_
              exact ih31 (j + 1) (by omega) (by omega) _ _ _  hP hD hS (by rw [show hsI N (hsI (cntA N a) 3167 9) (j + 1) = r_60 from by rw [hrr_60, hrr_57]; rfl]; exact lv_sub hl [1, 0, 2] rfl)
        exact LP_3 (3 + 1) 0 (Nat.zero_le _) (by omega) _ _ _  hP hD hS (lv_sub hl [1, 0, 2] rfl)
      · have hlt : i < 9 := by have := mt (nI_geL (n := 9) (i := i) rfl (by decide) (by omega)).mpr c9_1; omega
        refine lv_lload_n hx hb dX4_digest_12 rfl (lv_at hl 0 rfl) ?_
        refine lv_aload_n hx hb dX4_digest_13 rfl (lv_at hl 2 rfl) ?_
        refine lv_iload_n hx hb dX4_digest_14 rfl (lv_at hl 1 rfl) ?_
        refine nVi (As := [.int (nI i)]) (rest := _) hx hb hml hown hts hP hK hD hZ hA hS ⟨Nat.zero_le _, Nat.zero_le _⟩ hN.1 rfl (c_count l E ad st N Rs a x C n ha hxx hn hO hWW i (by omega)) (cwV 1 hts gX4_digest_X4_count rfl rfl rfl (by decide +kernel) ⟨Nat.le_of_ble_eq_true rfl, Nat.le_of_ble_eq_true rfl⟩) hl.1 rfl (Nat.le_of_ble_eq_true rfl) dX4_digest_15 (fun r_63 s_65 H locs hq hP hD hS => ?_)
        obtain ⟨hrr_63, rfl⟩ := hq
        refine lv_i2l (v := r_63.toInt64) hx hb dX4_digest_18 rfl ?_
        refine nS_l (As := [.long (hsI (cntA N a) 3167 i), .long r_63.toInt64]) (rest := _) hx hb hml hown hts hP hK hD hZ hA hS ⟨Nat.zero_le _, Nat.zero_le _⟩ (c_mixed l E ad st (hsI (cntA N a) 3167 i) r_63.toInt64) (va_cwS 2 hts gX4_digest_X4_mixed rfl rfl rfl (by decide +kernel) ⟨Nat.le_of_ble_eq_true rfl, Nat.le_of_ble_eq_true rfl⟩) hl.1 rfl (Nat.le_of_ble_eq_true rfl) dX4_digest_19 (fun r_66 s_67 H locs hq hP hD hS => ?_)
        obtain ⟨hrr_66, rfl⟩ := hq
        refine lv_lstore_n (lv' := [(1, .long r_66), (3, .int (nI i)), (0, .ref (ad 0))]) hx hb dX4_digest_22 rfl hl (by decide) rfl (fun ls hl => ?_)
        refine lv_iinc (v := nI (i + 1)) (lv' := [(3, .int (nI (i + 1))), (1, .long r_66), (0, .ref (ad 0))]) hx hb dX4_digest_23 hl (k := 1) rfl (nI_1 _) (by decide) rfl (fun ls hl => ?_)
        refine lv_goto (tgt := 6) hx hb dX4_digest_26 (by decide) ?_
        exact ih6 (i + 1) (by omega) (by omega) _ _ _  hP hD hS (by rw [show hsI (cntA N a) 3167 (i + 1) = r_66 from by rw [hrr_66, hrr_63]; rfl]; exact lv_sub hl [1, 0, 2] rfl)
  exact LP_1 (9 + 1) 0 (Nat.zero_le _) (by omega) _ _ _  hP hD hS (lv_sub hl [1, 0, 2] rfl)

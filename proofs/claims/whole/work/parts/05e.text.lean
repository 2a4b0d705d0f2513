set_option maxHeartbeats 4000000 in
set_option maxRecDepth 100000 in
theorem c_rLay (l : Launch) (E : NE) (ad : Nat → Nat) (st : NW) (b b2 : Nat) (hsep : b2 + 16 ≤ b ∨ b + 16 ≤ b2) (G : Nat → Nat → Int32) (R0 : Nat → Int32) (hR : isR E ad st b sG G) (hB : isR E ad st b2 sB (rB R0)) : nMv l yX0_layInto wsX0_layInto (nRm 1 23) E ad st [.ref (ad b2), .ref (ad b)] (fun s1 => isR E ad s1 b sG (layR R0 G) ∧ fr b st s1) := by
  refine nSv (cc := cX0_layInto) (maxL := 3) (by decide) rfl (Nat.le_of_ble_eq_true rfl) ?_
  intro pg en s mi ar bw mth cd R Q A ls hx hb hml hown hts hRm hP hK hD hZ hA hl hret
  subst hRm
  have hown : s.vm.findClass RX0 = some mi.cls := hown
  have hS : va_S A s.heap s.heap [] := va_S.rf
  have hl : lv_has ls 3 [(0, .ref (ad b2)), (1, .ref (ad b))] := hl
  have hf : fr b st st := fr.rf
  have hinX0 : ∀ w ∈ wsX00, w ∈ wsX0_layInto := by decide +kernel
  have hinX2 : ∀ w ∈ wsX20, w ∈ wsX0_layInto := by decide +kernel
  refine lv_aload_n hx hb dX0_layInto_0 rfl (lv_at hl 0 rfl) ?_
  refine rg (v := .int (R0 3)) (T := TX0) (N := 6) (C := RX0) hx hb hts hinX0 hown hK hP hB rfl 3 (by decide) (hts (.fieldLink RX0 25 "NeedleGrid$BarReader" "row" "I") (by decide +kernel)) rfl dX0_layInto_1 ?_
  refine lv_bipush (v := 6) hx hb dX0_layInto_4 (by decide) ?_
  refine lv_imul hx hb dX0_layInto_6 ?_
  refine lv_aload_n hx hb dX0_layInto_7 rfl (lv_at hl 0 rfl) ?_
  refine rg (v := .int (R0 2)) (T := TX0) (N := 6) (C := RX0) hx hb hts hinX0 hown hK hP hB rfl 2 (by decide) (hts (.fieldLink RX0 18 "NeedleGrid$BarReader" "column" "I") (by decide +kernel)) rfl dX0_layInto_8 ?_
  refine lv_iadd hx hb dX0_layInto_11 ?_
  refine lv_topi (fun x2_12 ex2_12 => ?_)
  refine lv_istore_n (lv' := [(2, .int x2_12), (0, .ref (ad b2)), (1, .ref (ad b))]) hx hb dX0_layInto_12 rfl hl (by decide) rfl (fun ls hl => ?_)
  refine lv_iload_n hx hb dX0_layInto_13 rfl (lv_at hl 0 rfl) ?_
  refine lv_if_lt (tgt := 36) hx hb dX0_layInto_14 (by decide) (fun c14_0 => ?_) (fun c14_0 => ?_)
  · exact hret _ _ _ _ _ hP hD hS (⟨(by delta layR; rw [← ex2_12, if_pos c14_0]; exact hR), hf⟩) dX0_layInto_36
  · refine lv_iload_n hx hb dX0_layInto_17 rfl (lv_at hl 0 rfl) ?_
    refine lv_bipush (v := 36) hx hb dX0_layInto_18 (by decide) ?_
    refine lv_icmp_ge (tgt := 36) hx hb dX0_layInto_20 (by decide) (fun c20_1 => ?_) (fun c20_1 => ?_)
    · exact hret _ _ _ _ _ hP hD hS (⟨(by delta layR; rw [← ex2_12, if_neg c14_0, if_pos c20_1]; exact hR), hf⟩) dX0_layInto_36
    · obtain ⟨j, hj, hxj⟩ : ∃ j : Nat, j < 36 ∧ x2_12 = nI j := by rcases pk_ix x2_12 (n := 36) (by decide) with q | q | q; exact absurd q c14_0; exact absurd q c20_1; exact q
      subst hxj
      refine lv_aload_n hx hb dX0_layInto_23 rfl (lv_at hl 2 rfl) ?_
      refine lv_iload_n hx hb dX0_layInto_24 rfl (lv_at hl 0 rfl) ?_
      refine lv_aload_n hx hb dX0_layInto_25 rfl (lv_at hl 1 rfl) ?_
      refine rg (v := .int (R0 4)) (T := TX0) (N := 6) (C := RX0) hx hb hts hinX0 hown hK hP hB rfl 4 (by decide) (hts (.fieldLink RX0 28 "NeedleGrid$BarReader" "direction" "I") (by decide +kernel)) rfl dX0_layInto_26 ?_
      refine lv_aload_n hx hb dX0_layInto_29 rfl (lv_at hl 1 rfl) ?_
      refine rg (v := .int (R0 5)) (T := TX0) (N := 6) (C := RX0) hx hb hts hinX0 hown hK hP hB rfl 5 (by decide) (hts (.fieldLink RX0 31 "NeedleGrid$BarReader" "strength" "I") (by decide +kernel)) rfl dX0_layInto_30 ?_
      refine nVv (As := [.int (nI j), .int (R0 4), .int (R0 5)]) (rest := _) hx hb hml hown hts hP hK hD hZ hA hS ⟨Nat.zero_le _, Nat.zero_le _⟩ hR.1 rfl (c_layBar l E ad st b G hR j (by omega) (R0 4) (R0 5)) (cwV 3 hts gX0_layInto_X2_layBar rfl rfl rfl (by decide +kernel) ⟨Nat.le_of_ble_eq_true rfl, Nat.le_of_ble_eq_true rfl⟩) hl.1 rfl (Nat.le_of_ble_eq_true rfl) dX0_layInto_33 (fun s_5 H locs hq hP hD hS => ?_)
      obtain ⟨hR, hf_4⟩ := hq
      have hB := hB.keep hf_4 hsep (by decide)
      have hf := hf.tr hf_4
      exact hret _ _ _ _ _ hP hD hS (⟨(by delta layR; rw [← ex2_12, if_neg c14_0, if_neg c20_1, nI_clamp (by omega)]; exact hR), hf⟩) dX0_layInto_36

set_option maxHeartbeats 4000000 in
set_option maxRecDepth 100000 in
theorem c_add (l : Launch) (E : NE) (ad : Nat → Nat) (st : NW) (C : Nat → Int32) (n : Nat) (hn : n < 60) (hT : isR E ad st 32 sT (tx C n)) (x : Int32) : nMv l yX1_add wsX1_add (nRm 0 0) E ad st [.ref (ad 32), .int x] (fun s1 => isR E ad s1 32 sT (tx (upd C n x) (n + 1)) ∧ fr 32 st s1) := by
  refine nSv (cc := cX1_add) (maxL := 2) (by decide) rfl (Nat.le_of_ble_eq_true rfl) ?_
  intro pg en s mi ar bw mth cd R Q A ls hx hb hml hown hts hRm hP hK hD hZ hA hl hret
  subst hRm
  have hown : s.vm.findClass RX1 = some mi.cls := hown
  have hS : va_S A s.heap s.heap [] := va_S.rf
  have hl : lv_has ls 2 [(0, .ref (ad 32)), (1, .int x)] := hl
  have hf : fr 32 st st := fr.rf
  have hinX1 : ∀ w ∈ wsX10, w ∈ wsX1_add := by decide +kernel
  refine lv_aload_n hx hb dX1_add_0 rfl (lv_at hl 0 rfl) ?_
  refine rg (v := .int (nI n)) (T := TX1) (N := 3) (C := RX1) hx hb hts hinX1 hown hK hP hT rfl 1 (by decide) (hts (.fieldLink RX1 22 "NeedleGrid$BarText" "length" "I") (by decide +kernel)) rfl dX1_add_1 ?_
  refine lv_bipush (v := 60) hx hb dX1_add_4 (by decide) ?_
  refine lv_icmp_ge (tgt := 29) hx hb dX1_add_6 (by decide) (fun c6_0 => absurd ((nI_geL (n := 60) rfl (by decide) (by omega)).mp c6_0) (by omega)) (fun c6_0 => ?_)
  refine lv_aload_n hx hb dX1_add_9 rfl (lv_at hl 0 rfl) ?_
  refine rg (v := .ref (ad (32 + 1 + 0))) (T := TX1) (N := 3) (C := RX1) hx hb hts hinX1 hown hK hP hT rfl 0 (by decide) (hts (.fieldLink RX1 9 "NeedleGrid$BarText" "codes" "[I") (by decide +kernel)) rfl dX1_add_10 ?_
  refine lv_aload_n hx hb dX1_add_13 rfl (lv_at hl 0 rfl) ?_
  refine rg (v := .int (nI n)) (T := TX1) (N := 3) (C := RX1) hx hb hts hinX1 hown hK hP hT rfl 1 (by decide) (hts (.fieldLink RX1 22 "NeedleGrid$BarText" "length" "I") (by decide +kernel)) rfl dX1_add_14 ?_
  refine lv_iload_n hx hb dX1_add_17 rfl (lv_at hl 1 rfl) ?_
  refine rs (j := n) (n := 60) (x := x) hx hb hK hP hD hS hT 0 rfl (by decide) (by omega) (by decide) dX1_add_18 (fun s_2 H locs hT hf_3 hP hD hS => ?_)
  have hf := hf.tr hf_3
  refine lv_aload_n hx hb dX1_add_19 rfl (lv_at hl 0 rfl) ?_
  refine lv_dup hx hb dX1_add_20 rfl ?_
  refine rg (v := .int (nI n)) (T := TX1) (N := 3) (C := RX1) hx hb hts hinX1 hown hK hP hT rfl 1 (by decide) (hts (.fieldLink RX1 22 "NeedleGrid$BarText" "length" "I") (by decide +kernel)) rfl dX1_add_21 ?_
  refine lv_iconst (v := 1) hx hb dX1_add_24 (by decide) ?_
  refine lv_iadd hx hb dX1_add_25 ?_
  rw [nI_1]
  refine rp (v := nI (n + 1)) (ty := .int) (T := TX1) (N := 3) (C := RX1) hx hb hts hinX1 tyX1 tyX1_ok nmX1 hown hK hP hD hS hT rfl 1 (by decide) (hts (.fieldLink RX1 22 "NeedleGrid$BarText" "length" "I") (by decide +kernel)) rfl rfl (by decide +kernel) rfl rfl dX1_add_26 (fun s_4 H locs hT hf_5 hP hD hS => ?_)
  have hf := hf.tr hf_5
  exact hret _ _ _ _ _ hP hD hS (⟨hT.eq (all3 rfl rfl rfl), hf⟩) dX1_add_29

set_option maxHeartbeats 4000000 in
set_option maxRecDepth 100000 in
theorem c_goodLength (l : Launch) (E : NE) (ad : Nat → Nat) (st : NW) (C : Nat → Int32) (n : Nat) (hn : n ≤ 60) (R0 : Nat → Int32) (hT : isR E ad st 32 sT (tx C n)) (hB : isR E ad st 48 sB (rB R0)) : nMi l yX1_goodLength wsX1_goodLength (nRm 3 66) E ad st [.ref (ad 32)] (fun r s1 => r = nI (goodS (begR R0) C n n 0) ∧ isR E ad s1 48 sB (rB (rdS (begR R0) C (if goodS (begR R0) C n n 0 = n then n else goodS (begR R0) C n n 0 + 1))) ∧ fr 48 st s1) := by
  refine nSi (cc := cX1_goodLength) (maxL := 2) (by decide) rfl (Nat.le_of_ble_eq_true rfl) ?_
  intro pg en s mi ar bw mth cd R Q A ls hx hb hml hown hts hRm hP hK hD hZ hA hl hret
  subst hRm
  have hown : s.vm.findClass RX1 = some mi.cls := hown
  have hS : va_S A s.heap s.heap [] := va_S.rf
  have hl : lv_has ls 2 [(0, .ref (ad 32))] := hl
  have hf : fr 48 st st := fr.rf
  have hinX0 : ∀ w ∈ wsX00, w ∈ wsX1_goodLength := by decide +kernel
  have hinX1 : ∀ w ∈ wsX10, w ∈ wsX1_goodLength := by decide +kernel
  refine lv_aload_n hx hb dX1_goodLength_0 rfl (lv_at hl 0 rfl) ?_
  refine rg (v := .ref (ad 48)) (T := TX1) (N := 3) (C := RX1) hx hb hts hinX1 hown hK hP hT rfl 2 (by decide) (hts (.fieldLink RX1 18 "NeedleGrid$BarText" "reader" "LNeedleGrid$BarReader;") (by decide +kernel)) rfl dX1_goodLength_1 ?_
  refine nVv (As := []) (rest := _) hx hb hml hown hts hP hK hD hZ hA hS ⟨Nat.zero_le _, Nat.zero_le _⟩ hB.1 rfl (c_begin l E ad st 48 R0 hB ) (cwV 0 hts gX1_goodLength_X0_begin rfl rfl rfl (by decide +kernel) ⟨Nat.le_of_ble_eq_true rfl, Nat.le_of_ble_eq_true rfl⟩) hl.1 rfl (Nat.le_of_ble_eq_true rfl) dX1_goodLength_4 (fun s_3 H locs hq hP hD hS => ?_)
  obtain ⟨hB, hf_2⟩ := hq
  have hT := hT.keep hf_2 (by omega) (by decide)
  have hf := hf.tr hf_2
  refine lv_iconst (v := 0) hx hb dX1_goodLength_7 (by decide) ?_
  refine lv_istore_n (lv' := [(1, .int 0), (0, .ref (ad 32))]) hx hb dX1_goodLength_8 rfl hl (by decide) rfl (fun ls hl => ?_)
  have LP_4 : ∀ (k9 i : Nat), i ≤ n → n - i < k9 → ∀ (sL_5 : NW) (H : Heap) (locs : List Loc) (ls : Array Slot), isR E ad sL_5 32 sT ((tx C n)) → isR E ad sL_5 48 sB ((rB (rdS (begR R0) C i))) → fr 48 st sL_5 → goodS (begR R0) C n n 0 = goodS (begR R0) C n (n - i) i → nP E ad sL_5 H → nD A ad sL_5 → va_S A s.heap H locs → lv_has ls 2 [(1, .int (nI i)), (0, .ref (ad 32))] → W pg l en (nRm 3 66) s mi ar bw mth cd H locs 0 0 Q (F0 mi 9 ls []) := by
    intro k9
    induction k9 with
    | zero => intro i _ h9; exact absurd h9 (Nat.not_lt_zero _)
    | succ k9 ih9 =>
      intro i hi hk9 sL_5 H locs ls hT hB hf hg hP hD hS hl
      refine lv_iload_n hx hb dX1_goodLength_9 rfl (lv_at hl 0 rfl) ?_
      refine lv_aload_n hx hb dX1_goodLength_10 rfl (lv_at hl 1 rfl) ?_
      refine rg (v := .int (nI n)) (T := TX1) (N := 3) (C := RX1) hx hb hts hinX1 hown hK hP hT rfl 1 (by decide) (hts (.fieldLink RX1 22 "NeedleGrid$BarText" "length" "I") (by decide +kernel)) rfl dX1_goodLength_11 ?_
      refine lv_icmp_ge (tgt := 45) hx hb dX1_goodLength_14 (by decide) (fun c14_5 => ?_) (fun c14_5 => ?_)
      · have h36 : n ≤ i := (nI_leI (by omega) (by omega)).mp c14_5
        obtain rfl : n = i := by omega
        refine lv_iload_n hx hb dX1_goodLength_45 rfl (lv_at hl 0 rfl) ?_
        exact hret _ _ _ _ _ _ hP hD hS (⟨by rw [hg, goodS_end], (by rw [hg, goodS_end, if_pos rfl]; exact hB), hf⟩) dX1_goodLength_46
      · have hlt : i < n := by have := mt (nI_leI (a := n) (b := i) (by omega) (by omega)).mpr c14_5; omega
        refine lv_iload_n hx hb dX1_goodLength_17 rfl (lv_at hl 0 rfl) ?_
        refine lv_bipush (v := 60) hx hb dX1_goodLength_18 (by decide) ?_
        refine lv_icmp_ge (tgt := 45) hx hb dX1_goodLength_20 (by decide) (fun c20_6 => absurd ((nI_geL (n := 60) rfl (by decide) (by omega)).mp c20_6) (by omega)) (fun c20_6 => ?_)
        refine lv_aload_n hx hb dX1_goodLength_23 rfl (lv_at hl 1 rfl) ?_
        refine rg (v := .ref (ad 48)) (T := TX1) (N := 3) (C := RX1) hx hb hts hinX1 hown hK hP hT rfl 2 (by decide) (hts (.fieldLink RX1 18 "NeedleGrid$BarText" "reader" "LNeedleGrid$BarReader;") (by decide +kernel)) rfl dX1_goodLength_24 ?_
        refine lv_aload_n hx hb dX1_goodLength_27 rfl (lv_at hl 1 rfl) ?_
        refine rg (v := .ref (ad (32 + 1 + 0))) (T := TX1) (N := 3) (C := RX1) hx hb hts hinX1 hown hK hP hT rfl 0 (by decide) (hts (.fieldLink RX1 9 "NeedleGrid$BarText" "codes" "[I") (by decide +kernel)) rfl dX1_goodLength_28 ?_
        refine lv_iload_n hx hb dX1_goodLength_31 rfl (lv_at hl 0 rfl) ?_
        refine ra (j := i) (n := 60) hx hb hK hP hT 0 rfl (by omega) (by decide) dX1_goodLength_32 ?_
        refine nVi (As := [.int (C i)]) (rest := _) hx hb hml hown hts hP hK hD hZ hA hS ⟨Nat.zero_le _, Nat.zero_le _⟩ hB.1 rfl (c_take l E ad sL_5 48 (rdS (begR R0) C i) hB (C i)) (cwV 1 hts gX1_goodLength_X0_take rfl rfl rfl (by decide +kernel) ⟨Nat.le_of_ble_eq_true rfl, Nat.le_of_ble_eq_true rfl⟩) hl.1 rfl (Nat.le_of_ble_eq_true rfl) dX1_goodLength_33 (fun r_8 s_10 H locs hq hP hD hS => ?_)
        obtain ⟨hrr_8, hB, hf_9⟩ := hq
        have hT := hT.keep hf_9 (by omega) (by decide)
        have hf := hf.tr hf_9
        refine lv_if_eq (tgt := 45) hx hb dX1_goodLength_36 (by decide) (fun c36_10 => ?_) (fun c36_10 => ?_)
        · refine lv_iload_n hx hb dX1_goodLength_45 rfl (lv_at hl 0 rfl) ?_
          have hgi : goodS (begR R0) C n n 0 = i := hg.trans (goodS_no hlt (by omega) (hrr_8.symm.trans c36_10))
          exact hret _ _ _ _ _ _ hP hD hS (⟨by rw [hgi], (by rw [hgi, if_neg (by omega)]; exact hB), hf⟩) dX1_goodLength_46
        · refine lv_iinc (v := nI (i + 1)) (lv' := [(1, .int (nI (i + 1))), (0, .ref (ad 32))]) hx hb dX1_goodLength_39 hl (k := 0) rfl (nI_1 _) (by decide) rfl (fun ls hl => ?_)
          refine lv_goto (tgt := 9) hx hb dX1_goodLength_42 (by decide) ?_
          exact ih9 (i + 1) (by omega) (by omega) _ _ _ _ hT hB hf (hg.trans (goodS_yes hlt (fun h9 => c36_10 (hrr_8.trans h9)))) hP hD hS (lv_sub hl [0, 1] rfl)
  exact LP_4 (n + 1) 0 (Nat.zero_le _) (by omega) _ _ _ _ hT hB hf rfl hP hD hS (lv_sub hl [0, 1] rfl)

set_option maxHeartbeats 4000000 in
set_option maxRecDepth 100000 in
theorem c_isComplete (l : Launch) (E : NE) (ad : Nat → Nat) (st : NW) (C : Nat → Int32) (n : Nat) (hn : n ≤ 60) (R0 : Nat → Int32) (hT : isR E ad st 32 sT (tx C n)) (hB : isR E ad st 48 sB (rB R0)) : nMi l yX1_isComplete wsX1_isComplete (nRm 4 87) E ad st [.ref (ad 32)] (fun r s1 => r = (if goodS (begR R0) C n n 0 = n then (if rdS (begR R0) C n 0 = 4 then 1 else 0) else 0) ∧ isR E ad s1 48 sB (rB (rdS (begR R0) C (if goodS (begR R0) C n n 0 = n then n else goodS (begR R0) C n n 0 + 1))) ∧ fr 48 st s1) := by
  refine nSz (cc := cX1_isComplete) (maxL := 1) (by decide) rfl (Nat.le_of_ble_eq_true rfl) ?_
  intro pg en s mi ar bw mth cd R Q A ls hx hb hml hown hts hRm hP hK hD hZ hA hl hret
  subst hRm
  have hown : s.vm.findClass RX1 = some mi.cls := hown
  have hS : va_S A s.heap s.heap [] := va_S.rf
  have hl : lv_has ls 1 [(0, .ref (ad 32))] := hl
  have hf : fr 48 st st := fr.rf
  have hinX0 : ∀ w ∈ wsX00, w ∈ wsX1_isComplete := by decide +kernel
  have hinX1 : ∀ w ∈ wsX10, w ∈ wsX1_isComplete := by decide +kernel
  refine lv_aload_n hx hb dX1_isComplete_0 rfl (lv_at hl 0 rfl) ?_
  refine nVi (As := []) (rest := _) hx hb hml hown hts hP hK hD hZ hA hS ⟨Nat.zero_le _, Nat.zero_le _⟩ hT.1 rfl (c_goodLength l E ad st C n hn R0 hT hB) (cwV 0 hts gX1_isComplete_X1_goodLength rfl rfl rfl (by decide +kernel) ⟨Nat.le_of_ble_eq_true rfl, Nat.le_of_ble_eq_true rfl⟩) hl.1 rfl (Nat.le_of_ble_eq_true rfl) dX1_isComplete_1 (fun r_1 s_3 H locs hq hP hD hS => ?_)
  obtain ⟨hrr_1, hB, hf_2⟩ := hq
  have hT := hT.keep hf_2 (by omega) (by decide)
  have hf := hf.tr hf_2
  refine lv_aload_n hx hb dX1_isComplete_4 rfl (lv_at hl 0 rfl) ?_
  refine rg (v := .int (nI n)) (T := TX1) (N := 3) (C := RX1) hx hb hts hinX1 hown hK hP hT rfl 1 (by decide) (hts (.fieldLink RX1 22 "NeedleGrid$BarText" "length" "I") (by decide +kernel)) rfl dX1_isComplete_5 ?_
  refine lv_icmp_ne (tgt := 25) hx hb dX1_isComplete_8 (by decide) (fun c8_3 => ?_) (fun c8_3 => ?_)
  · have hgn : ¬ goodS (begR R0) C n n 0 = n := fun h9 => c8_3 (by rw [hrr_1, h9])
    refine lv_iconst (v := 0) hx hb dX1_isComplete_25 (by decide) ?_
    exact hret _ _ _ _ _ _ hP hD hS (⟨by rw [if_neg hgn], hB, hf⟩) (by first | exact Or.inl rfl | exact Or.inr rfl | assumption) dX1_isComplete_26
  · have hgn : goodS (begR R0) C n n 0 = n := (nI_eq (by have := goodS_le (R := begR R0) (C := C) (n := n) n 0 (by omega); omega) (by omega)).mp (hrr_1.symm.trans c8_3)
    refine lv_aload_n hx hb dX1_isComplete_11 rfl (lv_at hl 0 rfl) ?_
    refine rg (v := .ref (ad 48)) (T := TX1) (N := 3) (C := RX1) hx hb hts hinX1 hown hK hP hT rfl 2 (by decide) (hts (.fieldLink RX1 18 "NeedleGrid$BarText" "reader" "LNeedleGrid$BarReader;") (by decide +kernel)) rfl dX1_isComplete_12 ?_
    refine nVi (As := []) (rest := _) hx hb hml hown hts hP hK hD hZ hA hS ⟨Nat.zero_le _, Nat.zero_le _⟩ hB.1 rfl (c_isBehindStrength l E ad s_3 48 (rdS (begR R0) C (if goodS (begR R0) C n n 0 = n then n else goodS (begR R0) C n n 0 + 1)) hB) (cwV 0 hts gX1_isComplete_X0_isBehindStrength rfl rfl rfl (by decide +kernel) ⟨Nat.le_of_ble_eq_true rfl, Nat.le_of_ble_eq_true rfl⟩) hl.1 rfl (Nat.le_of_ble_eq_true rfl) dX1_isComplete_15 (fun r_5 s_6 H locs hq hP hD hS => ?_)
    obtain ⟨hrr_5, rfl⟩ := hq
    refine lv_if_eq (tgt := 25) hx hb dX1_isComplete_18 (by decide) (fun c18_6 => ?_) (fun c18_6 => ?_)
    · have hbe : ¬ rdS (begR R0) C n 0 = 4 := by have h9 := b10_f hrr_5 c18_6; rw [if_pos hgn] at h9; exact h9
      refine lv_iconst (v := 0) hx hb dX1_isComplete_25 (by decide) ?_
      exact hret _ _ _ _ _ _ hP hD hS (⟨by rw [if_pos hgn, if_neg hbe], hB, hf⟩) (by first | exact Or.inl rfl | exact Or.inr rfl | assumption) dX1_isComplete_26
    · have hbe : rdS (begR R0) C n 0 = 4 := by have h9 := b10_t hrr_5 c18_6; rw [if_pos hgn] at h9; exact h9
      refine lv_iconst (v := 1) hx hb dX1_isComplete_21 (by decide) ?_
      refine lv_goto (tgt := 26) hx hb dX1_isComplete_22 (by decide) ?_
      exact hret _ _ _ _ _ _ hP hD hS (⟨by rw [if_pos hgn, if_pos hbe], hB, hf⟩) (by first | exact Or.inl rfl | exact Or.inr rfl | assumption) dX1_isComplete_26

set_option maxHeartbeats 4000000 in
set_option maxRecDepth 100000 in
theorem c_tLay (l : Launch) (E : NE) (ad : Nat → Nat) (st : NW) (C : Nat → Int32) (n : Nat) (hn : n ≤ 60) (R0 : Nat → Int32) (G : Nat → Nat → Int32) (hT : isR E ad st 32 sT (tx C n)) (hB : isR E ad st 48 sB (rB R0)) (hR : isR E ad st 64 sG G) : nMv l yX1_layInto wsX1_layInto (nRm 3 66) E ad st [.ref (ad 32), .ref (ad 64)] (fun s1 => isR E ad s1 48 sB (rB (rdS (begR R0) C n)) ∧ isR E ad s1 64 sG (layR (rdS (begR R0) C n) (layS (begR R0) C G n)) ∧ frX 48 80 st s1) := by
  refine nSv (cc := cX1_layInto) (maxL := 3) (by decide) rfl (Nat.le_of_ble_eq_true rfl) ?_
  intro pg en s mi ar bw mth cd R Q A ls hx hb hml hown hts hRm hP hK hD hZ hA hl hret
  subst hRm
  have hown : s.vm.findClass RX1 = some mi.cls := hown
  have hS : va_S A s.heap s.heap [] := va_S.rf
  have hl : lv_has ls 3 [(0, .ref (ad 32)), (1, .ref (ad 64))] := hl
  have hf : frX 48 80 st st := frX.rf
  have hinX0 : ∀ w ∈ wsX00, w ∈ wsX1_layInto := by decide +kernel
  have hinX1 : ∀ w ∈ wsX10, w ∈ wsX1_layInto := by decide +kernel
  have hinX2 : ∀ w ∈ wsX20, w ∈ wsX1_layInto := by decide +kernel
  refine lv_aload_n hx hb dX1_layInto_0 rfl (lv_at hl 0 rfl) ?_
  refine rg (v := .ref (ad 48)) (T := TX1) (N := 3) (C := RX1) hx hb hts hinX1 hown hK hP hT rfl 2 (by decide) (hts (.fieldLink RX1 18 "NeedleGrid$BarText" "reader" "LNeedleGrid$BarReader;") (by decide +kernel)) rfl dX1_layInto_1 ?_
  refine nVv (As := []) (rest := _) hx hb hml hown hts hP hK hD hZ hA hS ⟨Nat.zero_le _, Nat.zero_le _⟩ hB.1 rfl (c_begin l E ad st 48 R0 hB ) (cwV 0 hts gX1_layInto_X0_begin rfl rfl rfl (by decide +kernel) ⟨Nat.le_of_ble_eq_true rfl, Nat.le_of_ble_eq_true rfl⟩) hl.1 rfl (Nat.le_of_ble_eq_true rfl) dX1_layInto_4 (fun s_3 H locs hq hP hD hS => ?_)
  obtain ⟨hB, hf_2⟩ := hq
  have hT := hT.keep hf_2 (by omega) (by decide)
  have hR := hR.keep hf_2 (by omega) (by decide)
  have hf := hf.tr1 hf_2 (by omega) (by omega)
  refine lv_iconst (v := 0) hx hb dX1_layInto_7 (by decide) ?_
  refine lv_istore_n (lv' := [(2, .int 0), (0, .ref (ad 32)), (1, .ref (ad 64))]) hx hb dX1_layInto_8 rfl hl (by decide) rfl (fun ls hl => ?_)
  have LP_4 : ∀ (k9 i : Nat), i ≤ n → n - i < k9 → ∀ (sL_5 : NW) (H : Heap) (locs : List Loc) (ls : Array Slot), isR E ad sL_5 32 sT ((tx C n)) → isR E ad sL_5 48 sB ((rB (rdS (begR R0) C i))) → isR E ad sL_5 64 sG ((layS (begR R0) C G i)) → frX 48 80 st sL_5 → nP E ad sL_5 H → nD A ad sL_5 → va_S A s.heap H locs → lv_has ls 3 [(2, .int (nI i)), (0, .ref (ad 32)), (1, .ref (ad 64))] → W pg l en (nRm 3 66) s mi ar bw mth cd H locs 0 0 Q (F0 mi 9 ls []) := by
    intro k9
    induction k9 with
    | zero => intro i _ h9; exact absurd h9 (Nat.not_lt_zero _)
    | succ k9 ih9 =>
      intro i hi hk9 sL_5 H locs ls hT hB hR hf hP hD hS hl
      refine lv_iload_n hx hb dX1_layInto_9 rfl (lv_at hl 0 rfl) ?_
      refine lv_aload_n hx hb dX1_layInto_10 rfl (lv_at hl 1 rfl) ?_
      refine rg (v := .int (nI n)) (T := TX1) (N := 3) (C := RX1) hx hb hts hinX1 hown hK hP hT rfl 1 (by decide) (hts (.fieldLink RX1 22 "NeedleGrid$BarText" "length" "I") (by decide +kernel)) rfl dX1_layInto_11 ?_
      refine lv_icmp_ge (tgt := 62) hx hb dX1_layInto_14 (by decide) (fun c14_5 => ?_) (fun c14_5 => ?_)
      · have h36 : n ≤ i := (nI_leI (by omega) (by omega)).mp c14_5
        obtain rfl : n = i := by omega
        refine lv_aload_n hx hb dX1_layInto_62 rfl (lv_at hl 1 rfl) ?_
        refine rg (v := .ref (ad 48)) (T := TX1) (N := 3) (C := RX1) hx hb hts hinX1 hown hK hP hT rfl 2 (by decide) (hts (.fieldLink RX1 18 "NeedleGrid$BarText" "reader" "LNeedleGrid$BarReader;") (by decide +kernel)) rfl dX1_layInto_63 ?_
        refine lv_aload_n hx hb dX1_layInto_66 rfl (lv_at hl 2 rfl) ?_
        refine nVv (As := [.ref (ad 64)]) (rest := _) hx hb hml hown hts hP hK hD hZ hA hS ⟨Nat.zero_le _, Nat.zero_le _⟩ hB.1 rfl (c_rLay l E ad sL_5 64 48 (by omega) (layS (begR R0) C G n) (rdS (begR R0) C n) hR hB) (cwV 1 hts gX1_layInto_X0_layInto rfl rfl rfl (by decide +kernel) ⟨Nat.le_of_ble_eq_true rfl, Nat.le_of_ble_eq_true rfl⟩) hl.1 rfl (Nat.le_of_ble_eq_true rfl) dX1_layInto_67 (fun s_8 H locs hq hP hD hS => ?_)
        obtain ⟨hR, hf_7⟩ := hq
        have hT := hT.keep hf_7 (by omega) (by decide)
        have hB := hB.keep hf_7 (by omega) (by decide)
        have hf := hf.tr1 hf_7 (by omega) (by omega)
        exact hret _ _ _ _ _ hP hD hS (⟨hB, hR, hf⟩) dX1_layInto_70
      · have hlt : i < n := by have := mt (nI_leI (a := n) (b := i) (by omega) (by omega)).mpr c14_5; omega
        refine lv_iload_n hx hb dX1_layInto_17 rfl (lv_at hl 0 rfl) ?_
        refine lv_bipush (v := 60) hx hb dX1_layInto_18 (by decide) ?_
        refine lv_icmp_ge (tgt := 62) hx hb dX1_layInto_20 (by decide) (fun c20_8 => absurd ((nI_geL (n := 60) rfl (by decide) (by omega)).mp c20_8) (by omega)) (fun c20_8 => ?_)
        refine lv_aload_n hx hb dX1_layInto_23 rfl (lv_at hl 1 rfl) ?_
        refine rg (v := .ref (ad (32 + 1 + 0))) (T := TX1) (N := 3) (C := RX1) hx hb hts hinX1 hown hK hP hT rfl 0 (by decide) (hts (.fieldLink RX1 9 "NeedleGrid$BarText" "codes" "[I") (by decide +kernel)) rfl dX1_layInto_24 ?_
        refine lv_iload_n hx hb dX1_layInto_27 rfl (lv_at hl 0 rfl) ?_
        refine ra (j := i) (n := 60) hx hb hK hP hT 0 rfl (by omega) (by decide) dX1_layInto_28 ?_
        refine lv_bipush (v := 59) hx hb dX1_layInto_29 (by decide) ?_
        refine lv_icmp_ne (tgt := 42) hx hb dX1_layInto_31 (by decide) (fun c31_9 => ?_) (fun c31_9 => ?_)
        · refine lv_aload_n hx hb dX1_layInto_42 rfl (lv_at hl 1 rfl) ?_
          refine rg (v := .ref (ad 48)) (T := TX1) (N := 3) (C := RX1) hx hb hts hinX1 hown hK hP hT rfl 2 (by decide) (hts (.fieldLink RX1 18 "NeedleGrid$BarText" "reader" "LNeedleGrid$BarReader;") (by decide +kernel)) rfl dX1_layInto_43 ?_
          refine lv_aload_n hx hb dX1_layInto_46 rfl (lv_at hl 1 rfl) ?_
          refine rg (v := .ref (ad (32 + 1 + 0))) (T := TX1) (N := 3) (C := RX1) hx hb hts hinX1 hown hK hP hT rfl 0 (by decide) (hts (.fieldLink RX1 9 "NeedleGrid$BarText" "codes" "[I") (by decide +kernel)) rfl dX1_layInto_47 ?_
          refine lv_iload_n hx hb dX1_layInto_50 rfl (lv_at hl 0 rfl) ?_
          refine ra (j := i) (n := 60) hx hb hK hP hT 0 rfl (by omega) (by decide) dX1_layInto_51 ?_
          refine nVi (As := [.int (C i)]) (rest := _) hx hb hml hown hts hP hK hD hZ hA hS ⟨Nat.zero_le _, Nat.zero_le _⟩ hB.1 rfl (c_take l E ad sL_5 48 (rdS (begR R0) C i) hB (C i)) (cwV 1 hts gX1_layInto_X0_take rfl rfl rfl (by decide +kernel) ⟨Nat.le_of_ble_eq_true rfl, Nat.le_of_ble_eq_true rfl⟩) hl.1 rfl (Nat.le_of_ble_eq_true rfl) dX1_layInto_52 (fun r_11 s_13 H locs hq hP hD hS => ?_)
          obtain ⟨hrr_11, hB, hf_12⟩ := hq
          have hT := hT.keep hf_12 (by omega) (by decide)
          have hR := hR.keep hf_12 (by omega) (by decide)
          have hf := hf.tr1 hf_12 (by omega) (by omega)
          refine lv_pop hx hb dX1_layInto_55 rfl ?_
          refine lv_iinc (v := nI (i + 1)) (lv' := [(2, .int (nI (i + 1))), (0, .ref (ad 32)), (1, .ref (ad 64))]) hx hb dX1_layInto_56 hl (k := 0) rfl (nI_1 _) (by decide) rfl (fun ls hl => ?_)
          refine lv_goto (tgt := 9) hx hb dX1_layInto_59 (by decide) ?_
          exact ih9 (i + 1) (by omega) (by omega) _ _ _ _ hT hB (by rw [layS_f (R := begR R0) (C := C) (G := G) (i := i) c31_9]; exact hR) hf hP hD hS (lv_sub hl [0, 1, 2] rfl)
        · refine lv_aload_n hx hb dX1_layInto_34 rfl (lv_at hl 1 rfl) ?_
          refine rg (v := .ref (ad 48)) (T := TX1) (N := 3) (C := RX1) hx hb hts hinX1 hown hK hP hT rfl 2 (by decide) (hts (.fieldLink RX1 18 "NeedleGrid$BarText" "reader" "LNeedleGrid$BarReader;") (by decide +kernel)) rfl dX1_layInto_35 ?_
          refine lv_aload_n hx hb dX1_layInto_38 rfl (lv_at hl 2 rfl) ?_
          refine nVv (As := [.ref (ad 64)]) (rest := _) hx hb hml hown hts hP hK hD hZ hA hS ⟨Nat.zero_le _, Nat.zero_le _⟩ hB.1 rfl (c_rLay l E ad sL_5 64 48 (by omega) (layS (begR R0) C G i) (rdS (begR R0) C i) hR hB) (cwV 1 hts gX1_layInto_X0_layInto rfl rfl rfl (by decide +kernel) ⟨Nat.le_of_ble_eq_true rfl, Nat.le_of_ble_eq_true rfl⟩) hl.1 rfl (Nat.le_of_ble_eq_true rfl) dX1_layInto_39 (fun s_16 H locs hq hP hD hS => ?_)
          obtain ⟨hR, hf_15⟩ := hq
          have hT := hT.keep hf_15 (by omega) (by decide)
          have hB := hB.keep hf_15 (by omega) (by decide)
          have hf := hf.tr1 hf_15 (by omega) (by omega)
          refine lv_aload_n hx hb dX1_layInto_42 rfl (lv_at hl 1 rfl) ?_
          refine rg (v := .ref (ad 48)) (T := TX1) (N := 3) (C := RX1) hx hb hts hinX1 hown hK hP hT rfl 2 (by decide) (hts (.fieldLink RX1 18 "NeedleGrid$BarText" "reader" "LNeedleGrid$BarReader;") (by decide +kernel)) rfl dX1_layInto_43 ?_
          refine lv_aload_n hx hb dX1_layInto_46 rfl (lv_at hl 1 rfl) ?_
          refine rg (v := .ref (ad (32 + 1 + 0))) (T := TX1) (N := 3) (C := RX1) hx hb hts hinX1 hown hK hP hT rfl 0 (by decide) (hts (.fieldLink RX1 9 "NeedleGrid$BarText" "codes" "[I") (by decide +kernel)) rfl dX1_layInto_47 ?_
          refine lv_iload_n hx hb dX1_layInto_50 rfl (lv_at hl 0 rfl) ?_
          refine ra (j := i) (n := 60) hx hb hK hP hT 0 rfl (by omega) (by decide) dX1_layInto_51 ?_
          refine nVi (As := [.int (C i)]) (rest := _) hx hb hml hown hts hP hK hD hZ hA hS ⟨Nat.zero_le _, Nat.zero_le _⟩ hB.1 rfl (c_take l E ad s_16 48 (rdS (begR R0) C i) hB (C i)) (cwV 1 hts gX1_layInto_X0_take rfl rfl rfl (by decide +kernel) ⟨Nat.le_of_ble_eq_true rfl, Nat.le_of_ble_eq_true rfl⟩) hl.1 rfl (Nat.le_of_ble_eq_true rfl) dX1_layInto_52 (fun r_17 s_19 H locs hq hP hD hS => ?_)
          obtain ⟨hrr_17, hB, hf_18⟩ := hq
          have hT := hT.keep hf_18 (by omega) (by decide)
          have hR := hR.keep hf_18 (by omega) (by decide)
          have hf := hf.tr1 hf_18 (by omega) (by omega)
          refine lv_pop hx hb dX1_layInto_55 rfl ?_
          refine lv_iinc (v := nI (i + 1)) (lv' := [(2, .int (nI (i + 1))), (0, .ref (ad 32)), (1, .ref (ad 64))]) hx hb dX1_layInto_56 hl (k := 0) rfl (nI_1 _) (by decide) rfl (fun ls hl => ?_)
          refine lv_goto (tgt := 9) hx hb dX1_layInto_59 (by decide) ?_
          exact ih9 (i + 1) (by omega) (by omega) _ _ _ _ hT hB (by rw [layS_t (R := begR R0) (C := C) (G := G) (i := i) c31_9]; exact hR) hf hP hD hS (lv_sub hl [0, 1, 2] rfl)
  exact LP_4 (n + 1) 0 (Nat.zero_le _) (by omega) _ _ _ _ hT hB hR hf hP hD hS (lv_sub hl [0, 1, 2] rfl)

set_option maxHeartbeats 4000000 in
set_option maxRecDepth 100000 in
theorem c_save (l : Launch) (E : NE) (ad : Nat → Nat) (st : NW) (a x : Nat) (ha : a ≤ 6) (hxx : x < 6) (Rg : Nat → Nat → Nat → Int32) (G : Nat → Nat → Int32) (hz : ∀ k, k < 36 → G 2 k = 0 ∨ G 2 k = 1) (hH : isR E ad st 16 sH (hst a x)) (hQr : st 12 = some (nRing E ad)) (hRg : ∀ i, i < 6 → isR E ad st (96 + 16 * i) sG (Rg i)) (hR : isR E ad st 64 sG G) : nMv l yX3_save wsX3_save (nRm 1 22) E ad st [.ref (ad 16), .ref (ad 64)] (fun s1 => isR E ad s1 16 sH (hst (if a < 6 then a + 1 else a) (if x + 1 < 6 then x + 1 else 0)) ∧ (∀ i, i < 6 → isR E ad s1 (96 + 16 * i) sG (if i = x then G else Rg i)) ∧ frH st s1) := by
  refine nSv (cc := cX3_save) (maxL := 3) (by decide) rfl (Nat.le_of_ble_eq_true rfl) ?_
  intro pg en s mi ar bw mth cd R Q A ls hx hb hml hown hts hRm hP hK hD hZ hA hl hret
  subst hRm
  have hown : s.vm.findClass RX3 = some mi.cls := hown
  have hS : va_S A s.heap s.heap [] := va_S.rf
  have hl : lv_has ls 3 [(0, .ref (ad 16)), (1, .ref (ad 64))] := hl
  have hf : frH st st := fun _ _ => rfl
  have hinX2 : ∀ w ∈ wsX20, w ∈ wsX3_save := by decide +kernel
  have hinX3 : ∀ w ∈ wsX30, w ∈ wsX3_save := by decide +kernel
  refine lv_aload_n hx hb dX3_save_0 rfl (lv_at hl 0 rfl) ?_
  refine rg (v := .ref (ad 12)) (T := TX3) (N := 3) (C := RX3) hx hb hts hinX3 hown hK hP hH rfl 0 (by decide) (hts (.fieldLink RX3 11 "NeedleGrid$History" "ring" "[LNeedleGrid$Grid;") (by decide +kernel)) rfl dX3_save_1 ?_
  refine lv_aload_n hx hb dX3_save_4 rfl (lv_at hl 0 rfl) ?_
  refine rg (v := .int (nI x)) (T := TX3) (N := 3) (C := RX3) hx hb hts hinX3 hown hK hP hH rfl 2 (by decide) (hts (.fieldLink RX3 18 "NeedleGrid$History" "next" "I") (by decide +kernel)) rfl dX3_save_5 ?_
  refine raq (j := x) hx hb hK hP hQr (by omega) dX3_save_8 ?_
  refine lv_astore_n (lv' := [(2, .ref (ad (96 + 16 * x))), (0, .ref (ad 16)), (1, .ref (ad 64))]) hx hb dX3_save_9 rfl hl (by decide) rfl (fun ls hl => ?_)
  refine lv_aload_n hx hb dX3_save_10 rfl (lv_at hl 0 rfl) ?_
  refine lv_ifnull hx hb dX3_save_11 ?_
  refine lv_aload_n hx hb dX3_save_14 rfl (lv_at hl 0 rfl) ?_
  refine lv_aload_n hx hb dX3_save_15 rfl (lv_at hl 2 rfl) ?_
  have hQ := hRg x hxx
  refine nVv (As := [.ref (ad 64)]) (rest := _) hx hb hml hown hts hP hK hD hZ hA hS ⟨Nat.zero_le _, Nat.zero_le _⟩ hQ.1 rfl (c_copyFrom l E ad st (96 + 16 * x) 64 (by omega) (Rg x) G hQ hR hz) (cwV 1 hts gX3_save_X2_copyFrom rfl rfl rfl (by decide +kernel) ⟨Nat.le_of_ble_eq_true rfl, Nat.le_of_ble_eq_true rfl⟩) hl.1 rfl (Nat.le_of_ble_eq_true rfl) dX3_save_16 (fun s_2 H locs hq hP hD hS => ?_)
  obtain ⟨hQ, hf_1⟩ := hq
  have hRg : ∀ i, i < 6 → isR E ad s_2 (96 + 16 * i) sG ((fun i => if i = x then G else Rg i) i) := fun i hi => by
    by_cases h9 : i = x
    · subst h9; show isR E ad s_2 (96 + 16 * i) sG (if i = i then G else Rg i); rw [if_pos rfl]; exact hQ
    · show isR E ad s_2 (96 + 16 * i) sG (if i = x then G else Rg i); rw [if_neg h9]; exact (hRg i hi).keep hf_1 (by omega) (by decide)
  have hf : frH st s_2 := fun h h9 => (hf_1 h (by omega)).trans (hf h h9)
  have hH := hH.keep hf_1 (by omega) (by decide)
  have hQr := (hf_1 12 (by omega)).trans hQr
  have hR := hR.keep hf_1 (by omega) (by decide)
  refine lv_aload_n hx hb dX3_save_19 rfl (lv_at hl 1 rfl) ?_
  refine lv_aload_n hx hb dX3_save_20 rfl (lv_at hl 1 rfl) ?_
  refine rg (v := .int (nI x)) (T := TX3) (N := 3) (C := RX3) hx hb hts hinX3 hown hK hP hH rfl 2 (by decide) (hts (.fieldLink RX3 18 "NeedleGrid$History" "next" "I") (by decide +kernel)) rfl dX3_save_21 ?_
  refine lv_iconst (v := 1) hx hb dX3_save_24 (by decide) ?_
  refine lv_iadd hx hb dX3_save_25 ?_
  rw [nI_1]
  refine lv_bipush (v := 6) hx hb dX3_save_26 (by decide) ?_
  refine lv_icmp_ge (tgt := 40) hx hb dX3_save_28 (by decide) (fun c28_2 => ?_) (fun c28_2 => ?_)
  · have q1 : ¬ x + 1 < 6 := by have := (nI_geL (n := 6) (i := x + 1) rfl (by decide) (by omega)).mp c28_2; omega
    refine lv_iconst (v := 0) hx hb dX3_save_40 (by decide) ?_
    refine rp (v := 0) (ty := .int) (T := TX3) (N := 3) (C := RX3) hx hb hts hinX3 tyX3 tyX3_ok nmX3 hown hK hP hD hS hH rfl 2 (by decide) (hts (.fieldLink RX3 18 "NeedleGrid$History" "next" "I") (by decide +kernel)) rfl rfl (by decide +kernel) rfl rfl dX3_save_41 (fun s_4 H locs hH hf_5 hP hD hS => ?_)
    have hR := hR.keep hf_5 (by omega) (by decide)
    have hQr := (hf_5 _ (by omega)).trans hQr
    have hRg : ∀ i, i < 6 → isR E ad s_4 (96 + 16 * i) sG ((fun i => if i = x then G else Rg i) i) := fun i hi => (hRg i hi).keep hf_5 (by omega) (by decide)
    have hf : frH st s_4 := fun h h9 => (hf_5 h (by omega)).trans (hf h h9)
    refine lv_aload_n hx hb dX3_save_44 rfl (lv_at hl 1 rfl) ?_
    refine rg (v := .int (nI a)) (T := TX3) (N := 3) (C := RX3) hx hb hts hinX3 hown hK hP hH rfl 1 (by decide) (hts (.fieldLink RX3 26 "NeedleGrid$History" "amount" "I") (by decide +kernel)) rfl dX3_save_45 ?_
    refine lv_bipush (v := 6) hx hb dX3_save_48 (by decide) ?_
    refine lv_icmp_ge (tgt := 63) hx hb dX3_save_50 (by decide) (fun c50_5 => ?_) (fun c50_5 => ?_)
    · have q2 : ¬ a < 6 := by have := (nI_geL (n := 6) (i := a) rfl (by decide) (by omega)).mp c50_5; omega
      exact hret _ _ _ _ _ hP hD hS (⟨hH.eq (all3 rfl (by first | (rw [if_pos q2]; rfl) | (rw [if_neg q2]; rfl)) (by first | (rw [if_pos q1]; rfl) | (rw [if_neg q1]; rfl))), hRg, hf⟩) dX3_save_63
    · have q2 : a < 6 := by have := mt (nI_geL (n := 6) (i := a) rfl (by decide) (by omega)).mpr c50_5; omega
      refine lv_aload_n hx hb dX3_save_53 rfl (lv_at hl 1 rfl) ?_
      refine lv_dup hx hb dX3_save_54 rfl ?_
      refine rg (v := .int (nI a)) (T := TX3) (N := 3) (C := RX3) hx hb hts hinX3 hown hK hP hH rfl 1 (by decide) (hts (.fieldLink RX3 26 "NeedleGrid$History" "amount" "I") (by decide +kernel)) rfl dX3_save_55 ?_
      refine lv_iconst (v := 1) hx hb dX3_save_58 (by decide) ?_
      refine lv_iadd hx hb dX3_save_59 ?_
      rw [nI_1]
      refine rp (v := nI (a + 1)) (ty := .int) (T := TX3) (N := 3) (C := RX3) hx hb hts hinX3 tyX3 tyX3_ok nmX3 hown hK hP hD hS hH rfl 1 (by decide) (hts (.fieldLink RX3 26 "NeedleGrid$History" "amount" "I") (by decide +kernel)) rfl rfl (by decide +kernel) rfl rfl dX3_save_60 (fun s_7 H locs hH hf_8 hP hD hS => ?_)
      have hR := hR.keep hf_8 (by omega) (by decide)
      have hQr := (hf_8 _ (by omega)).trans hQr
      have hRg : ∀ i, i < 6 → isR E ad s_7 (96 + 16 * i) sG ((fun i => if i = x then G else Rg i) i) := fun i hi => (hRg i hi).keep hf_8 (by omega) (by decide)
      have hf : frH st s_7 := fun h h9 => (hf_8 h (by omega)).trans (hf h h9)
      exact hret _ _ _ _ _ hP hD hS (⟨hH.eq (all3 rfl (by first | (rw [if_pos q2]; rfl) | (rw [if_neg q2]; rfl)) (by first | (rw [if_pos q1]; rfl) | (rw [if_neg q1]; rfl))), hRg, hf⟩) dX3_save_63
  · have q1 : x + 1 < 6 := by have := mt (nI_geL (n := 6) (i := x + 1) rfl (by decide) (by omega)).mpr c28_2; omega
    refine lv_aload_n hx hb dX3_save_31 rfl (lv_at hl 1 rfl) ?_
    refine rg (v := .int (nI x)) (T := TX3) (N := 3) (C := RX3) hx hb hts hinX3 hown hK hP hH rfl 2 (by decide) (hts (.fieldLink RX3 18 "NeedleGrid$History" "next" "I") (by decide +kernel)) rfl dX3_save_32 ?_
    refine lv_iconst (v := 1) hx hb dX3_save_35 (by decide) ?_
    refine lv_iadd hx hb dX3_save_36 ?_
    rw [nI_1]
    refine lv_goto (tgt := 41) hx hb dX3_save_37 (by decide) ?_
    refine rp (v := nI (x + 1)) (ty := .int) (T := TX3) (N := 3) (C := RX3) hx hb hts hinX3 tyX3 tyX3_ok nmX3 hown hK hP hD hS hH rfl 2 (by decide) (hts (.fieldLink RX3 18 "NeedleGrid$History" "next" "I") (by decide +kernel)) rfl rfl (by decide +kernel) rfl rfl dX3_save_41 (fun s_9 H locs hH hf_10 hP hD hS => ?_)
    have hR := hR.keep hf_10 (by omega) (by decide)
    have hQr := (hf_10 _ (by omega)).trans hQr
    have hRg : ∀ i, i < 6 → isR E ad s_9 (96 + 16 * i) sG ((fun i => if i = x then G else Rg i) i) := fun i hi => (hRg i hi).keep hf_10 (by omega) (by decide)
    have hf : frH st s_9 := fun h h9 => (hf_10 h (by omega)).trans (hf h h9)
    refine lv_aload_n hx hb dX3_save_44 rfl (lv_at hl 1 rfl) ?_
    refine rg (v := .int (nI a)) (T := TX3) (N := 3) (C := RX3) hx hb hts hinX3 hown hK hP hH rfl 1 (by decide) (hts (.fieldLink RX3 26 "NeedleGrid$History" "amount" "I") (by decide +kernel)) rfl dX3_save_45 ?_
    refine lv_bipush (v := 6) hx hb dX3_save_48 (by decide) ?_
    refine lv_icmp_ge (tgt := 63) hx hb dX3_save_50 (by decide) (fun c50_10 => ?_) (fun c50_10 => ?_)
    · have q2 : ¬ a < 6 := by have := (nI_geL (n := 6) (i := a) rfl (by decide) (by omega)).mp c50_10; omega
      exact hret _ _ _ _ _ hP hD hS (⟨hH.eq (all3 rfl (by first | (rw [if_pos q2]; rfl) | (rw [if_neg q2]; rfl)) (by first | (rw [if_pos q1]; rfl) | (rw [if_neg q1]; rfl))), hRg, hf⟩) dX3_save_63
    · have q2 : a < 6 := by have := mt (nI_geL (n := 6) (i := a) rfl (by decide) (by omega)).mpr c50_10; omega
      refine lv_aload_n hx hb dX3_save_53 rfl (lv_at hl 1 rfl) ?_
      refine lv_dup hx hb dX3_save_54 rfl ?_
      refine rg (v := .int (nI a)) (T := TX3) (N := 3) (C := RX3) hx hb hts hinX3 hown hK hP hH rfl 1 (by decide) (hts (.fieldLink RX3 26 "NeedleGrid$History" "amount" "I") (by decide +kernel)) rfl dX3_save_55 ?_
      refine lv_iconst (v := 1) hx hb dX3_save_58 (by decide) ?_
      refine lv_iadd hx hb dX3_save_59 ?_
      rw [nI_1]
      refine rp (v := nI (a + 1)) (ty := .int) (T := TX3) (N := 3) (C := RX3) hx hb hts hinX3 tyX3 tyX3_ok nmX3 hown hK hP hD hS hH rfl 1 (by decide) (hts (.fieldLink RX3 26 "NeedleGrid$History" "amount" "I") (by decide +kernel)) rfl rfl (by decide +kernel) rfl rfl dX3_save_60 (fun s_12 H locs hH hf_13 hP hD hS => ?_)
      have hR := hR.keep hf_13 (by omega) (by decide)
      have hQr := (hf_13 _ (by omega)).trans hQr
      have hRg : ∀ i, i < 6 → isR E ad s_12 (96 + 16 * i) sG ((fun i => if i = x then G else Rg i) i) := fun i hi => (hRg i hi).keep hf_13 (by omega) (by decide)
      have hf : frH st s_12 := fun h h9 => (hf_13 h (by omega)).trans (hf h h9)
      exact hret _ _ _ _ _ hP hD hS (⟨hH.eq (all3 rfl (by first | (rw [if_pos q2]; rfl) | (rw [if_neg q2]; rfl)) (by first | (rw [if_pos q1]; rfl) | (rw [if_neg q1]; rfl))), hRg, hf⟩) dX3_save_63

/-- outside the history and the grid that is now -/
def frU (st st1 : NW) : Prop := ∀ h : Nat, (h < 16 ∨ (32 ≤ h ∧ h < 64) ∨ 80 ≤ h) → st1 h = st h

set_option maxHeartbeats 4000000 in
set_option maxRecDepth 100000 in
theorem c_restoreInto (l : Launch) (E : NE) (ad : Nat → Nat) (st : NW) (a x : Nat) (ha : a ≤ 6) (ha0 : 0 < a) (hxx : x < 6) (Rg : Nat → Nat → Nat → Int32) (G : Nat → Nat → Int32) (hz : ∀ i, i < 6 → ∀ k, k < 36 → Rg i 2 k = 0 ∨ Rg i 2 k = 1) (hH : isR E ad st 16 sH (hst a x)) (hQr : st 12 = some (nRing E ad)) (hRg : ∀ i, i < 6 → isR E ad st (96 + 16 * i) sG (Rg i)) (hR : isR E ad st 64 sG G) : nMv l yX3_restoreInto wsX3_restoreInto (nRm 1 22) E ad st [.ref (ad 16), .ref (ad 64)] (fun s1 => isR E ad s1 16 sH (hst (a - 1) (if 0 < x then x - 1 else 5)) ∧ isR E ad s1 64 sG (Rg (if 0 < x then x - 1 else 5)) ∧ (∀ i, i < 6 → isR E ad s1 (96 + 16 * i) sG (Rg i)) ∧ frU st s1) := by
  refine nSv (cc := cX3_restoreInto) (maxL := 3) (by decide) rfl (Nat.le_of_ble_eq_true rfl) ?_
  intro pg en s mi ar bw mth cd R Q A ls hx hb hml hown hts hRm hP hK hD hZ hA hl hret
  subst hRm
  have hown : s.vm.findClass RX3 = some mi.cls := hown
  have hS : va_S A s.heap s.heap [] := va_S.rf
  have hl : lv_has ls 3 [(0, .ref (ad 16)), (1, .ref (ad 64))] := hl
  have hf : frU st st := fun _ _ => rfl
  have hinX2 : ∀ w ∈ wsX20, w ∈ wsX3_restoreInto := by decide +kernel
  have hinX3 : ∀ w ∈ wsX30, w ∈ wsX3_restoreInto := by decide +kernel
  refine lv_aload_n hx hb dX3_restoreInto_0 rfl (lv_at hl 0 rfl) ?_
  refine lv_aload_n hx hb dX3_restoreInto_1 rfl (lv_at hl 0 rfl) ?_
  refine rg (v := .int (nI x)) (T := TX3) (N := 3) (C := RX3) hx hb hts hinX3 hown hK hP hH rfl 2 (by decide) (hts (.fieldLink RX3 18 "NeedleGrid$History" "next" "I") (by decide +kernel)) rfl dX3_restoreInto_2 ?_
  refine lv_if_le (tgt := 17) hx hb dX3_restoreInto_5 (by decide) (fun c5_0 => ?_) (fun c5_0 => ?_)
  · have q1 : ¬ 0 < x := by have := (nI_leL (n := 0) (i := x) rfl (by decide) (by omega)).mp c5_0; omega
    refine lv_iconst (v := 5) hx hb dX3_restoreInto_17 (by decide) ?_
    refine rp (v := 5) (ty := .int) (T := TX3) (N := 3) (C := RX3) hx hb hts hinX3 tyX3 tyX3_ok nmX3 hown hK hP hD hS hH rfl 2 (by decide) (hts (.fieldLink RX3 18 "NeedleGrid$History" "next" "I") (by decide +kernel)) rfl rfl (by decide +kernel) rfl rfl dX3_restoreInto_18 (fun s_2 H locs hH hf_3 hP hD hS => ?_)
    have hR := hR.keep hf_3 (by omega) (by decide)
    have hQr := (hf_3 _ (by omega)).trans hQr
    have hRg : ∀ i, i < 6 → isR E ad s_2 (96 + 16 * i) sG (Rg i) := fun i hi => (hRg i hi).keep hf_3 (by omega) (by decide)
    have hf : frU st s_2 := fun h h9 => (hf_3 h (by omega)).trans (hf h h9)
    refine lv_aload_n hx hb dX3_restoreInto_21 rfl (lv_at hl 0 rfl) ?_
    refine lv_dup hx hb dX3_restoreInto_22 rfl ?_
    refine rg (v := .int (nI a)) (T := TX3) (N := 3) (C := RX3) hx hb hts hinX3 hown hK hP hH rfl 1 (by decide) (hts (.fieldLink RX3 26 "NeedleGrid$History" "amount" "I") (by decide +kernel)) rfl dX3_restoreInto_23 ?_
    refine lv_iconst (v := 1) hx hb dX3_restoreInto_26 (by decide) ?_
    refine lv_isub hx hb dX3_restoreInto_27 ?_
    rw [nI_subL (c := a) (N := 1) (n := 1) rfl (by omega)]
    refine rp (v := nI (a - 1)) (ty := .int) (T := TX3) (N := 3) (C := RX3) hx hb hts hinX3 tyX3 tyX3_ok nmX3 hown hK hP hD hS hH rfl 1 (by decide) (hts (.fieldLink RX3 26 "NeedleGrid$History" "amount" "I") (by decide +kernel)) rfl rfl (by decide +kernel) rfl rfl dX3_restoreInto_28 (fun s_4 H locs hH hf_5 hP hD hS => ?_)
    have hR := hR.keep hf_5 (by omega) (by decide)
    have hQr := (hf_5 _ (by omega)).trans hQr
    have hRg : ∀ i, i < 6 → isR E ad s_4 (96 + 16 * i) sG (Rg i) := fun i hi => (hRg i hi).keep hf_5 (by omega) (by decide)
    have hf : frU st s_4 := fun h h9 => (hf_5 h (by omega)).trans (hf h h9)
    refine lv_aload_n hx hb dX3_restoreInto_31 rfl (lv_at hl 0 rfl) ?_
    refine rg (v := .ref (ad 12)) (T := TX3) (N := 3) (C := RX3) hx hb hts hinX3 hown hK hP hH rfl 0 (by decide) (hts (.fieldLink RX3 11 "NeedleGrid$History" "ring" "[LNeedleGrid$Grid;") (by decide +kernel)) rfl dX3_restoreInto_32 ?_
    refine lv_aload_n hx hb dX3_restoreInto_35 rfl (lv_at hl 0 rfl) ?_
    refine rg (v := .int 5) (T := TX3) (N := 3) (C := RX3) hx hb hts hinX3 hown hK hP hH rfl 2 (by decide) (hts (.fieldLink RX3 18 "NeedleGrid$History" "next" "I") (by decide +kernel)) rfl dX3_restoreInto_36 ?_
    refine raq (j := 5) hx hb hK hP hQr (by omega) dX3_restoreInto_39 ?_
    refine lv_astore_n (lv' := [(2, .ref (ad (96 + 16 * 5))), (0, .ref (ad 16)), (1, .ref (ad 64))]) hx hb dX3_restoreInto_40 rfl hl (by decide) rfl (fun ls hl => ?_)
    refine lv_aload_n hx hb dX3_restoreInto_41 rfl (lv_at hl 0 rfl) ?_
    refine lv_ifnull hx hb dX3_restoreInto_42 ?_
    refine lv_aload_n hx hb dX3_restoreInto_45 rfl (lv_at hl 2 rfl) ?_
    refine lv_aload_n hx hb dX3_restoreInto_46 rfl (lv_at hl 0 rfl) ?_
    have hQ := hRg 5 (by omega)
    refine nVv (As := [.ref (ad (96 + 16 * 5))]) (rest := _) hx hb hml hown hts hP hK hD hZ hA hS ⟨Nat.zero_le _, Nat.zero_le _⟩ hR.1 rfl (c_copyFrom l E ad s_4 64 (96 + 16 * 5) (by omega) G (Rg 5) hR hQ (hz 5 (by omega))) (cwV 1 hts gX3_restoreInto_X2_copyFrom rfl rfl rfl (by decide +kernel) ⟨Nat.le_of_ble_eq_true rfl, Nat.le_of_ble_eq_true rfl⟩) hl.1 rfl (Nat.le_of_ble_eq_true rfl) dX3_restoreInto_47 (fun s_7 H locs hq hP hD hS => ?_)
    obtain ⟨hR, hf_6⟩ := hq
    have hRg : ∀ i, i < 6 → isR E ad s_7 (96 + 16 * i) sG (Rg i) := fun i hi => (hRg i hi).keep hf_6 (by omega) (by decide)
    have hf : frU st s_7 := fun h h9 => (hf_6 h (by omega)).trans (hf h h9)
    have hH := hH.keep hf_6 (by omega) (by decide)
    have hQr := (hf_6 12 (by omega)).trans hQr
    exact hret _ _ _ _ _ hP hD hS (⟨hH.eq (all3 rfl rfl (by first | (rw [if_pos q1]; rfl) | (rw [if_neg q1]; rfl))), (by first | (rw [if_pos q1]; exact hR) | (rw [if_neg q1]; exact hR)), hRg, hf⟩) dX3_restoreInto_50
  · have q1 : 0 < x := by have := mt (nI_leL (n := 0) (i := x) rfl (by decide) (by omega)).mpr c5_0; omega
    refine lv_aload_n hx hb dX3_restoreInto_8 rfl (lv_at hl 0 rfl) ?_
    refine rg (v := .int (nI x)) (T := TX3) (N := 3) (C := RX3) hx hb hts hinX3 hown hK hP hH rfl 2 (by decide) (hts (.fieldLink RX3 18 "NeedleGrid$History" "next" "I") (by decide +kernel)) rfl dX3_restoreInto_9 ?_
    refine lv_iconst (v := 1) hx hb dX3_restoreInto_12 (by decide) ?_
    refine lv_isub hx hb dX3_restoreInto_13 ?_
    rw [nI_subL (c := x) (N := 1) (n := 1) rfl (by omega)]
    refine lv_goto (tgt := 18) hx hb dX3_restoreInto_14 (by decide) ?_
    refine rp (v := nI (x - 1)) (ty := .int) (T := TX3) (N := 3) (C := RX3) hx hb hts hinX3 tyX3 tyX3_ok nmX3 hown hK hP hD hS hH rfl 2 (by decide) (hts (.fieldLink RX3 18 "NeedleGrid$History" "next" "I") (by decide +kernel)) rfl rfl (by decide +kernel) rfl rfl dX3_restoreInto_18 (fun s_8 H locs hH hf_9 hP hD hS => ?_)
    have hR := hR.keep hf_9 (by omega) (by decide)
    have hQr := (hf_9 _ (by omega)).trans hQr
    have hRg : ∀ i, i < 6 → isR E ad s_8 (96 + 16 * i) sG (Rg i) := fun i hi => (hRg i hi).keep hf_9 (by omega) (by decide)
    have hf : frU st s_8 := fun h h9 => (hf_9 h (by omega)).trans (hf h h9)
    refine lv_aload_n hx hb dX3_restoreInto_21 rfl (lv_at hl 0 rfl) ?_
    refine lv_dup hx hb dX3_restoreInto_22 rfl ?_
    refine rg (v := .int (nI a)) (T := TX3) (N := 3) (C := RX3) hx hb hts hinX3 hown hK hP hH rfl 1 (by decide) (hts (.fieldLink RX3 26 "NeedleGrid$History" "amount" "I") (by decide +kernel)) rfl dX3_restoreInto_23 ?_
    refine lv_iconst (v := 1) hx hb dX3_restoreInto_26 (by decide) ?_
    refine lv_isub hx hb dX3_restoreInto_27 ?_
    rw [nI_subL (c := a) (N := 1) (n := 1) rfl (by omega)]
    refine rp (v := nI (a - 1)) (ty := .int) (T := TX3) (N := 3) (C := RX3) hx hb hts hinX3 tyX3 tyX3_ok nmX3 hown hK hP hD hS hH rfl 1 (by decide) (hts (.fieldLink RX3 26 "NeedleGrid$History" "amount" "I") (by decide +kernel)) rfl rfl (by decide +kernel) rfl rfl dX3_restoreInto_28 (fun s_10 H locs hH hf_11 hP hD hS => ?_)
    have hR := hR.keep hf_11 (by omega) (by decide)
    have hQr := (hf_11 _ (by omega)).trans hQr
    have hRg : ∀ i, i < 6 → isR E ad s_10 (96 + 16 * i) sG (Rg i) := fun i hi => (hRg i hi).keep hf_11 (by omega) (by decide)
    have hf : frU st s_10 := fun h h9 => (hf_11 h (by omega)).trans (hf h h9)
    refine lv_aload_n hx hb dX3_restoreInto_31 rfl (lv_at hl 0 rfl) ?_
    refine rg (v := .ref (ad 12)) (T := TX3) (N := 3) (C := RX3) hx hb hts hinX3 hown hK hP hH rfl 0 (by decide) (hts (.fieldLink RX3 11 "NeedleGrid$History" "ring" "[LNeedleGrid$Grid;") (by decide +kernel)) rfl dX3_restoreInto_32 ?_
    refine lv_aload_n hx hb dX3_restoreInto_35 rfl (lv_at hl 0 rfl) ?_
    refine rg (v := .int (nI (x - 1))) (T := TX3) (N := 3) (C := RX3) hx hb hts hinX3 hown hK hP hH rfl 2 (by decide) (hts (.fieldLink RX3 18 "NeedleGrid$History" "next" "I") (by decide +kernel)) rfl dX3_restoreInto_36 ?_
    refine raq (j := (x - 1)) hx hb hK hP hQr (by omega) dX3_restoreInto_39 ?_
    refine lv_astore_n (lv' := [(2, .ref (ad (96 + 16 * (x - 1)))), (0, .ref (ad 16)), (1, .ref (ad 64))]) hx hb dX3_restoreInto_40 rfl hl (by decide) rfl (fun ls hl => ?_)
    refine lv_aload_n hx hb dX3_restoreInto_41 rfl (lv_at hl 0 rfl) ?_
    refine lv_ifnull hx hb dX3_restoreInto_42 ?_
    refine lv_aload_n hx hb dX3_restoreInto_45 rfl (lv_at hl 2 rfl) ?_
    refine lv_aload_n hx hb dX3_restoreInto_46 rfl (lv_at hl 0 rfl) ?_
    have hQ := hRg (x - 1) (by omega)
    refine nVv (As := [.ref (ad (96 + 16 * (x - 1)))]) (rest := _) hx hb hml hown hts hP hK hD hZ hA hS ⟨Nat.zero_le _, Nat.zero_le _⟩ hR.1 rfl (c_copyFrom l E ad s_10 64 (96 + 16 * (x - 1)) (by omega) G (Rg (x - 1)) hR hQ (hz (x - 1) (by omega))) (cwV 1 hts gX3_restoreInto_X2_copyFrom rfl rfl rfl (by decide +kernel) ⟨Nat.le_of_ble_eq_true rfl, Nat.le_of_ble_eq_true rfl⟩) hl.1 rfl (Nat.le_of_ble_eq_true rfl) dX3_restoreInto_47 (fun s_13 H locs hq hP hD hS => ?_)
    obtain ⟨hR, hf_12⟩ := hq
    have hRg : ∀ i, i < 6 → isR E ad s_13 (96 + 16 * i) sG (Rg i) := fun i hi => (hRg i hi).keep hf_12 (by omega) (by decide)
    have hf : frU st s_13 := fun h h9 => (hf_12 h (by omega)).trans (hf h h9)
    have hH := hH.keep hf_12 (by omega) (by decide)
    have hQr := (hf_12 12 (by omega)).trans hQr
    exact hret _ _ _ _ _ hP hD hS (⟨hH.eq (all3 rfl rfl (by first | (rw [if_pos q1]; rfl) | (rw [if_neg q1]; rfl))), (by first | (rw [if_pos q1]; exact hR) | (rw [if_neg q1]; exact hR)), hRg, hf⟩) dX3_restoreInto_50

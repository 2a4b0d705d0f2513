set_option maxHeartbeats 4000000 in
set_option maxRecDepth 100000 in
theorem x_bar_n (l : Launch) (hlt : l.stackTraces = false) (E : NE) (ad : Nat → Nat) (st : NW) (N : Nat → Int32) (Rs : Nat → Nat → Int32) (a x : Nat) (C : Nat → Int32) (n : Nat) (ha : a ≤ 6) (hxx : x < 6) (hn : n ≤ 60) (hO : okH N) (hW : cW E ad st N Rs a x C n) (c : Nat) (hc : c < 36) (d : Nat) (t : Int32) (hd : d < 8) (h1 : ¬ t < 1) (h2 : t ≤ 50) (hb0 : gN N 4 c ≤ 0) (hb6 : 6 ≤ cnI (fun k => isB (gN N 4) k) 36) : nX l yX4_bar wsX4_bar (nRx 8 124) E ad st [.ref (ad 0), .int (nI c), .int (nI d), .int t] "java/lang/IllegalStateException" (fun s1 => st = s1) := by
  refine nSx (cc := cX4_bar) (maxL := 4) (by decide) rfl (Nat.le_of_ble_eq_true rfl) ?_
  intro pg en s mi ar bw mth cd R A ls hx hb hml hown hts hRm hP hK hD hZ hA hl hlocks htab
  subst hRm
  have hown : s.vm.findClass RX4 = some mi.cls := hown
  have hS : va_S A s.heap s.heap [] := va_S.rf
  have hl : lv_has ls 4 [(0, .ref (ad 0)), (1, .int (nI c)), (2, .int (nI d)), (3, .int t)] := hl
  obtain ⟨hN, hH, hQr, hT, ⟨R0, hB⟩, hR, ⟨Tr, hTr⟩, hRg⟩ := hW
  obtain ⟨G9, hGN⟩ : ∃ G9, G9 = gN N := ⟨_, rfl⟩
  rw [← hGN] at hR
  have hf : frX 0 208 st st := frX.rf
  rw [← hGN] at hb0 hb6
  have hinX2 : ∀ w ∈ wsX20, w ∈ wsX4_bar := by decide +kernel
  have hinX3 : ∀ w ∈ wsX30, w ∈ wsX4_bar := by decide +kernel
  have hinX4 : ∀ w ∈ wsX40, w ∈ wsX4_bar := by decide +kernel
  refine lv_iload_n hx hb dX4_bar_0 rfl (lv_at hl 1 rfl) ?_
  refine nS_v (As := [.int (nI c)]) (rest := _) hx hb hml hown hts hP hK hD hZ hA hS ⟨Nat.zero_le _, Nat.zero_le _⟩ (c_requireCell l E ad st c (by omega)) (va_cwS 1 hts gX4_bar_X4_requireCell rfl rfl rfl (by decide +kernel) ⟨Nat.le_of_ble_eq_true rfl, Nat.le_of_ble_eq_true rfl⟩) hl.1 rfl (Nat.le_of_ble_eq_true rfl) dX4_bar_1 (fun s_1 H locs hq hP hD hS => ?_)
  obtain rfl := hq
  refine lv_iload_n hx hb dX4_bar_4 rfl (lv_at hl 2 rfl) ?_
  refine nS_v (As := [.int (nI d)]) (rest := _) hx hb hml hown hts hP hK hD hZ hA hS ⟨Nat.zero_le _, Nat.zero_le _⟩ (c_requireDirection l E ad st d (by omega)) (va_cwS 1 hts gX4_bar_X4_requireDirection rfl rfl rfl (by decide +kernel) ⟨Nat.le_of_ble_eq_true rfl, Nat.le_of_ble_eq_true rfl⟩) hl.1 rfl (Nat.le_of_ble_eq_true rfl) dX4_bar_5 (fun s_2 H locs hq hP hD hS => ?_)
  obtain rfl := hq
  refine lv_iload_n hx hb dX4_bar_8 rfl (lv_at hl 3 rfl) ?_
  refine lv_iconst (v := 1) hx hb dX4_bar_9 (by decide) ?_
  refine lv_bipush (v := 50) hx hb dX4_bar_10 (by decide) ?_
  refine nS_v (As := [.int t, .int 1, .int 50]) (rest := _) hx hb hml hown hts hP hK hD hZ hA hS ⟨Nat.zero_le _, Nat.zero_le _⟩ (c_requireBetween l E ad st t 1 50 h1 h2) (va_cwS 3 hts gX4_bar_X4_requireBetween rfl rfl rfl (by decide +kernel) ⟨Nat.le_of_ble_eq_true rfl, Nat.le_of_ble_eq_true rfl⟩) hl.1 rfl (Nat.le_of_ble_eq_true rfl) dX4_bar_12 (fun s_3 H locs hq hP hD hS => ?_)
  obtain rfl := hq
  refine lv_aload_n hx hb dX4_bar_15 rfl (lv_at hl 0 rfl) ?_
  refine rg (v := .ref (ad 64)) (T := TX4) (N := 4) (C := RX4) hx hb hts hinX4 hown hK hP hN rfl 0 (by decide) (hts (.fieldLink RX4 12 "NeedleGrid" "now" "LNeedleGrid$Grid;") (by decide +kernel)) rfl dX4_bar_16 ?_
  refine lv_iload_n hx hb dX4_bar_19 rfl (lv_at hl 1 rfl) ?_
  refine nVi (As := [.int (nI c)]) (rest := _) hx hb hml hown hts hP hK hD hZ hA hS ⟨Nat.zero_le _, Nat.zero_le _⟩ hR.1 rfl (c_hasBar l E ad st 64 G9 hR c (by omega)) (cwV 1 hts gX4_bar_X2_hasBar rfl rfl rfl (by decide +kernel) ⟨Nat.le_of_ble_eq_true rfl, Nat.le_of_ble_eq_true rfl⟩) hl.1 rfl (Nat.le_of_ble_eq_true rfl) dX4_bar_20 (fun r_4 s_5 H locs hq hP hD hS => ?_)
  obtain ⟨hrr_4, rfl⟩ := hq
  refine lv_if_ne (tgt := 48) hx hb dX4_bar_23 (by decide) (fun c23_5 => absurd hb0 (b01_t hrr_4 c23_5)) (fun c23_5 => ?_)
  refine lv_aload_n hx hb dX4_bar_26 rfl (lv_at hl 0 rfl) ?_
  refine rg (v := .ref (ad 64)) (T := TX4) (N := 4) (C := RX4) hx hb hts hinX4 hown hK hP hN rfl 0 (by decide) (hts (.fieldLink RX4 12 "NeedleGrid" "now" "LNeedleGrid$Grid;") (by decide +kernel)) rfl dX4_bar_27 ?_
  refine nVi (As := []) (rest := _) hx hb hml hown hts hP hK hD hZ hA hS ⟨Nat.zero_le _, Nat.zero_le _⟩ hR.1 rfl (c_barCount l E ad st 64 G9 hR ) (cwV 0 hts gX4_bar_X2_barCount rfl rfl rfl (by decide +kernel) ⟨Nat.le_of_ble_eq_true rfl, Nat.le_of_ble_eq_true rfl⟩) hl.1 rfl (Nat.le_of_ble_eq_true rfl) dX4_bar_30 (fun r_7 s_8 H locs hq hP hD hS => ?_)
  obtain ⟨hrr_7, rfl⟩ := hq
  refine lv_bipush (v := 6) hx hb dX4_bar_33 (by decide) ?_
  refine lv_icmp_lt (tgt := 48) hx hb dX4_bar_35 (by decide) (fun c35_8 => absurd ((nI_ltL (n := 6) (i := cnI (fun k => isB (G9 4) k) 36) rfl (by decide) (by have := cnI_le (fun k => isB (G9 4) k) 36; omega)).mp (by rw [hrr_7] at c35_8; exact c35_8)) (by omega)) (fun c35_8 => ?_)
  obtain ⟨sa, hsa⟩ := hZ.2.2.2.2.1 (76, "there are 6 bars") (List.mem_of_getElem? (i := 6) rfl)
  exact nThr (Ec := "java/lang/IllegalStateException") (text := "there are 6 bars") (ik := 74) (is := 76) (ic := 78) (own := RX4) hx hb hlt hown (by decide +kernel) (hts (.classLink RX4 74 "java/lang/IllegalStateException") (by decide +kernel)) (hts (.initialized "java/lang/IllegalStateException") (by decide +kernel)) hsa (vx_hat (fun w9 h9 => hts w9 ((by decide +kernel : ∀ w8 ∈ (vx_atS RX4 78 "java/lang/IllegalStateException" nEx).filter goodWord, w8 ∈ wsX4_bar) w9 h9)) (by decide +kernel) (nXB hZ.2.2.2.2.2.1.2.2 hZ.2.2.2.2.2)) (by decide +kernel) hP hK hD hZ hS (hl.1.trans hml.symm) dX4_bar_38 dX4_bar_41 dX4_bar_42 dX4_bar_44 dX4_bar_47 htab rfl (by decide) (Nat.le_of_ble_eq_true rfl) hlocks rfl

set_option maxHeartbeats 4000000 in
set_option maxRecDepth 100000 in
theorem x_unbar_n (l : Launch) (hlt : l.stackTraces = false) (E : NE) (ad : Nat → Nat) (st : NW) (N : Nat → Int32) (Rs : Nat → Nat → Int32) (a x : Nat) (C : Nat → Int32) (n : Nat) (ha : a ≤ 6) (hxx : x < 6) (hn : n ≤ 60) (hO : okH N) (hW : cW E ad st N Rs a x C n) (c : Nat) (hc : c < 36) (hb0 : gN N 4 c ≤ 0) : nX l yX4_unbar wsX4_unbar (nRx 8 124) E ad st [.ref (ad 0), .int (nI c)] "java/lang/IllegalStateException" (fun s1 => st = s1) := by
  refine nSx (cc := cX4_unbar) (maxL := 2) (by decide) rfl (Nat.le_of_ble_eq_true rfl) ?_
  intro pg en s mi ar bw mth cd R A ls hx hb hml hown hts hRm hP hK hD hZ hA hl hlocks htab
  subst hRm
  have hown : s.vm.findClass RX4 = some mi.cls := hown
  have hS : va_S A s.heap s.heap [] := va_S.rf
  have hl : lv_has ls 2 [(0, .ref (ad 0)), (1, .int (nI c))] := hl
  obtain ⟨hN, hH, hQr, hT, ⟨R0, hB⟩, hR, ⟨Tr, hTr⟩, hRg⟩ := hW
  obtain ⟨G9, hGN⟩ : ∃ G9, G9 = gN N := ⟨_, rfl⟩
  rw [← hGN] at hR
  have hf : frX 0 208 st st := frX.rf
  rw [← hGN] at hb0
  have hinX2 : ∀ w ∈ wsX20, w ∈ wsX4_unbar := by decide +kernel
  have hinX3 : ∀ w ∈ wsX30, w ∈ wsX4_unbar := by decide +kernel
  have hinX4 : ∀ w ∈ wsX40, w ∈ wsX4_unbar := by decide +kernel
  refine lv_iload_n hx hb dX4_unbar_0 rfl (lv_at hl 1 rfl) ?_
  refine nS_v (As := [.int (nI c)]) (rest := _) hx hb hml hown hts hP hK hD hZ hA hS ⟨Nat.zero_le _, Nat.zero_le _⟩ (c_requireCell l E ad st c (by omega)) (va_cwS 1 hts gX4_unbar_X4_requireCell rfl rfl rfl (by decide +kernel) ⟨Nat.le_of_ble_eq_true rfl, Nat.le_of_ble_eq_true rfl⟩) hl.1 rfl (Nat.le_of_ble_eq_true rfl) dX4_unbar_1 (fun s_1 H locs hq hP hD hS => ?_)
  obtain rfl := hq
  refine lv_aload_n hx hb dX4_unbar_4 rfl (lv_at hl 0 rfl) ?_
  refine rg (v := .ref (ad 64)) (T := TX4) (N := 4) (C := RX4) hx hb hts hinX4 hown hK hP hN rfl 0 (by decide) (hts (.fieldLink RX4 12 "NeedleGrid" "now" "LNeedleGrid$Grid;") (by decide +kernel)) rfl dX4_unbar_5 ?_
  refine lv_iload_n hx hb dX4_unbar_8 rfl (lv_at hl 1 rfl) ?_
  refine nVi (As := [.int (nI c)]) (rest := _) hx hb hml hown hts hP hK hD hZ hA hS ⟨Nat.zero_le _, Nat.zero_le _⟩ hR.1 rfl (c_hasBar l E ad st 64 G9 hR c (by omega)) (cwV 1 hts gX4_unbar_X2_hasBar rfl rfl rfl (by decide +kernel) ⟨Nat.le_of_ble_eq_true rfl, Nat.le_of_ble_eq_true rfl⟩) hl.1 rfl (Nat.le_of_ble_eq_true rfl) dX4_unbar_9 (fun r_2 s_3 H locs hq hP hD hS => ?_)
  obtain ⟨hrr_2, rfl⟩ := hq
  refine lv_if_ne (tgt := 25) hx hb dX4_unbar_12 (by decide) (fun c12_3 => absurd hb0 (b01_t hrr_2 c12_3)) (fun c12_3 => ?_)
  obtain ⟨sa, hsa⟩ := hZ.2.2.2.2.1 (87, "no bar lies there") (List.mem_of_getElem? (i := 7) rfl)
  exact nThr (Ec := "java/lang/IllegalStateException") (text := "no bar lies there") (ik := 74) (is := 87) (ic := 78) (own := RX4) hx hb hlt hown (by decide +kernel) (hts (.classLink RX4 74 "java/lang/IllegalStateException") (by decide +kernel)) (hts (.initialized "java/lang/IllegalStateException") (by decide +kernel)) hsa (vx_hat (fun w9 h9 => hts w9 ((by decide +kernel : ∀ w8 ∈ (vx_atS RX4 78 "java/lang/IllegalStateException" nEx).filter goodWord, w8 ∈ wsX4_unbar) w9 h9)) (by decide +kernel) (nXB hZ.2.2.2.2.2.1.2.2 hZ.2.2.2.2.2)) (by decide +kernel) hP hK hD hZ hS (hl.1.trans hml.symm) dX4_unbar_15 dX4_unbar_18 dX4_unbar_19 dX4_unbar_21 dX4_unbar_24 htab rfl (by decide) (Nat.le_of_ble_eq_true rfl) hlocks rfl

set_option maxHeartbeats 4000000 in
set_option maxRecDepth 100000 in
theorem x_undo (l : Launch) (hlt : l.stackTraces = false) (E : NE) (ad : Nat → Nat) (st : NW) (N : Nat → Int32) (Rs : Nat → Nat → Int32) (a x : Nat) (C : Nat → Int32) (n : Nat) (ha : a ≤ 6) (hxx : x < 6) (hn : n ≤ 60) (hO : okH N) (hW : cW E ad st N Rs a x C n) (ha0 : a = 0) : nX l yX4_undo wsX4_undo (nRx 8 124) E ad st [.ref (ad 0)] "java/lang/IllegalStateException" (fun s1 => st = s1) := by
  refine nSx (cc := cX4_undo) (maxL := 1) (by decide) rfl (Nat.le_of_ble_eq_true rfl) ?_
  intro pg en s mi ar bw mth cd R A ls hx hb hml hown hts hRm hP hK hD hZ hA hl hlocks htab
  subst hRm
  have hown : s.vm.findClass RX4 = some mi.cls := hown
  have hS : va_S A s.heap s.heap [] := va_S.rf
  have hl : lv_has ls 1 [(0, .ref (ad 0))] := hl
  obtain ⟨hN, hH, hQr, hT, ⟨R0, hB⟩, hR, ⟨Tr, hTr⟩, hRg⟩ := hW
  obtain ⟨G9, hGN⟩ : ∃ G9, G9 = gN N := ⟨_, rfl⟩
  rw [← hGN] at hR
  have hf : frX 0 208 st st := frX.rf
  have hinX2 : ∀ w ∈ wsX20, w ∈ wsX4_undo := by decide +kernel
  have hinX3 : ∀ w ∈ wsX30, w ∈ wsX4_undo := by decide +kernel
  have hinX4 : ∀ w ∈ wsX40, w ∈ wsX4_undo := by decide +kernel
  refine lv_aload_n hx hb dX4_undo_0 rfl (lv_at hl 0 rfl) ?_
  refine rg (v := .ref (ad 16)) (T := TX4) (N := 4) (C := RX4) hx hb hts hinX4 hown hK hP hN rfl 2 (by decide) (hts (.fieldLink RX4 22 "NeedleGrid" "history" "LNeedleGrid$History;") (by decide +kernel)) rfl dX4_undo_1 ?_
  refine rgN (v := .int (nI a)) (T := TX3) (N := 3) (C := RX3) hx hb hts hinX3 hown hK hP hH rfl 1 (by decide) (nlF_138 hZ) rfl dX4_undo_4 ?_
  refine lv_if_ne (tgt := 20) hx hb dX4_undo_7 (by decide) (fun c7_0 => absurd (by rw [ha0]; rfl) c7_0) (fun c7_0 => ?_)
  obtain ⟨sa, hsa⟩ := hZ.2.2.2.2.1 (141, "there is no saved state") (List.mem_of_getElem? (i := 8) rfl)
  exact nThr (Ec := "java/lang/IllegalStateException") (text := "there is no saved state") (ik := 74) (is := 141) (ic := 78) (own := RX4) hx hb hlt hown (by decide +kernel) (hts (.classLink RX4 74 "java/lang/IllegalStateException") (by decide +kernel)) (hts (.initialized "java/lang/IllegalStateException") (by decide +kernel)) hsa (vx_hat (fun w9 h9 => hts w9 ((by decide +kernel : ∀ w8 ∈ (vx_atS RX4 78 "java/lang/IllegalStateException" nEx).filter goodWord, w8 ∈ wsX4_undo) w9 h9)) (by decide +kernel) (nXB hZ.2.2.2.2.2.1.2.2 hZ.2.2.2.2.2)) (by decide +kernel) hP hK hD hZ hS (hl.1.trans hml.symm) dX4_undo_10 dX4_undo_13 dX4_undo_14 dX4_undo_16 dX4_undo_19 htab rfl (by decide) (Nat.le_of_ble_eq_true rfl) hlocks rfl


set_option maxHeartbeats 4000000 in
set_option maxRecDepth 100000 in
theorem c_exch0 (l : Launch) (E : NE) (ad : Nat → Nat) (st : NW) (b : Nat) (G : Nat → Nat → Int32) (hR : isR E ad st b sG G) (c o : Nat) (hc : c < 36) (ho : o < 36) : nMv l yX4_exchange wsX4_exchange (nRm 0 0) E ad st [.ref (ad (b + 1 + 0)), .int (nI c), .int (nI o)] (fun s1 => isR E ad s1 b sG (gu G 0 (upd (upd (G 0) c (G 0 o)) o (G 0 c))) ∧ fr b st s1) := by
  refine nSv (cc := cX4_exchange) (maxL := 4) (by decide) rfl (Nat.le_of_ble_eq_true rfl) ?_
  intro pg en s mi ar bw mth cd R Q A ls hx hb hml hown hts hRm hP hK hD hZ hA hl hret
  subst hRm
  have hown : s.vm.findClass RX4 = some mi.cls := hown
  have hS : va_S A s.heap s.heap [] := va_S.rf
  have hl : lv_has ls 4 [(0, .ref (ad (b + 1 + 0))), (1, .int (nI c)), (2, .int (nI o))] := hl
  have hf : fr b st st := fr.rf
  refine lv_aload_n hx hb dX4_exchange_0 rfl (lv_at hl 0 rfl) ?_
  refine lv_iload_n hx hb dX4_exchange_1 rfl (lv_at hl 1 rfl) ?_
  refine ra (j := c) (n := 36) hx hb hK hP hR 0 rfl (by omega) (by decide) dX4_exchange_2 ?_
  refine lv_topi (fun x3_3 ex3_3 => ?_)
  refine lv_istore_n (lv' := [(3, .int x3_3), (0, .ref (ad (b + 1 + 0))), (1, .int (nI c)), (2, .int (nI o))]) hx hb dX4_exchange_3 rfl hl (by decide) rfl (fun ls hl => ?_)
  refine lv_aload_n hx hb dX4_exchange_4 rfl (lv_at hl 1 rfl) ?_
  refine lv_iload_n hx hb dX4_exchange_5 rfl (lv_at hl 2 rfl) ?_
  refine lv_aload_n hx hb dX4_exchange_6 rfl (lv_at hl 1 rfl) ?_
  refine lv_iload_n hx hb dX4_exchange_7 rfl (lv_at hl 3 rfl) ?_
  refine ra (j := o) (n := 36) hx hb hK hP hR 0 rfl (by omega) (by decide) dX4_exchange_8 ?_
  refine rs (j := c) (n := 36) (x := G 0 o) hx hb hK hP hD hS hR 0 rfl (by decide) (by omega) (by decide) dX4_exchange_9 (fun s_1 H locs hR hf_2 hP hD hS => ?_)
  have hf := hf.tr hf_2
  refine lv_aload_n hx hb dX4_exchange_10 rfl (lv_at hl 1 rfl) ?_
  refine lv_iload_n hx hb dX4_exchange_11 rfl (lv_at hl 3 rfl) ?_
  refine lv_iload_n hx hb dX4_exchange_12 rfl (lv_at hl 0 rfl) ?_
  refine rs (j := o) (n := 36) (x := x3_3) hx hb hK hP hD hS hR 0 rfl (by decide) (by omega) (by decide) dX4_exchange_13 (fun s_3 H locs hR hf_4 hP hD hS => ?_)
  have hf := hf.tr hf_4
  have hR : isR E ad s_3 b sG (gu G 0 (upd (upd (G 0) c (G 0 o)) o x3_3)) := hR.eq (all13 rfl rfl rfl rfl rfl rfl rfl rfl rfl rfl rfl rfl rfl)
  exact hret _ _ _ _ _ hP hD hS (⟨(by subst ex3_3; exact hR.eq (all13 rfl rfl rfl rfl rfl rfl rfl rfl rfl rfl rfl rfl rfl)), hf⟩) dX4_exchange_14

set_option maxHeartbeats 4000000 in
set_option maxRecDepth 100000 in
theorem c_exch1 (l : Launch) (E : NE) (ad : Nat → Nat) (st : NW) (b : Nat) (G : Nat → Nat → Int32) (hR : isR E ad st b sG G) (c o : Nat) (hc : c < 36) (ho : o < 36) : nMv l yX4_exchange wsX4_exchange (nRm 0 0) E ad st [.ref (ad (b + 1 + 1)), .int (nI c), .int (nI o)] (fun s1 => isR E ad s1 b sG (gu G 1 (upd (upd (G 1) c (G 1 o)) o (G 1 c))) ∧ fr b st s1) := by
  refine nSv (cc := cX4_exchange) (maxL := 4) (by decide) rfl (Nat.le_of_ble_eq_true rfl) ?_
  intro pg en s mi ar bw mth cd R Q A ls hx hb hml hown hts hRm hP hK hD hZ hA hl hret
  subst hRm
  have hown : s.vm.findClass RX4 = some mi.cls := hown
  have hS : va_S A s.heap s.heap [] := va_S.rf
  have hl : lv_has ls 4 [(0, .ref (ad (b + 1 + 1))), (1, .int (nI c)), (2, .int (nI o))] := hl
  have hf : fr b st st := fr.rf
  refine lv_aload_n hx hb dX4_exchange_0 rfl (lv_at hl 0 rfl) ?_
  refine lv_iload_n hx hb dX4_exchange_1 rfl (lv_at hl 1 rfl) ?_
  refine ra (j := c) (n := 36) hx hb hK hP hR 1 rfl (by omega) (by decide) dX4_exchange_2 ?_
  refine lv_topi (fun x3_3 ex3_3 => ?_)
  refine lv_istore_n (lv' := [(3, .int x3_3), (0, .ref (ad (b + 1 + 1))), (1, .int (nI c)), (2, .int (nI o))]) hx hb dX4_exchange_3 rfl hl (by decide) rfl (fun ls hl => ?_)
  refine lv_aload_n hx hb dX4_exchange_4 rfl (lv_at hl 1 rfl) ?_
  refine lv_iload_n hx hb dX4_exchange_5 rfl (lv_at hl 2 rfl) ?_
  refine lv_aload_n hx hb dX4_exchange_6 rfl (lv_at hl 1 rfl) ?_
  refine lv_iload_n hx hb dX4_exchange_7 rfl (lv_at hl 3 rfl) ?_
  refine ra (j := o) (n := 36) hx hb hK hP hR 1 rfl (by omega) (by decide) dX4_exchange_8 ?_
  refine rs (j := c) (n := 36) (x := G 1 o) hx hb hK hP hD hS hR 1 rfl (by decide) (by omega) (by decide) dX4_exchange_9 (fun s_1 H locs hR hf_2 hP hD hS => ?_)
  have hf := hf.tr hf_2
  refine lv_aload_n hx hb dX4_exchange_10 rfl (lv_at hl 1 rfl) ?_
  refine lv_iload_n hx hb dX4_exchange_11 rfl (lv_at hl 3 rfl) ?_
  refine lv_iload_n hx hb dX4_exchange_12 rfl (lv_at hl 0 rfl) ?_
  refine rs (j := o) (n := 36) (x := x3_3) hx hb hK hP hD hS hR 1 rfl (by decide) (by omega) (by decide) dX4_exchange_13 (fun s_3 H locs hR hf_4 hP hD hS => ?_)
  have hf := hf.tr hf_4
  have hR : isR E ad s_3 b sG (gu G 1 (upd (upd (G 1) c (G 1 o)) o x3_3)) := hR.eq (all13 rfl rfl rfl rfl rfl rfl rfl rfl rfl rfl rfl rfl rfl)
  exact hret _ _ _ _ _ hP hD hS (⟨(by subst ex3_3; exact hR.eq (all13 rfl rfl rfl rfl rfl rfl rfl rfl rfl rfl rfl rfl rfl)), hf⟩) dX4_exchange_14

set_option maxHeartbeats 4000000 in
set_option maxRecDepth 100000 in
theorem c_needle (l : Launch) (E : NE) (ad : Nat → Nat) (st : NW) (N : Nat → Int32) (Rs : Nat → Nat → Int32) (a x : Nat) (C : Nat → Int32) (n : Nat) (ha : a ≤ 6) (hxx : x < 6) (hn : n ≤ 60) (hO : okH N) (hW : cW E ad st N Rs a x C n) (c d : Nat) (hc : c < 36) (hd : d < 8) : nMi l yX4_needle wsX4_needle (nRm 3 68) E ad st [.ref (ad 0), .int (nI c), .int (nI d)] (fun r s1 => r = N (6 + c) ∧ cW E ad s1 (upd N (6 + c) (nI d)) (svR N Rs x) (svA a) (svX x) C n ∧ frX 0 208 st s1) := by
  refine nSi (cc := cX4_needle) (maxL := 4) (by decide) rfl (Nat.le_of_ble_eq_true rfl) ?_
  intro pg en s mi ar bw mth cd R Q A ls hx hb hml hown hts hRm hP hK hD hZ hA hl hret
  subst hRm
  have hown : s.vm.findClass RX4 = some mi.cls := hown
  have hS : va_S A s.heap s.heap [] := va_S.rf
  have hl : lv_has ls 4 [(0, .ref (ad 0)), (1, .int (nI c)), (2, .int (nI d))] := hl
  obtain ⟨hN, hH, hQr, hT, ⟨R0, hB⟩, hR, ⟨Tr, hTr⟩, hRg⟩ := hW
  obtain ⟨G9, hGN⟩ : ∃ G9, G9 = gN N := ⟨_, rfl⟩
  rw [← hGN] at hR
  have hf : frX 0 208 st st := frX.rf
  have hinX2 : ∀ w ∈ wsX20, w ∈ wsX4_needle := by decide +kernel
  have hinX3 : ∀ w ∈ wsX30, w ∈ wsX4_needle := by decide +kernel
  have hinX4 : ∀ w ∈ wsX40, w ∈ wsX4_needle := by decide +kernel
  refine lv_iload_n hx hb dX4_needle_0 rfl (lv_at hl 1 rfl) ?_
  refine nS_v (As := [.int (nI c)]) (rest := _) hx hb hml hown hts hP hK hD hZ hA hS ⟨Nat.zero_le _, Nat.zero_le _⟩ (c_requireCell l E ad st c (by omega)) (va_cwS 1 hts gX4_needle_X4_requireCell rfl rfl rfl (by decide +kernel) ⟨Nat.le_of_ble_eq_true rfl, Nat.le_of_ble_eq_true rfl⟩) hl.1 rfl (Nat.le_of_ble_eq_true rfl) dX4_needle_1 (fun s_1 H locs hq hP hD hS => ?_)
  obtain rfl := hq
  refine lv_iload_n hx hb dX4_needle_4 rfl (lv_at hl 2 rfl) ?_
  refine nS_v (As := [.int (nI d)]) (rest := _) hx hb hml hown hts hP hK hD hZ hA hS ⟨Nat.zero_le _, Nat.zero_le _⟩ (c_requireDirection l E ad st d (by omega)) (va_cwS 1 hts gX4_needle_X4_requireDirection rfl rfl rfl (by decide +kernel) ⟨Nat.le_of_ble_eq_true rfl, Nat.le_of_ble_eq_true rfl⟩) hl.1 rfl (Nat.le_of_ble_eq_true rfl) dX4_needle_5 (fun s_2 H locs hq hP hD hS => ?_)
  obtain rfl := hq
  refine lv_aload_n hx hb dX4_needle_8 rfl (lv_at hl 0 rfl) ?_
  refine rg (v := .ref (ad 16)) (T := TX4) (N := 4) (C := RX4) hx hb hts hinX4 hown hK hP hN rfl 2 (by decide) (hts (.fieldLink RX4 22 "NeedleGrid" "history" "LNeedleGrid$History;") (by decide +kernel)) rfl dX4_needle_9 ?_
  refine lv_aload_n hx hb dX4_needle_12 rfl (lv_at hl 0 rfl) ?_
  refine rg (v := .ref (ad 64)) (T := TX4) (N := 4) (C := RX4) hx hb hts hinX4 hown hK hP hN rfl 0 (by decide) (hts (.fieldLink RX4 12 "NeedleGrid" "now" "LNeedleGrid$Grid;") (by decide +kernel)) rfl dX4_needle_13 ?_
  refine nVv (As := [.ref (ad 64)]) (rest := _) hx hb hml hown hts hP hK hD hZ hA hS ⟨Nat.zero_le _, Nat.zero_le _⟩ hH.1 rfl (c_save l E ad st a x ha hxx (fun i => gN (Rs i)) G9 (by rw [hGN]; exact hO.g) hH hQr hRg hR) (cwV 1 hts gX4_needle_X3_save rfl rfl rfl (by decide +kernel) ⟨Nat.le_of_ble_eq_true rfl, Nat.le_of_ble_eq_true rfl⟩) hl.1 rfl (Nat.le_of_ble_eq_true rfl) dX4_needle_16 (fun s_3 H locs hq hP hD hS => ?_)
  obtain ⟨hW, hfS⟩ := saveW ⟨hN, hH, hQr, hT, ⟨_, hB⟩, (by rw [← hGN]; exact hR), ⟨Tr, hTr⟩, hRg⟩ hq.1 (by have h9 := hq.2.1; rw [hGN] at h9; exact h9) hq.2.2
  obtain ⟨hN, hH, hQr, hT, ⟨R0, hB⟩, hR, ⟨Tr, hTr⟩, hRg⟩ := hW
  rw [← hGN] at hR
  have hf : frX 0 208 st s_3 := fun k9 h9 => (hfS k9 h9).trans (hf k9 h9)
  refine lv_aload_n hx hb dX4_needle_19 rfl (lv_at hl 0 rfl) ?_
  refine rg (v := .ref (ad 64)) (T := TX4) (N := 4) (C := RX4) hx hb hts hinX4 hown hK hP hN rfl 0 (by decide) (hts (.fieldLink RX4 12 "NeedleGrid" "now" "LNeedleGrid$Grid;") (by decide +kernel)) rfl dX4_needle_20 ?_
  refine rgN (v := .ref (ad (64 + 1 + 0))) (T := TX2) (N := 13) (C := RX2) hx hb hts hinX2 hown hK hP hR rfl 0 (by decide) (nlF_44 hZ) rfl dX4_needle_23 ?_
  refine lv_iload_n hx hb dX4_needle_26 rfl (lv_at hl 1 rfl) ?_
  refine ra (j := c) (n := 36) hx hb hK hP hR 0 rfl (by omega) (by decide) dX4_needle_27 ?_
  refine lv_topi (fun x3_28 ex3_28 => ?_)
  refine lv_istore_n (lv' := [(3, .int x3_28), (0, .ref (ad 0)), (1, .int (nI c)), (2, .int (nI d))]) hx hb dX4_needle_28 rfl hl (by decide) rfl (fun ls hl => ?_)
  refine lv_aload_n hx hb dX4_needle_29 rfl (lv_at hl 1 rfl) ?_
  refine rg (v := .ref (ad 64)) (T := TX4) (N := 4) (C := RX4) hx hb hts hinX4 hown hK hP hN rfl 0 (by decide) (hts (.fieldLink RX4 12 "NeedleGrid" "now" "LNeedleGrid$Grid;") (by decide +kernel)) rfl dX4_needle_30 ?_
  refine rgN (v := .ref (ad (64 + 1 + 0))) (T := TX2) (N := 13) (C := RX2) hx hb hts hinX2 hown hK hP hR rfl 0 (by decide) (nlF_44 hZ) rfl dX4_needle_33 ?_
  refine lv_iload_n hx hb dX4_needle_36 rfl (lv_at hl 2 rfl) ?_
  refine lv_iload_n hx hb dX4_needle_37 rfl (lv_at hl 3 rfl) ?_
  refine rs (j := c) (n := 36) (x := nI d) hx hb hK hP hD hS hR 0 rfl (by decide) (by omega) (by decide) dX4_needle_38 (fun s_4 H locs hR hf_5 hP hD hS => ?_)
  have hN := hN.keep hf_5 (by omega) (by decide)
  have hH := hH.keep hf_5 (by omega) (by decide)
  have hQr := (hf_5 _ (by omega)).trans hQr
  have hT := hT.keep hf_5 (by omega) (by decide)
  have hB := hB.keep hf_5 (by omega) (by decide)
  have hTr := hTr.keep hf_5 (by omega) (by decide)
  have hRg : ∀ i, i < 6 → isR E ad s_4 (96 + 16 * i) sG (gN ((svR N Rs x) i)) := fun i hi => (hRg i hi).keep hf_5 (by omega) (by decide)
  have hf := hf.tr1 hf_5 (by omega) (by omega)
  refine lv_aload_n hx hb dX4_needle_39 rfl (lv_at hl 1 rfl) ?_
  refine rg (v := .ref (ad 64)) (T := TX4) (N := 4) (C := RX4) hx hb hts hinX4 hown hK hP hN rfl 0 (by decide) (hts (.fieldLink RX4 12 "NeedleGrid" "now" "LNeedleGrid$Grid;") (by decide +kernel)) rfl dX4_needle_40 ?_
  refine nVv (As := []) (rest := _) hx hb hml hown hts hP hK hD hZ hA hS ⟨Nat.zero_le _, Nat.zero_le _⟩ hR.1 rfl (c_measureField l E ad s_4 64 (gu G9 0 (upd (G9 0) c (nI d))) hR ) (cwV 0 hts gX4_needle_X2_measureField rfl rfl rfl (by decide +kernel) ⟨Nat.le_of_ble_eq_true rfl, Nat.le_of_ble_eq_true rfl⟩) hl.1 rfl (Nat.le_of_ble_eq_true rfl) dX4_needle_43 (fun s_8 H locs hq hP hD hS => ?_)
  obtain ⟨hR, hf_7⟩ := hq
  have hN := hN.keep hf_7 (by omega) (by decide)
  have hH := hH.keep hf_7 (by omega) (by decide)
  have hQr := (hf_7 _ (by omega)).trans hQr
  have hT := hT.keep hf_7 (by omega) (by decide)
  have hB := hB.keep hf_7 (by omega) (by decide)
  have hTr := hTr.keep hf_7 (by omega) (by decide)
  have hRg : ∀ i, i < 6 → isR E ad s_8 (96 + 16 * i) sG (gN ((svR N Rs x) i)) := fun i hi => (hRg i hi).keep hf_7 (by omega) (by decide)
  have hf := hf.tr1 hf_7 (by omega) (by omega)
  refine lv_iload_n hx hb dX4_needle_46 rfl (lv_at hl 0 rfl) ?_
  exact hret _ _ _ _ _ _ hP hD hS (⟨by subst ex3_28; rw [hGN]; exact gN0 hc, ⟨hN, hH, hQr, hT, ⟨_, hB⟩, (by rw [← gN_needle hc, ← hGN]; exact hR), ⟨_, hTr⟩, hRg⟩, hf⟩) dX4_needle_47

set_option maxHeartbeats 4000000 in
set_option maxRecDepth 100000 in
theorem c_friction (l : Launch) (E : NE) (ad : Nat → Nat) (st : NW) (N : Nat → Int32) (Rs : Nat → Nat → Int32) (a x : Nat) (C : Nat → Int32) (n : Nat) (ha : a ≤ 6) (hxx : x < 6) (hn : n ≤ 60) (hO : okH N) (hW : cW E ad st N Rs a x C n) (c : Nat) (v : Int32) (hc : c < 36) (h1 : ¬ v < 0) (h2 : v ≤ 999) : nMi l yX4_friction wsX4_friction (nRm 2 44) E ad st [.ref (ad 0), .int (nI c), .int v] (fun r s1 => r = N (42 + c) ∧ cW E ad s1 (upd N (42 + c) v) (svR N Rs x) (svA a) (svX x) C n ∧ frX 0 208 st s1) := by
  refine nSi (cc := cX4_friction) (maxL := 4) (by decide) rfl (Nat.le_of_ble_eq_true rfl) ?_
  intro pg en s mi ar bw mth cd R Q A ls hx hb hml hown hts hRm hP hK hD hZ hA hl hret
  subst hRm
  have hown : s.vm.findClass RX4 = some mi.cls := hown
  have hS : va_S A s.heap s.heap [] := va_S.rf
  have hl : lv_has ls 4 [(0, .ref (ad 0)), (1, .int (nI c)), (2, .int v)] := hl
  obtain ⟨hN, hH, hQr, hT, ⟨R0, hB⟩, hR, ⟨Tr, hTr⟩, hRg⟩ := hW
  obtain ⟨G9, hGN⟩ : ∃ G9, G9 = gN N := ⟨_, rfl⟩
  rw [← hGN] at hR
  have hf : frX 0 208 st st := frX.rf
  have hinX2 : ∀ w ∈ wsX20, w ∈ wsX4_friction := by decide +kernel
  have hinX3 : ∀ w ∈ wsX30, w ∈ wsX4_friction := by decide +kernel
  have hinX4 : ∀ w ∈ wsX40, w ∈ wsX4_friction := by decide +kernel
  refine lv_iload_n hx hb dX4_friction_0 rfl (lv_at hl 1 rfl) ?_
  refine nS_v (As := [.int (nI c)]) (rest := _) hx hb hml hown hts hP hK hD hZ hA hS ⟨Nat.zero_le _, Nat.zero_le _⟩ (c_requireCell l E ad st c (by omega)) (va_cwS 1 hts gX4_friction_X4_requireCell rfl rfl rfl (by decide +kernel) ⟨Nat.le_of_ble_eq_true rfl, Nat.le_of_ble_eq_true rfl⟩) hl.1 rfl (Nat.le_of_ble_eq_true rfl) dX4_friction_1 (fun s_1 H locs hq hP hD hS => ?_)
  obtain rfl := hq
  refine lv_iload_n hx hb dX4_friction_4 rfl (lv_at hl 2 rfl) ?_
  refine lv_iconst (v := 0) hx hb dX4_friction_5 (by decide) ?_
  refine lv_sipush (v := 999) hx hb dX4_friction_6 (by decide) ?_
  refine nS_v (As := [.int v, .int 0, .int 999]) (rest := _) hx hb hml hown hts hP hK hD hZ hA hS ⟨Nat.zero_le _, Nat.zero_le _⟩ (c_requireBetween l E ad st v 0 999 h1 h2) (va_cwS 3 hts gX4_friction_X4_requireBetween rfl rfl rfl (by decide +kernel) ⟨Nat.le_of_ble_eq_true rfl, Nat.le_of_ble_eq_true rfl⟩) hl.1 rfl (Nat.le_of_ble_eq_true rfl) dX4_friction_9 (fun s_2 H locs hq hP hD hS => ?_)
  obtain rfl := hq
  refine lv_aload_n hx hb dX4_friction_12 rfl (lv_at hl 0 rfl) ?_
  refine rg (v := .ref (ad 16)) (T := TX4) (N := 4) (C := RX4) hx hb hts hinX4 hown hK hP hN rfl 2 (by decide) (hts (.fieldLink RX4 22 "NeedleGrid" "history" "LNeedleGrid$History;") (by decide +kernel)) rfl dX4_friction_13 ?_
  refine lv_aload_n hx hb dX4_friction_16 rfl (lv_at hl 0 rfl) ?_
  refine rg (v := .ref (ad 64)) (T := TX4) (N := 4) (C := RX4) hx hb hts hinX4 hown hK hP hN rfl 0 (by decide) (hts (.fieldLink RX4 12 "NeedleGrid" "now" "LNeedleGrid$Grid;") (by decide +kernel)) rfl dX4_friction_17 ?_
  refine nVv (As := [.ref (ad 64)]) (rest := _) hx hb hml hown hts hP hK hD hZ hA hS ⟨Nat.zero_le _, Nat.zero_le _⟩ hH.1 rfl (c_save l E ad st a x ha hxx (fun i => gN (Rs i)) G9 (by rw [hGN]; exact hO.g) hH hQr hRg hR) (cwV 1 hts gX4_friction_X3_save rfl rfl rfl (by decide +kernel) ⟨Nat.le_of_ble_eq_true rfl, Nat.le_of_ble_eq_true rfl⟩) hl.1 rfl (Nat.le_of_ble_eq_true rfl) dX4_friction_20 (fun s_3 H locs hq hP hD hS => ?_)
  obtain ⟨hW, hfS⟩ := saveW ⟨hN, hH, hQr, hT, ⟨_, hB⟩, (by rw [← hGN]; exact hR), ⟨Tr, hTr⟩, hRg⟩ hq.1 (by have h9 := hq.2.1; rw [hGN] at h9; exact h9) hq.2.2
  obtain ⟨hN, hH, hQr, hT, ⟨R0, hB⟩, hR, ⟨Tr, hTr⟩, hRg⟩ := hW
  rw [← hGN] at hR
  have hf : frX 0 208 st s_3 := fun k9 h9 => (hfS k9 h9).trans (hf k9 h9)
  refine lv_aload_n hx hb dX4_friction_23 rfl (lv_at hl 0 rfl) ?_
  refine rg (v := .ref (ad 64)) (T := TX4) (N := 4) (C := RX4) hx hb hts hinX4 hown hK hP hN rfl 0 (by decide) (hts (.fieldLink RX4 12 "NeedleGrid" "now" "LNeedleGrid$Grid;") (by decide +kernel)) rfl dX4_friction_24 ?_
  refine rgN (v := .ref (ad (64 + 1 + 1))) (T := TX2) (N := 13) (C := RX2) hx hb hts hinX2 hown hK hP hR rfl 1 (by decide) (nlF_55 hZ) rfl dX4_friction_27 ?_
  refine lv_iload_n hx hb dX4_friction_30 rfl (lv_at hl 1 rfl) ?_
  refine ra (j := c) (n := 36) hx hb hK hP hR 1 rfl (by omega) (by decide) dX4_friction_31 ?_
  refine lv_topi (fun x3_32 ex3_32 => ?_)
  refine lv_istore_n (lv' := [(3, .int x3_32), (0, .ref (ad 0)), (1, .int (nI c)), (2, .int v)]) hx hb dX4_friction_32 rfl hl (by decide) rfl (fun ls hl => ?_)
  refine lv_aload_n hx hb dX4_friction_33 rfl (lv_at hl 1 rfl) ?_
  refine rg (v := .ref (ad 64)) (T := TX4) (N := 4) (C := RX4) hx hb hts hinX4 hown hK hP hN rfl 0 (by decide) (hts (.fieldLink RX4 12 "NeedleGrid" "now" "LNeedleGrid$Grid;") (by decide +kernel)) rfl dX4_friction_34 ?_
  refine rgN (v := .ref (ad (64 + 1 + 1))) (T := TX2) (N := 13) (C := RX2) hx hb hts hinX2 hown hK hP hR rfl 1 (by decide) (nlF_55 hZ) rfl dX4_friction_37 ?_
  refine lv_iload_n hx hb dX4_friction_40 rfl (lv_at hl 2 rfl) ?_
  refine lv_iload_n hx hb dX4_friction_41 rfl (lv_at hl 3 rfl) ?_
  refine rs (j := c) (n := 36) (x := v) hx hb hK hP hD hS hR 1 rfl (by decide) (by omega) (by decide) dX4_friction_42 (fun s_4 H locs hR hf_5 hP hD hS => ?_)
  have hN := hN.keep hf_5 (by omega) (by decide)
  have hH := hH.keep hf_5 (by omega) (by decide)
  have hQr := (hf_5 _ (by omega)).trans hQr
  have hT := hT.keep hf_5 (by omega) (by decide)
  have hB := hB.keep hf_5 (by omega) (by decide)
  have hTr := hTr.keep hf_5 (by omega) (by decide)
  have hRg : ∀ i, i < 6 → isR E ad s_4 (96 + 16 * i) sG (gN ((svR N Rs x) i)) := fun i hi => (hRg i hi).keep hf_5 (by omega) (by decide)
  have hf := hf.tr1 hf_5 (by omega) (by omega)
  refine lv_iload_n hx hb dX4_friction_43 rfl (lv_at hl 0 rfl) ?_
  exact hret _ _ _ _ _ _ hP hD hS (⟨by subst ex3_32; rw [hGN]; exact gN1 hc, ⟨hN, hH, hQr, hT, ⟨_, hB⟩, (by rw [← gN_friction hc, ← hGN]; exact hR), ⟨_, hTr⟩, hRg⟩, hf⟩) dX4_friction_44

set_option maxHeartbeats 4000000 in
set_option maxRecDepth 100000 in
theorem c_hold (l : Launch) (E : NE) (ad : Nat → Nat) (st : NW) (N : Nat → Int32) (Rs : Nat → Nat → Int32) (a x : Nat) (C : Nat → Int32) (n : Nat) (ha : a ≤ 6) (hxx : x < 6) (hn : n ≤ 60) (hO : okH N) (hW : cW E ad st N Rs a x C n) (c : Nat) (v : Int32) (hc : c < 36) (hv : v = 0 ∨ v = 1) : nMi l yX4_hold wsX4_hold (nRm 2 44) E ad st [.ref (ad 0), .int (nI c), .int v] (fun r s1 => r = N (78 + c) ∧ cW E ad s1 (upd N (78 + c) v) (svR N Rs x) (svA a) (svX x) C n ∧ frX 0 208 st s1) := by
  refine nSi (cc := cX4_hold) (maxL := 4) (by decide) rfl (Nat.le_of_ble_eq_true rfl) ?_
  intro pg en s mi ar bw mth cd R Q A ls hx hb hml hown hts hRm hP hK hD hZ hA hl hret
  subst hRm
  have hown : s.vm.findClass RX4 = some mi.cls := hown
  have hS : va_S A s.heap s.heap [] := va_S.rf
  have hl : lv_has ls 4 [(0, .ref (ad 0)), (1, .int (nI c)), (2, .int v)] := hl
  obtain ⟨hN, hH, hQr, hT, ⟨R0, hB⟩, hR, ⟨Tr, hTr⟩, hRg⟩ := hW
  obtain ⟨G9, hGN⟩ : ∃ G9, G9 = gN N := ⟨_, rfl⟩
  rw [← hGN] at hR
  have hf : frX 0 208 st st := frX.rf
  have hinX2 : ∀ w ∈ wsX20, w ∈ wsX4_hold := by decide +kernel
  have hinX3 : ∀ w ∈ wsX30, w ∈ wsX4_hold := by decide +kernel
  have hinX4 : ∀ w ∈ wsX40, w ∈ wsX4_hold := by decide +kernel
  refine lv_iload_n hx hb dX4_hold_0 rfl (lv_at hl 1 rfl) ?_
  refine nS_v (As := [.int (nI c)]) (rest := _) hx hb hml hown hts hP hK hD hZ hA hS ⟨Nat.zero_le _, Nat.zero_le _⟩ (c_requireCell l E ad st c (by omega)) (va_cwS 1 hts gX4_hold_X4_requireCell rfl rfl rfl (by decide +kernel) ⟨Nat.le_of_ble_eq_true rfl, Nat.le_of_ble_eq_true rfl⟩) hl.1 rfl (Nat.le_of_ble_eq_true rfl) dX4_hold_1 (fun s_1 H locs hq hP hD hS => ?_)
  obtain rfl := hq
  refine lv_aload_n hx hb dX4_hold_4 rfl (lv_at hl 0 rfl) ?_
  refine rg (v := .ref (ad 16)) (T := TX4) (N := 4) (C := RX4) hx hb hts hinX4 hown hK hP hN rfl 2 (by decide) (hts (.fieldLink RX4 22 "NeedleGrid" "history" "LNeedleGrid$History;") (by decide +kernel)) rfl dX4_hold_5 ?_
  refine lv_aload_n hx hb dX4_hold_8 rfl (lv_at hl 0 rfl) ?_
  refine rg (v := .ref (ad 64)) (T := TX4) (N := 4) (C := RX4) hx hb hts hinX4 hown hK hP hN rfl 0 (by decide) (hts (.fieldLink RX4 12 "NeedleGrid" "now" "LNeedleGrid$Grid;") (by decide +kernel)) rfl dX4_hold_9 ?_
  refine nVv (As := [.ref (ad 64)]) (rest := _) hx hb hml hown hts hP hK hD hZ hA hS ⟨Nat.zero_le _, Nat.zero_le _⟩ hH.1 rfl (c_save l E ad st a x ha hxx (fun i => gN (Rs i)) G9 (by rw [hGN]; exact hO.g) hH hQr hRg hR) (cwV 1 hts gX4_hold_X3_save rfl rfl rfl (by decide +kernel) ⟨Nat.le_of_ble_eq_true rfl, Nat.le_of_ble_eq_true rfl⟩) hl.1 rfl (Nat.le_of_ble_eq_true rfl) dX4_hold_12 (fun s_2 H locs hq hP hD hS => ?_)
  obtain ⟨hW, hfS⟩ := saveW ⟨hN, hH, hQr, hT, ⟨_, hB⟩, (by rw [← hGN]; exact hR), ⟨Tr, hTr⟩, hRg⟩ hq.1 (by have h9 := hq.2.1; rw [hGN] at h9; exact h9) hq.2.2
  obtain ⟨hN, hH, hQr, hT, ⟨R0, hB⟩, hR, ⟨Tr, hTr⟩, hRg⟩ := hW
  rw [← hGN] at hR
  have hf : frX 0 208 st s_2 := fun k9 h9 => (hfS k9 h9).trans (hf k9 h9)
  refine lv_aload_n hx hb dX4_hold_15 rfl (lv_at hl 0 rfl) ?_
  refine rg (v := .ref (ad 64)) (T := TX4) (N := 4) (C := RX4) hx hb hts hinX4 hown hK hP hN rfl 0 (by decide) (hts (.fieldLink RX4 12 "NeedleGrid" "now" "LNeedleGrid$Grid;") (by decide +kernel)) rfl dX4_hold_16 ?_
  refine rgN (v := .ref (ad (64 + 1 + 2))) (T := TX2) (N := 13) (C := RX2) hx hb hts hinX2 hown hK hP hR rfl 2 (by decide) (nlF_58 hZ) rfl dX4_hold_19 ?_
  refine lv_iload_n hx hb dX4_hold_22 rfl (lv_at hl 1 rfl) ?_
  refine raZ (j := c) (n := 36) hx hb hK hP hR 2 rfl (by omega) (by decide) dX4_hold_23 ?_
  refine lv_if_eq (tgt := 31) hx hb dX4_hold_24 (by decide) (fun c24_2 => ?_) (fun c24_2 => ?_)
  · refine lv_iconst (v := 0) hx hb dX4_hold_31 (by decide) ?_
    refine lv_istore_n (lv' := [(3, .int 0), (0, .ref (ad 0)), (1, .int (nI c)), (2, .int v)]) hx hb dX4_hold_32 rfl hl (by decide) rfl (fun ls hl => ?_)
    refine lv_aload_n hx hb dX4_hold_33 rfl (lv_at hl 1 rfl) ?_
    refine rg (v := .ref (ad 64)) (T := TX4) (N := 4) (C := RX4) hx hb hts hinX4 hown hK hP hN rfl 0 (by decide) (hts (.fieldLink RX4 12 "NeedleGrid" "now" "LNeedleGrid$Grid;") (by decide +kernel)) rfl dX4_hold_34 ?_
    refine rgN (v := .ref (ad (64 + 1 + 2))) (T := TX2) (N := 13) (C := RX2) hx hb hts hinX2 hown hK hP hR rfl 2 (by decide) (nlF_58 hZ) rfl dX4_hold_37 ?_
    refine lv_iload_n hx hb dX4_hold_40 rfl (lv_at hl 2 rfl) ?_
    refine lv_iload_n hx hb dX4_hold_41 rfl (lv_at hl 3 rfl) ?_
    refine rsZ (j := c) (n := 36) (x := v) hx hb hK hP hD hS hR 2 rfl (by decide) (by omega) (by decide) (by first | exact Or.inl rfl | exact Or.inr rfl | assumption) dX4_hold_42 (fun s_4 H locs hR hf_5 hP hD hS => ?_)
    have hN := hN.keep hf_5 (by omega) (by decide)
    have hH := hH.keep hf_5 (by omega) (by decide)
    have hQr := (hf_5 _ (by omega)).trans hQr
    have hT := hT.keep hf_5 (by omega) (by decide)
    have hB := hB.keep hf_5 (by omega) (by decide)
    have hTr := hTr.keep hf_5 (by omega) (by decide)
    have hRg : ∀ i, i < 6 → isR E ad s_4 (96 + 16 * i) sG (gN ((svR N Rs x) i)) := fun i hi => (hRg i hi).keep hf_5 (by omega) (by decide)
    have hf := hf.tr1 hf_5 (by omega) (by omega)
    refine lv_iload_n hx hb dX4_hold_43 rfl (lv_at hl 0 rfl) ?_
    exact hret _ _ _ _ _ _ hP hD hS (⟨by rw [← gN2 (N := N) hc, ← hGN]; exact c24_2.symm, ⟨hN, hH, hQr, hT, ⟨_, hB⟩, (by rw [← gN_hold hc, ← hGN]; exact hR), ⟨_, hTr⟩, hRg⟩, hf⟩) dX4_hold_44
  · refine lv_iconst (v := 1) hx hb dX4_hold_27 (by decide) ?_
    refine lv_goto (tgt := 32) hx hb dX4_hold_28 (by decide) ?_
    refine lv_istore_n (lv' := [(3, .int 1), (0, .ref (ad 0)), (1, .int (nI c)), (2, .int v)]) hx hb dX4_hold_32 rfl hl (by decide) rfl (fun ls hl => ?_)
    refine lv_aload_n hx hb dX4_hold_33 rfl (lv_at hl 1 rfl) ?_
    refine rg (v := .ref (ad 64)) (T := TX4) (N := 4) (C := RX4) hx hb hts hinX4 hown hK hP hN rfl 0 (by decide) (hts (.fieldLink RX4 12 "NeedleGrid" "now" "LNeedleGrid$Grid;") (by decide +kernel)) rfl dX4_hold_34 ?_
    refine rgN (v := .ref (ad (64 + 1 + 2))) (T := TX2) (N := 13) (C := RX2) hx hb hts hinX2 hown hK hP hR rfl 2 (by decide) (nlF_58 hZ) rfl dX4_hold_37 ?_
    refine lv_iload_n hx hb dX4_hold_40 rfl (lv_at hl 2 rfl) ?_
    refine lv_iload_n hx hb dX4_hold_41 rfl (lv_at hl 3 rfl) ?_
    refine rsZ (j := c) (n := 36) (x := v) hx hb hK hP hD hS hR 2 rfl (by decide) (by omega) (by decide) (by first | exact Or.inl rfl | exact Or.inr rfl | assumption) dX4_hold_42 (fun s_6 H locs hR hf_7 hP hD hS => ?_)
    have hN := hN.keep hf_7 (by omega) (by decide)
    have hH := hH.keep hf_7 (by omega) (by decide)
    have hQr := (hf_7 _ (by omega)).trans hQr
    have hT := hT.keep hf_7 (by omega) (by decide)
    have hB := hB.keep hf_7 (by omega) (by decide)
    have hTr := hTr.keep hf_7 (by omega) (by decide)
    have hRg : ∀ i, i < 6 → isR E ad s_6 (96 + 16 * i) sG (gN ((svR N Rs x) i)) := fun i hi => (hRg i hi).keep hf_7 (by omega) (by decide)
    have hf := hf.tr1 hf_7 (by omega) (by omega)
    refine lv_iload_n hx hb dX4_hold_43 rfl (lv_at hl 0 rfl) ?_
    exact hret _ _ _ _ _ _ hP hD hS (⟨by rw [← gN2 (N := N) hc]; rw [hGN] at c24_2; exact ((hO.g c hc).resolve_left c24_2).symm, ⟨hN, hH, hQr, hT, ⟨_, hB⟩, (by rw [← gN_hold hc, ← hGN]; exact hR), ⟨_, hTr⟩, hRg⟩, hf⟩) dX4_hold_44

set_option maxHeartbeats 4000000 in
set_option maxRecDepth 100000 in
theorem c_swap (l : Launch) (E : NE) (ad : Nat → Nat) (st : NW) (N : Nat → Int32) (Rs : Nat → Nat → Int32) (a x : Nat) (C : Nat → Int32) (n : Nat) (ha : a ≤ 6) (hxx : x < 6) (hn : n ≤ 60) (hO : okH N) (hW : cW E ad st N Rs a x C n) (c o : Nat) (hc : c < 36) (ho : o < 36) : nMi l yX4_swap wsX4_swap (nRm 3 68) E ad st [.ref (ad 0), .int (nI c), .int (nI o)] (fun r s1 => r = swpN N c o (6 + c) ∧ cW E ad s1 (swpN N c o) (svR N Rs x) (svA a) (svX x) C n ∧ frX 0 208 st s1) := by
  refine nSi (cc := cX4_swap) (maxL := 3) (by decide) rfl (Nat.le_of_ble_eq_true rfl) ?_
  intro pg en s mi ar bw mth cd R Q A ls hx hb hml hown hts hRm hP hK hD hZ hA hl hret
  subst hRm
  have hown : s.vm.findClass RX4 = some mi.cls := hown
  have hS : va_S A s.heap s.heap [] := va_S.rf
  have hl : lv_has ls 3 [(0, .ref (ad 0)), (1, .int (nI c)), (2, .int (nI o))] := hl
  obtain ⟨hN, hH, hQr, hT, ⟨R0, hB⟩, hR, ⟨Tr, hTr⟩, hRg⟩ := hW
  obtain ⟨G9, hGN⟩ : ∃ G9, G9 = gN N := ⟨_, rfl⟩
  rw [← hGN] at hR
  have hf : frX 0 208 st st := frX.rf
  have hinX2 : ∀ w ∈ wsX20, w ∈ wsX4_swap := by decide +kernel
  have hinX3 : ∀ w ∈ wsX30, w ∈ wsX4_swap := by decide +kernel
  have hinX4 : ∀ w ∈ wsX40, w ∈ wsX4_swap := by decide +kernel
  refine lv_iload_n hx hb dX4_swap_0 rfl (lv_at hl 1 rfl) ?_
  refine nS_v (As := [.int (nI c)]) (rest := _) hx hb hml hown hts hP hK hD hZ hA hS ⟨Nat.zero_le _, Nat.zero_le _⟩ (c_requireCell l E ad st c (by omega)) (va_cwS 1 hts gX4_swap_X4_requireCell rfl rfl rfl (by decide +kernel) ⟨Nat.le_of_ble_eq_true rfl, Nat.le_of_ble_eq_true rfl⟩) hl.1 rfl (Nat.le_of_ble_eq_true rfl) dX4_swap_1 (fun s_1 H locs hq hP hD hS => ?_)
  obtain rfl := hq
  refine lv_iload_n hx hb dX4_swap_4 rfl (lv_at hl 2 rfl) ?_
  refine nS_v (As := [.int (nI o)]) (rest := _) hx hb hml hown hts hP hK hD hZ hA hS ⟨Nat.zero_le _, Nat.zero_le _⟩ (c_requireCell l E ad st o (by omega)) (va_cwS 1 hts gX4_swap_X4_requireCell rfl rfl rfl (by decide +kernel) ⟨Nat.le_of_ble_eq_true rfl, Nat.le_of_ble_eq_true rfl⟩) hl.1 rfl (Nat.le_of_ble_eq_true rfl) dX4_swap_5 (fun s_2 H locs hq hP hD hS => ?_)
  obtain rfl := hq
  refine lv_aload_n hx hb dX4_swap_8 rfl (lv_at hl 0 rfl) ?_
  refine rg (v := .ref (ad 16)) (T := TX4) (N := 4) (C := RX4) hx hb hts hinX4 hown hK hP hN rfl 2 (by decide) (hts (.fieldLink RX4 22 "NeedleGrid" "history" "LNeedleGrid$History;") (by decide +kernel)) rfl dX4_swap_9 ?_
  refine lv_aload_n hx hb dX4_swap_12 rfl (lv_at hl 0 rfl) ?_
  refine rg (v := .ref (ad 64)) (T := TX4) (N := 4) (C := RX4) hx hb hts hinX4 hown hK hP hN rfl 0 (by decide) (hts (.fieldLink RX4 12 "NeedleGrid" "now" "LNeedleGrid$Grid;") (by decide +kernel)) rfl dX4_swap_13 ?_
  refine nVv (As := [.ref (ad 64)]) (rest := _) hx hb hml hown hts hP hK hD hZ hA hS ⟨Nat.zero_le _, Nat.zero_le _⟩ hH.1 rfl (c_save l E ad st a x ha hxx (fun i => gN (Rs i)) G9 (by rw [hGN]; exact hO.g) hH hQr hRg hR) (cwV 1 hts gX4_swap_X3_save rfl rfl rfl (by decide +kernel) ⟨Nat.le_of_ble_eq_true rfl, Nat.le_of_ble_eq_true rfl⟩) hl.1 rfl (Nat.le_of_ble_eq_true rfl) dX4_swap_16 (fun s_3 H locs hq hP hD hS => ?_)
  obtain ⟨hW, hfS⟩ := saveW ⟨hN, hH, hQr, hT, ⟨_, hB⟩, (by rw [← hGN]; exact hR), ⟨Tr, hTr⟩, hRg⟩ hq.1 (by have h9 := hq.2.1; rw [hGN] at h9; exact h9) hq.2.2
  obtain ⟨hN, hH, hQr, hT, ⟨R0, hB⟩, hR, ⟨Tr, hTr⟩, hRg⟩ := hW
  rw [← hGN] at hR
  have hf : frX 0 208 st s_3 := fun k9 h9 => (hfS k9 h9).trans (hf k9 h9)
  refine lv_aload_n hx hb dX4_swap_19 rfl (lv_at hl 0 rfl) ?_
  refine rg (v := .ref (ad 64)) (T := TX4) (N := 4) (C := RX4) hx hb hts hinX4 hown hK hP hN rfl 0 (by decide) (hts (.fieldLink RX4 12 "NeedleGrid" "now" "LNeedleGrid$Grid;") (by decide +kernel)) rfl dX4_swap_20 ?_
  refine rgN (v := .ref (ad (64 + 1 + 0))) (T := TX2) (N := 13) (C := RX2) hx hb hts hinX2 hown hK hP hR rfl 0 (by decide) (nlF_44 hZ) rfl dX4_swap_23 ?_
  refine lv_iload_n hx hb dX4_swap_26 rfl (lv_at hl 1 rfl) ?_
  refine lv_iload_n hx hb dX4_swap_27 rfl (lv_at hl 2 rfl) ?_
  refine nS_v (As := [.ref (ad (64 + 1 + 0)), .int (nI c), .int (nI o)]) (rest := _) hx hb hml hown hts hP hK hD hZ hA hS ⟨Nat.zero_le _, Nat.zero_le _⟩ (c_exch0 l E ad s_3 64 G9 hR c o (by omega) (by omega)) (va_cwS 3 hts gX4_swap_X4_exchange rfl rfl rfl (by decide +kernel) ⟨Nat.le_of_ble_eq_true rfl, Nat.le_of_ble_eq_true rfl⟩) hl.1 rfl (Nat.le_of_ble_eq_true rfl) dX4_swap_28 (fun s_5 H locs hq hP hD hS => ?_)
  obtain ⟨hR, hf_4⟩ := hq
  have hN := hN.keep hf_4 (by omega) (by decide)
  have hH := hH.keep hf_4 (by omega) (by decide)
  have hQr := (hf_4 _ (by omega)).trans hQr
  have hT := hT.keep hf_4 (by omega) (by decide)
  have hB := hB.keep hf_4 (by omega) (by decide)
  have hTr := hTr.keep hf_4 (by omega) (by decide)
  have hRg : ∀ i, i < 6 → isR E ad s_5 (96 + 16 * i) sG (gN ((svR N Rs x) i)) := fun i hi => (hRg i hi).keep hf_4 (by omega) (by decide)
  have hf := hf.tr1 hf_4 (by omega) (by omega)
  refine lv_aload_n hx hb dX4_swap_31 rfl (lv_at hl 0 rfl) ?_
  refine rg (v := .ref (ad 64)) (T := TX4) (N := 4) (C := RX4) hx hb hts hinX4 hown hK hP hN rfl 0 (by decide) (hts (.fieldLink RX4 12 "NeedleGrid" "now" "LNeedleGrid$Grid;") (by decide +kernel)) rfl dX4_swap_32 ?_
  refine rgN (v := .ref (ad (64 + 1 + 1))) (T := TX2) (N := 13) (C := RX2) hx hb hts hinX2 hown hK hP hR rfl 1 (by decide) (nlF_55 hZ) rfl dX4_swap_35 ?_
  refine lv_iload_n hx hb dX4_swap_38 rfl (lv_at hl 1 rfl) ?_
  refine lv_iload_n hx hb dX4_swap_39 rfl (lv_at hl 2 rfl) ?_
  refine nS_v (As := [.ref (ad (64 + 1 + 1)), .int (nI c), .int (nI o)]) (rest := _) hx hb hml hown hts hP hK hD hZ hA hS ⟨Nat.zero_le _, Nat.zero_le _⟩ (c_exch1 l E ad s_5 64 (gu G9 0 (upd (upd (G9 0) c ((G9 0) o)) o ((G9 0) c))) hR c o (by omega) (by omega)) (va_cwS 3 hts gX4_swap_X4_exchange rfl rfl rfl (by decide +kernel) ⟨Nat.le_of_ble_eq_true rfl, Nat.le_of_ble_eq_true rfl⟩) hl.1 rfl (Nat.le_of_ble_eq_true rfl) dX4_swap_40 (fun s_7 H locs hq hP hD hS => ?_)
  obtain ⟨hR, hf_6⟩ := hq
  have hN := hN.keep hf_6 (by omega) (by decide)
  have hH := hH.keep hf_6 (by omega) (by decide)
  have hQr := (hf_6 _ (by omega)).trans hQr
  have hT := hT.keep hf_6 (by omega) (by decide)
  have hB := hB.keep hf_6 (by omega) (by decide)
  have hTr := hTr.keep hf_6 (by omega) (by decide)
  have hRg : ∀ i, i < 6 → isR E ad s_7 (96 + 16 * i) sG (gN ((svR N Rs x) i)) := fun i hi => (hRg i hi).keep hf_6 (by omega) (by decide)
  have hf := hf.tr1 hf_6 (by omega) (by omega)
  refine lv_aload_n hx hb dX4_swap_43 rfl (lv_at hl 0 rfl) ?_
  refine rg (v := .ref (ad 64)) (T := TX4) (N := 4) (C := RX4) hx hb hts hinX4 hown hK hP hN rfl 0 (by decide) (hts (.fieldLink RX4 12 "NeedleGrid" "now" "LNeedleGrid$Grid;") (by decide +kernel)) rfl dX4_swap_44 ?_
  refine nVv (As := []) (rest := _) hx hb hml hown hts hP hK hD hZ hA hS ⟨Nat.zero_le _, Nat.zero_le _⟩ hR.1 rfl (c_measureField l E ad s_7 64 (gu (gu G9 0 (upd (upd (G9 0) c ((G9 0) o)) o ((G9 0) c))) 1 (upd (upd (G9 1) c ((G9 1) o)) o ((G9 1) c))) hR ) (cwV 0 hts gX4_swap_X2_measureField rfl rfl rfl (by decide +kernel) ⟨Nat.le_of_ble_eq_true rfl, Nat.le_of_ble_eq_true rfl⟩) hl.1 rfl (Nat.le_of_ble_eq_true rfl) dX4_swap_47 (fun s_10 H locs hq hP hD hS => ?_)
  obtain ⟨hR, hf_9⟩ := hq
  have hN := hN.keep hf_9 (by omega) (by decide)
  have hH := hH.keep hf_9 (by omega) (by decide)
  have hQr := (hf_9 _ (by omega)).trans hQr
  have hT := hT.keep hf_9 (by omega) (by decide)
  have hB := hB.keep hf_9 (by omega) (by decide)
  have hTr := hTr.keep hf_9 (by omega) (by decide)
  have hRg : ∀ i, i < 6 → isR E ad s_10 (96 + 16 * i) sG (gN ((svR N Rs x) i)) := fun i hi => (hRg i hi).keep hf_9 (by omega) (by decide)
  have hf := hf.tr1 hf_9 (by omega) (by omega)
  refine lv_aload_n hx hb dX4_swap_50 rfl (lv_at hl 0 rfl) ?_
  refine rg (v := .ref (ad 64)) (T := TX4) (N := 4) (C := RX4) hx hb hts hinX4 hown hK hP hN rfl 0 (by decide) (hts (.fieldLink RX4 12 "NeedleGrid" "now" "LNeedleGrid$Grid;") (by decide +kernel)) rfl dX4_swap_51 ?_
  refine rgN (v := .ref (ad (64 + 1 + 0))) (T := TX2) (N := 13) (C := RX2) hx hb hts hinX2 hown hK hP hR rfl 0 (by decide) (nlF_44 hZ) rfl dX4_swap_54 ?_
  refine lv_iload_n hx hb dX4_swap_57 rfl (lv_at hl 1 rfl) ?_
  refine ra (j := c) (n := 36) hx hb hK hP hR 0 rfl (by omega) (by decide) dX4_swap_58 ?_
  have hG := gN_swap (N := N) hc ho
  rw [← hGN] at hG
  exact hret _ _ _ _ _ _ hP hD hS (⟨by rw [← gN0 (N := swpN N c o) hc, ← hG], ⟨hN, hH, hQr, hT, ⟨_, hB⟩, (by rw [← hG]; exact hR), ⟨_, hTr⟩, hRg⟩, hf⟩) dX4_swap_59

set_option maxHeartbeats 4000000 in
set_option maxRecDepth 100000 in
theorem c_bar (l : Launch) (E : NE) (ad : Nat → Nat) (st : NW) (N : Nat → Int32) (Rs : Nat → Nat → Int32) (a x : Nat) (C : Nat → Int32) (n : Nat) (ha : a ≤ 6) (hxx : x < 6) (hn : n ≤ 60) (hO : okH N) (hW : cW E ad st N Rs a x C n) (c d : Nat) (t : Int32) (hc : c < 36) (hd : d < 8) (h1 : ¬ t < 1) (h2 : t ≤ 50) (hb6 : gN N 4 c ≤ 0 → cnI (fun k => isB (gN N 4) k) 36 < 6) : nMi l yX4_bar wsX4_bar (nRm 4 100) E ad st [.ref (ad 0), .int (nI c), .int (nI d), .int t] (fun r s1 => r = nI (cnI (fun k => isB (gN (upd (upd N (114 + c) (nI d)) (150 + c) t) 4) k) 36) ∧ cW E ad s1 (upd (upd N (114 + c) (nI d)) (150 + c) t) (svR N Rs x) (svA a) (svX x) C n ∧ frX 0 208 st s1) := by
  refine nSi (cc := cX4_bar) (maxL := 4) (by decide) rfl (Nat.le_of_ble_eq_true rfl) ?_
  intro pg en s mi ar bw mth cd R Q A ls hx hb hml hown hts hRm hP hK hD hZ hA hl hret
  subst hRm
  have hown : s.vm.findClass RX4 = some mi.cls := hown
  have hS : va_S A s.heap s.heap [] := va_S.rf
  have hl : lv_has ls 4 [(0, .ref (ad 0)), (1, .int (nI c)), (2, .int (nI d)), (3, .int t)] := hl
  obtain ⟨hN, hH, hQr, hT, ⟨R0, hB⟩, hR, ⟨Tr, hTr⟩, hRg⟩ := hW
  obtain ⟨G9, hGN⟩ : ∃ G9, G9 = gN N := ⟨_, rfl⟩
  rw [← hGN] at hR
  have hf : frX 0 208 st st := frX.rf
  rw [← hGN] at hb6
  have hinX2 : ∀ w ∈ wsX20, w ∈ wsX4_bar := by decide +kernel
  have hinX3 : ∀ w ∈ wsX30, w ∈ wsX4_bar := by decide +kernel
  have hinX4 : ∀ w ∈ wsX40, w ∈ wsX4_bar := by decide +kernel
  refine lv_iload_n hx hb dX4_bar_0 rfl (lv_at hl 1 rfl) ?_
  refine nS_v (As := [.int (nI c)]) (rest := _) hx hb hml hown hts hP hK hD hZ hA hS ⟨Nat.zero_le _, Nat.zero_le _⟩ (c_requireCell l E ad st c (by omega)) (va_cwS 1 hts gX4_bar_X4_requireCell rfl rfl rfl (by decide +kernel) ⟨Nat.le_of_ble_eq_true rfl, Nat.le_of_ble_eq_true rfl⟩) hl.1 rfl (Nat.le_of_ble_eq_true rfl) dX4_bar_1 (fun s_1 H locs hq hP hD hS => ?_)
  obtain rfl := hq
  refine lv_iload_n hx hb dX4_bar_4 rfl (lv_at hl 2 rfl) ?_
  refine nS_v (As := [.int (nI d)]) (rest := _) hx hb hml hown hts hP hK hD hZ hA hS ⟨Nat.zero_le _, Nat.zero_le _⟩ (c_requireDirection l E ad st d (by omega)) (va_cwS 1 hts gX4_bar_X4_requireDirection rfl rfl rfl (by decide +kernel) ⟨Nat.le_of_ble_eq_true rfl, Nat.le_of_ble_eq_true rfl⟩) hl.1 rfl (Nat.le_of_ble_eq_true rfl) dX4_bar_5 (fun s_2 H locs hq hP hD hS => ?_)
  obtain rfl := hq
  refine lv_iload_n hx hb dX4_bar_8 rfl (lv_at hl 3 rfl) ?_
  refine lv_iconst (v := 1) hx hb dX4_bar_9 (by decide) ?_
  refine lv_bipush (v := 50) hx hb dX4_bar_10 (by decide) ?_
  refine nS_v (As := [.int t, .int 1, .int 50]) (rest := _) hx hb hml hown hts hP hK hD hZ hA hS ⟨Nat.zero_le _, Nat.zero_le _⟩ (c_requireBetween l E ad st t 1 50 h1 h2) (va_cwS 3 hts gX4_bar_X4_requireBetween rfl rfl rfl (by decide +kernel) ⟨Nat.le_of_ble_eq_true rfl, Nat.le_of_ble_eq_true rfl⟩) hl.1 rfl (Nat.le_of_ble_eq_true rfl) dX4_bar_12 (fun s_3 H locs hq hP hD hS => ?_)
  obtain rfl := hq
  refine lv_aload_n hx hb dX4_bar_15 rfl (lv_at hl 0 rfl) ?_
  refine rg (v := .ref (ad 64)) (T := TX4) (N := 4) (C := RX4) hx hb hts hinX4 hown hK hP hN rfl 0 (by decide) (hts (.fieldLink RX4 12 "NeedleGrid" "now" "LNeedleGrid$Grid;") (by decide +kernel)) rfl dX4_bar_16 ?_
  refine lv_iload_n hx hb dX4_bar_19 rfl (lv_at hl 1 rfl) ?_
  refine nVi (As := [.int (nI c)]) (rest := _) hx hb hml hown hts hP hK hD hZ hA hS ⟨Nat.zero_le _, Nat.zero_le _⟩ hR.1 rfl (c_hasBar l E ad st 64 G9 hR c (by omega)) (cwV 1 hts gX4_bar_X2_hasBar rfl rfl rfl (by decide +kernel) ⟨Nat.le_of_ble_eq_true rfl, Nat.le_of_ble_eq_true rfl⟩) hl.1 rfl (Nat.le_of_ble_eq_true rfl) dX4_bar_20 (fun r_4 s_5 H locs hq hP hD hS => ?_)
  obtain ⟨hrr_4, rfl⟩ := hq
  refine lv_if_ne (tgt := 48) hx hb dX4_bar_23 (by decide) (fun c23_5 => ?_) (fun c23_5 => ?_)
  · refine lv_aload_n hx hb dX4_bar_48 rfl (lv_at hl 0 rfl) ?_
    refine rg (v := .ref (ad 16)) (T := TX4) (N := 4) (C := RX4) hx hb hts hinX4 hown hK hP hN rfl 2 (by decide) (hts (.fieldLink RX4 22 "NeedleGrid" "history" "LNeedleGrid$History;") (by decide +kernel)) rfl dX4_bar_49 ?_
    refine lv_aload_n hx hb dX4_bar_52 rfl (lv_at hl 0 rfl) ?_
    refine rg (v := .ref (ad 64)) (T := TX4) (N := 4) (C := RX4) hx hb hts hinX4 hown hK hP hN rfl 0 (by decide) (hts (.fieldLink RX4 12 "NeedleGrid" "now" "LNeedleGrid$Grid;") (by decide +kernel)) rfl dX4_bar_53 ?_
    refine nVv (As := [.ref (ad 64)]) (rest := _) hx hb hml hown hts hP hK hD hZ hA hS ⟨Nat.zero_le _, Nat.zero_le _⟩ hH.1 rfl (c_save l E ad st a x ha hxx (fun i => gN (Rs i)) G9 (by rw [hGN]; exact hO.g) hH hQr hRg hR) (cwV 1 hts gX4_bar_X3_save rfl rfl rfl (by decide +kernel) ⟨Nat.le_of_ble_eq_true rfl, Nat.le_of_ble_eq_true rfl⟩) hl.1 rfl (Nat.le_of_ble_eq_true rfl) dX4_bar_56 (fun s_7 H locs hq hP hD hS => ?_)
    obtain ⟨hW, hfS⟩ := saveW ⟨hN, hH, hQr, hT, ⟨_, hB⟩, (by rw [← hGN]; exact hR), ⟨Tr, hTr⟩, hRg⟩ hq.1 (by have h9 := hq.2.1; rw [hGN] at h9; exact h9) hq.2.2
    obtain ⟨hN, hH, hQr, hT, ⟨R0, hB⟩, hR, ⟨Tr, hTr⟩, hRg⟩ := hW
    rw [← hGN] at hR
    have hf : frX 0 208 st s_7 := fun k9 h9 => (hfS k9 h9).trans (hf k9 h9)
    refine lv_aload_n hx hb dX4_bar_59 rfl (lv_at hl 0 rfl) ?_
    refine rg (v := .ref (ad 64)) (T := TX4) (N := 4) (C := RX4) hx hb hts hinX4 hown hK hP hN rfl 0 (by decide) (hts (.fieldLink RX4 12 "NeedleGrid" "now" "LNeedleGrid$Grid;") (by decide +kernel)) rfl dX4_bar_60 ?_
    refine lv_iload_n hx hb dX4_bar_63 rfl (lv_at hl 1 rfl) ?_
    refine lv_iload_n hx hb dX4_bar_64 rfl (lv_at hl 2 rfl) ?_
    refine lv_iload_n hx hb dX4_bar_65 rfl (lv_at hl 3 rfl) ?_
    refine nVv (As := [.int (nI c), .int (nI d), .int t]) (rest := _) hx hb hml hown hts hP hK hD hZ hA hS ⟨Nat.zero_le _, Nat.zero_le _⟩ hR.1 rfl (c_layBar l E ad s_7 64 G9 hR c (by omega) (nI d) t) (cwV 3 hts gX4_bar_X2_layBar rfl rfl rfl (by decide +kernel) ⟨Nat.le_of_ble_eq_true rfl, Nat.le_of_ble_eq_true rfl⟩) hl.1 rfl (Nat.le_of_ble_eq_true rfl) dX4_bar_66 (fun s_10 H locs hq hP hD hS => ?_)
    obtain ⟨hR, hf_9⟩ := hq
    have hN := hN.keep hf_9 (by omega) (by decide)
    have hH := hH.keep hf_9 (by omega) (by decide)
    have hQr := (hf_9 _ (by omega)).trans hQr
    have hT := hT.keep hf_9 (by omega) (by decide)
    have hB := hB.keep hf_9 (by omega) (by decide)
    have hTr := hTr.keep hf_9 (by omega) (by decide)
    have hRg : ∀ i, i < 6 → isR E ad s_10 (96 + 16 * i) sG (gN ((svR N Rs x) i)) := fun i hi => (hRg i hi).keep hf_9 (by omega) (by decide)
    have hf := hf.tr1 hf_9 (by omega) (by omega)
    refine lv_aload_n hx hb dX4_bar_69 rfl (lv_at hl 0 rfl) ?_
    refine rg (v := .ref (ad 64)) (T := TX4) (N := 4) (C := RX4) hx hb hts hinX4 hown hK hP hN rfl 0 (by decide) (hts (.fieldLink RX4 12 "NeedleGrid" "now" "LNeedleGrid$Grid;") (by decide +kernel)) rfl dX4_bar_70 ?_
    refine nVv (As := []) (rest := _) hx hb hml hown hts hP hK hD hZ hA hS ⟨Nat.zero_le _, Nat.zero_le _⟩ hR.1 rfl (c_measureAll l E ad s_10 64 (gu (gu G9 3 (upd (G9 3) c (nI d))) 4 (upd (G9 4) c t)) hR ) (cwV 0 hts gX4_bar_X2_measureAll rfl rfl rfl (by decide +kernel) ⟨Nat.le_of_ble_eq_true rfl, Nat.le_of_ble_eq_true rfl⟩) hl.1 rfl (Nat.le_of_ble_eq_true rfl) dX4_bar_73 (fun s_13 H locs hq hP hD hS => ?_)
    obtain ⟨hR, hf_12⟩ := hq
    have hN := hN.keep hf_12 (by omega) (by decide)
    have hH := hH.keep hf_12 (by omega) (by decide)
    have hQr := (hf_12 _ (by omega)).trans hQr
    have hT := hT.keep hf_12 (by omega) (by decide)
    have hB := hB.keep hf_12 (by omega) (by decide)
    have hTr := hTr.keep hf_12 (by omega) (by decide)
    have hRg : ∀ i, i < 6 → isR E ad s_13 (96 + 16 * i) sG (gN ((svR N Rs x) i)) := fun i hi => (hRg i hi).keep hf_12 (by omega) (by decide)
    have hf := hf.tr1 hf_12 (by omega) (by omega)
    refine lv_aload_n hx hb dX4_bar_76 rfl (lv_at hl 0 rfl) ?_
    refine rg (v := .ref (ad 64)) (T := TX4) (N := 4) (C := RX4) hx hb hts hinX4 hown hK hP hN rfl 0 (by decide) (hts (.fieldLink RX4 12 "NeedleGrid" "now" "LNeedleGrid$Grid;") (by decide +kernel)) rfl dX4_bar_77 ?_
    refine nVi (As := []) (rest := _) hx hb hml hown hts hP hK hD hZ hA hS ⟨Nat.zero_le _, Nat.zero_le _⟩ hR.1 rfl (c_barCount l E ad s_13 64 (maG (gu (gu G9 3 (upd (G9 3) c (nI d))) 4 (upd (G9 4) c t))) hR ) (cwV 0 hts gX4_bar_X2_barCount rfl rfl rfl (by decide +kernel) ⟨Nat.le_of_ble_eq_true rfl, Nat.le_of_ble_eq_true rfl⟩) hl.1 rfl (Nat.le_of_ble_eq_true rfl) dX4_bar_80 (fun r_14 s_15 H locs hq hP hD hS => ?_)
    obtain ⟨hrr_14, rfl⟩ := hq
    have hG := gN_bar (N := N) (d := nI d) (t := t) hc
    rw [← hGN] at hG
    exact hret _ _ _ _ _ _ hP hD hS (⟨by rw [hrr_14, hG], ⟨hN, hH, hQr, hT, ⟨_, hB⟩, (by rw [← hG]; exact hR), ⟨_, hTr⟩, hRg⟩, hf⟩) dX4_bar_83
  · have hb0 : G9 4 c ≤ 0 := b01_f hrr_4 c23_5
    refine lv_aload_n hx hb dX4_bar_26 rfl (lv_at hl 0 rfl) ?_
    refine rg (v := .ref (ad 64)) (T := TX4) (N := 4) (C := RX4) hx hb hts hinX4 hown hK hP hN rfl 0 (by decide) (hts (.fieldLink RX4 12 "NeedleGrid" "now" "LNeedleGrid$Grid;") (by decide +kernel)) rfl dX4_bar_27 ?_
    refine nVi (As := []) (rest := _) hx hb hml hown hts hP hK hD hZ hA hS ⟨Nat.zero_le _, Nat.zero_le _⟩ hR.1 rfl (c_barCount l E ad st 64 G9 hR ) (cwV 0 hts gX4_bar_X2_barCount rfl rfl rfl (by decide +kernel) ⟨Nat.le_of_ble_eq_true rfl, Nat.le_of_ble_eq_true rfl⟩) hl.1 rfl (Nat.le_of_ble_eq_true rfl) dX4_bar_30 (fun r_16 s_17 H locs hq hP hD hS => ?_)
    obtain ⟨hrr_16, rfl⟩ := hq
    refine lv_bipush (v := 6) hx hb dX4_bar_33 (by decide) ?_
    refine lv_icmp_lt (tgt := 48) hx hb dX4_bar_35 (by decide) (fun c35_17 => ?_) (fun c35_17 => absurd (by rw [hrr_16]; exact (nI_ltL (n := 6) rfl (by decide) (by have := cnI_le (fun k => isB (G9 4) k) 36; omega)).mpr (hb6 hb0)) c35_17)
    refine lv_aload_n hx hb dX4_bar_48 rfl (lv_at hl 0 rfl) ?_
    refine rg (v := .ref (ad 16)) (T := TX4) (N := 4) (C := RX4) hx hb hts hinX4 hown hK hP hN rfl 2 (by decide) (hts (.fieldLink RX4 22 "NeedleGrid" "history" "LNeedleGrid$History;") (by decide +kernel)) rfl dX4_bar_49 ?_
    refine lv_aload_n hx hb dX4_bar_52 rfl (lv_at hl 0 rfl) ?_
    refine rg (v := .ref (ad 64)) (T := TX4) (N := 4) (C := RX4) hx hb hts hinX4 hown hK hP hN rfl 0 (by decide) (hts (.fieldLink RX4 12 "NeedleGrid" "now" "LNeedleGrid$Grid;") (by decide +kernel)) rfl dX4_bar_53 ?_
    refine nVv (As := [.ref (ad 64)]) (rest := _) hx hb hml hown hts hP hK hD hZ hA hS ⟨Nat.zero_le _, Nat.zero_le _⟩ hH.1 rfl (c_save l E ad st a x ha hxx (fun i => gN (Rs i)) G9 (by rw [hGN]; exact hO.g) hH hQr hRg hR) (cwV 1 hts gX4_bar_X3_save rfl rfl rfl (by decide +kernel) ⟨Nat.le_of_ble_eq_true rfl, Nat.le_of_ble_eq_true rfl⟩) hl.1 rfl (Nat.le_of_ble_eq_true rfl) dX4_bar_56 (fun s_19 H locs hq hP hD hS => ?_)
    obtain ⟨hW, hfS⟩ := saveW ⟨hN, hH, hQr, hT, ⟨_, hB⟩, (by rw [← hGN]; exact hR), ⟨Tr, hTr⟩, hRg⟩ hq.1 (by have h9 := hq.2.1; rw [hGN] at h9; exact h9) hq.2.2
    obtain ⟨hN, hH, hQr, hT, ⟨R0, hB⟩, hR, ⟨Tr, hTr⟩, hRg⟩ := hW
    rw [← hGN] at hR
    have hf : frX 0 208 st s_19 := fun k9 h9 => (hfS k9 h9).trans (hf k9 h9)
    refine lv_aload_n hx hb dX4_bar_59 rfl (lv_at hl 0 rfl) ?_
    refine rg (v := .ref (ad 64)) (T := TX4) (N := 4) (C := RX4) hx hb hts hinX4 hown hK hP hN rfl 0 (by decide) (hts (.fieldLink RX4 12 "NeedleGrid" "now" "LNeedleGrid$Grid;") (by decide +kernel)) rfl dX4_bar_60 ?_
    refine lv_iload_n hx hb dX4_bar_63 rfl (lv_at hl 1 rfl) ?_
    refine lv_iload_n hx hb dX4_bar_64 rfl (lv_at hl 2 rfl) ?_
    refine lv_iload_n hx hb dX4_bar_65 rfl (lv_at hl 3 rfl) ?_
    refine nVv (As := [.int (nI c), .int (nI d), .int t]) (rest := _) hx hb hml hown hts hP hK hD hZ hA hS ⟨Nat.zero_le _, Nat.zero_le _⟩ hR.1 rfl (c_layBar l E ad s_19 64 G9 hR c (by omega) (nI d) t) (cwV 3 hts gX4_bar_X2_layBar rfl rfl rfl (by decide +kernel) ⟨Nat.le_of_ble_eq_true rfl, Nat.le_of_ble_eq_true rfl⟩) hl.1 rfl (Nat.le_of_ble_eq_true rfl) dX4_bar_66 (fun s_22 H locs hq hP hD hS => ?_)
    obtain ⟨hR, hf_21⟩ := hq
    have hN := hN.keep hf_21 (by omega) (by decide)
    have hH := hH.keep hf_21 (by omega) (by decide)
    have hQr := (hf_21 _ (by omega)).trans hQr
    have hT := hT.keep hf_21 (by omega) (by decide)
    have hB := hB.keep hf_21 (by omega) (by decide)
    have hTr := hTr.keep hf_21 (by omega) (by decide)
    have hRg : ∀ i, i < 6 → isR E ad s_22 (96 + 16 * i) sG (gN ((svR N Rs x) i)) := fun i hi => (hRg i hi).keep hf_21 (by omega) (by decide)
    have hf := hf.tr1 hf_21 (by omega) (by omega)
    refine lv_aload_n hx hb dX4_bar_69 rfl (lv_at hl 0 rfl) ?_
    refine rg (v := .ref (ad 64)) (T := TX4) (N := 4) (C := RX4) hx hb hts hinX4 hown hK hP hN rfl 0 (by decide) (hts (.fieldLink RX4 12 "NeedleGrid" "now" "LNeedleGrid$Grid;") (by decide +kernel)) rfl dX4_bar_70 ?_
    refine nVv (As := []) (rest := _) hx hb hml hown hts hP hK hD hZ hA hS ⟨Nat.zero_le _, Nat.zero_le _⟩ hR.1 rfl (c_measureAll l E ad s_22 64 (gu (gu G9 3 (upd (G9 3) c (nI d))) 4 (upd (G9 4) c t)) hR ) (cwV 0 hts gX4_bar_X2_measureAll rfl rfl rfl (by decide +kernel) ⟨Nat.le_of_ble_eq_true rfl, Nat.le_of_ble_eq_true rfl⟩) hl.1 rfl (Nat.le_of_ble_eq_true rfl) dX4_bar_73 (fun s_25 H locs hq hP hD hS => ?_)
    obtain ⟨hR, hf_24⟩ := hq
    have hN := hN.keep hf_24 (by omega) (by decide)
    have hH := hH.keep hf_24 (by omega) (by decide)
    have hQr := (hf_24 _ (by omega)).trans hQr
    have hT := hT.keep hf_24 (by omega) (by decide)
    have hB := hB.keep hf_24 (by omega) (by decide)
    have hTr := hTr.keep hf_24 (by omega) (by decide)
    have hRg : ∀ i, i < 6 → isR E ad s_25 (96 + 16 * i) sG (gN ((svR N Rs x) i)) := fun i hi => (hRg i hi).keep hf_24 (by omega) (by decide)
    have hf := hf.tr1 hf_24 (by omega) (by omega)
    refine lv_aload_n hx hb dX4_bar_76 rfl (lv_at hl 0 rfl) ?_
    refine rg (v := .ref (ad 64)) (T := TX4) (N := 4) (C := RX4) hx hb hts hinX4 hown hK hP hN rfl 0 (by decide) (hts (.fieldLink RX4 12 "NeedleGrid" "now" "LNeedleGrid$Grid;") (by decide +kernel)) rfl dX4_bar_77 ?_
    refine nVi (As := []) (rest := _) hx hb hml hown hts hP hK hD hZ hA hS ⟨Nat.zero_le _, Nat.zero_le _⟩ hR.1 rfl (c_barCount l E ad s_25 64 (maG (gu (gu G9 3 (upd (G9 3) c (nI d))) 4 (upd (G9 4) c t))) hR ) (cwV 0 hts gX4_bar_X2_barCount rfl rfl rfl (by decide +kernel) ⟨Nat.le_of_ble_eq_true rfl, Nat.le_of_ble_eq_true rfl⟩) hl.1 rfl (Nat.le_of_ble_eq_true rfl) dX4_bar_80 (fun r_26 s_27 H locs hq hP hD hS => ?_)
    obtain ⟨hrr_26, rfl⟩ := hq
    have hG := gN_bar (N := N) (d := nI d) (t := t) hc
    rw [← hGN] at hG
    exact hret _ _ _ _ _ _ hP hD hS (⟨by rw [hrr_26, hG], ⟨hN, hH, hQr, hT, ⟨_, hB⟩, (by rw [← hG]; exact hR), ⟨_, hTr⟩, hRg⟩, hf⟩) dX4_bar_83

set_option maxHeartbeats 4000000 in
set_option maxRecDepth 100000 in
theorem c_unbar (l : Launch) (E : NE) (ad : Nat → Nat) (st : NW) (N : Nat → Int32) (Rs : Nat → Nat → Int32) (a x : Nat) (C : Nat → Int32) (n : Nat) (ha : a ≤ 6) (hxx : x < 6) (hn : n ≤ 60) (hO : okH N) (hW : cW E ad st N Rs a x C n) (c : Nat) (hc : c < 36) (hb0 : ¬ gN N 4 c ≤ 0) : nMi l yX4_unbar wsX4_unbar (nRm 4 100) E ad st [.ref (ad 0), .int (nI c)] (fun r s1 => r = nI (cnI (fun k => isB (gN (upd (upd N (114 + c) 0) (150 + c) 0) 4) k) 36) ∧ cW E ad s1 (upd (upd N (114 + c) 0) (150 + c) 0) (svR N Rs x) (svA a) (svX x) C n ∧ frX 0 208 st s1) := by
  refine nSi (cc := cX4_unbar) (maxL := 2) (by decide) rfl (Nat.le_of_ble_eq_true rfl) ?_
  intro pg en s mi ar bw mth cd R Q A ls hx hb hml hown hts hRm hP hK hD hZ hA hl hret
  subst hRm
  have hown : s.vm.findClass RX4 = some mi.cls := hown
  have hS : va_S A s.heap s.heap [] := va_S.rf
  have hl : lv_has ls 2 [(0, .ref (ad 0)), (1, .int (nI c))] := hl
  obtain ⟨hN, hH, hQr, hT, ⟨R0, hB⟩, hR, ⟨Tr, hTr⟩, hRg⟩ := hW
  obtain ⟨G9, hGN⟩ : ∃ G9, G9 = gN N := ⟨_, rfl⟩
  rw [← hGN] at hR
  have hf : frX 0 208 st st := frX.rf
  rw [← hGN] at hb0
  have hinX2 : ∀ w ∈ wsX20, w ∈ wsX4_unbar := by decide +kernel
  have hinX3 : ∀ w ∈ wsX30, w ∈ wsX4_unbar := by decide +kernel
  have hinX4 : ∀ w ∈ wsX40, w ∈ wsX4_unbar := by decide +kernel
  refine lv_iload_n hx hb dX4_unbar_0 rfl (lv_at hl 1 rfl) ?_
  refine nS_v (As := [.int (nI c)]) (rest := _) hx hb hml hown hts hP hK hD hZ hA hS ⟨Nat.zero_le _, Nat.zero_le _⟩ (c_requireCell l E ad st c (by omega)) (va_cwS 1 hts gX4_unbar_X4_requireCell rfl rfl rfl (by decide +kernel) ⟨Nat.le_of_ble_eq_true rfl, Nat.le_of_ble_eq_true rfl⟩) hl.1 rfl (Nat.le_of_ble_eq_true rfl) dX4_unbar_1 (fun s_1 H locs hq hP hD hS => ?_)
  obtain rfl := hq
  refine lv_aload_n hx hb dX4_unbar_4 rfl (lv_at hl 0 rfl) ?_
  refine rg (v := .ref (ad 64)) (T := TX4) (N := 4) (C := RX4) hx hb hts hinX4 hown hK hP hN rfl 0 (by decide) (hts (.fieldLink RX4 12 "NeedleGrid" "now" "LNeedleGrid$Grid;") (by decide +kernel)) rfl dX4_unbar_5 ?_
  refine lv_iload_n hx hb dX4_unbar_8 rfl (lv_at hl 1 rfl) ?_
  refine nVi (As := [.int (nI c)]) (rest := _) hx hb hml hown hts hP hK hD hZ hA hS ⟨Nat.zero_le _, Nat.zero_le _⟩ hR.1 rfl (c_hasBar l E ad st 64 G9 hR c (by omega)) (cwV 1 hts gX4_unbar_X2_hasBar rfl rfl rfl (by decide +kernel) ⟨Nat.le_of_ble_eq_true rfl, Nat.le_of_ble_eq_true rfl⟩) hl.1 rfl (Nat.le_of_ble_eq_true rfl) dX4_unbar_9 (fun r_2 s_3 H locs hq hP hD hS => ?_)
  obtain ⟨hrr_2, rfl⟩ := hq
  refine lv_if_ne (tgt := 25) hx hb dX4_unbar_12 (by decide) (fun c12_3 => ?_) (fun c12_3 => absurd (b01_f hrr_2 c12_3) hb0)
  refine lv_aload_n hx hb dX4_unbar_25 rfl (lv_at hl 0 rfl) ?_
  refine rg (v := .ref (ad 16)) (T := TX4) (N := 4) (C := RX4) hx hb hts hinX4 hown hK hP hN rfl 2 (by decide) (hts (.fieldLink RX4 22 "NeedleGrid" "history" "LNeedleGrid$History;") (by decide +kernel)) rfl dX4_unbar_26 ?_
  refine lv_aload_n hx hb dX4_unbar_29 rfl (lv_at hl 0 rfl) ?_
  refine rg (v := .ref (ad 64)) (T := TX4) (N := 4) (C := RX4) hx hb hts hinX4 hown hK hP hN rfl 0 (by decide) (hts (.fieldLink RX4 12 "NeedleGrid" "now" "LNeedleGrid$Grid;") (by decide +kernel)) rfl dX4_unbar_30 ?_
  refine nVv (As := [.ref (ad 64)]) (rest := _) hx hb hml hown hts hP hK hD hZ hA hS ⟨Nat.zero_le _, Nat.zero_le _⟩ hH.1 rfl (c_save l E ad st a x ha hxx (fun i => gN (Rs i)) G9 (by rw [hGN]; exact hO.g) hH hQr hRg hR) (cwV 1 hts gX4_unbar_X3_save rfl rfl rfl (by decide +kernel) ⟨Nat.le_of_ble_eq_true rfl, Nat.le_of_ble_eq_true rfl⟩) hl.1 rfl (Nat.le_of_ble_eq_true rfl) dX4_unbar_33 (fun s_5 H locs hq hP hD hS => ?_)
  obtain ⟨hW, hfS⟩ := saveW ⟨hN, hH, hQr, hT, ⟨_, hB⟩, (by rw [← hGN]; exact hR), ⟨Tr, hTr⟩, hRg⟩ hq.1 (by have h9 := hq.2.1; rw [hGN] at h9; exact h9) hq.2.2
  obtain ⟨hN, hH, hQr, hT, ⟨R0, hB⟩, hR, ⟨Tr, hTr⟩, hRg⟩ := hW
  rw [← hGN] at hR
  have hf : frX 0 208 st s_5 := fun k9 h9 => (hfS k9 h9).trans (hf k9 h9)
  refine lv_aload_n hx hb dX4_unbar_36 rfl (lv_at hl 0 rfl) ?_
  refine rg (v := .ref (ad 64)) (T := TX4) (N := 4) (C := RX4) hx hb hts hinX4 hown hK hP hN rfl 0 (by decide) (hts (.fieldLink RX4 12 "NeedleGrid" "now" "LNeedleGrid$Grid;") (by decide +kernel)) rfl dX4_unbar_37 ?_
  refine lv_iload_n hx hb dX4_unbar_40 rfl (lv_at hl 1 rfl) ?_
  refine nVv (As := [.int (nI c)]) (rest := _) hx hb hml hown hts hP hK hD hZ hA hS ⟨Nat.zero_le _, Nat.zero_le _⟩ hR.1 rfl (c_takeBar l E ad s_5 64 G9 hR c (by omega)) (cwV 1 hts gX4_unbar_X2_takeBar rfl rfl rfl (by decide +kernel) ⟨Nat.le_of_ble_eq_true rfl, Nat.le_of_ble_eq_true rfl⟩) hl.1 rfl (Nat.le_of_ble_eq_true rfl) dX4_unbar_41 (fun s_8 H locs hq hP hD hS => ?_)
  obtain ⟨hR, hf_7⟩ := hq
  have hN := hN.keep hf_7 (by omega) (by decide)
  have hH := hH.keep hf_7 (by omega) (by decide)
  have hQr := (hf_7 _ (by omega)).trans hQr
  have hT := hT.keep hf_7 (by omega) (by decide)
  have hB := hB.keep hf_7 (by omega) (by decide)
  have hTr := hTr.keep hf_7 (by omega) (by decide)
  have hRg : ∀ i, i < 6 → isR E ad s_8 (96 + 16 * i) sG (gN ((svR N Rs x) i)) := fun i hi => (hRg i hi).keep hf_7 (by omega) (by decide)
  have hf := hf.tr1 hf_7 (by omega) (by omega)
  refine lv_aload_n hx hb dX4_unbar_44 rfl (lv_at hl 0 rfl) ?_
  refine rg (v := .ref (ad 64)) (T := TX4) (N := 4) (C := RX4) hx hb hts hinX4 hown hK hP hN rfl 0 (by decide) (hts (.fieldLink RX4 12 "NeedleGrid" "now" "LNeedleGrid$Grid;") (by decide +kernel)) rfl dX4_unbar_45 ?_
  refine nVv (As := []) (rest := _) hx hb hml hown hts hP hK hD hZ hA hS ⟨Nat.zero_le _, Nat.zero_le _⟩ hR.1 rfl (c_measureAll l E ad s_8 64 (gu (gu G9 3 (upd (G9 3) c 0)) 4 (upd (G9 4) c 0)) hR ) (cwV 0 hts gX4_unbar_X2_measureAll rfl rfl rfl (by decide +kernel) ⟨Nat.le_of_ble_eq_true rfl, Nat.le_of_ble_eq_true rfl⟩) hl.1 rfl (Nat.le_of_ble_eq_true rfl) dX4_unbar_48 (fun s_11 H locs hq hP hD hS => ?_)
  obtain ⟨hR, hf_10⟩ := hq
  have hN := hN.keep hf_10 (by omega) (by decide)
  have hH := hH.keep hf_10 (by omega) (by decide)
  have hQr := (hf_10 _ (by omega)).trans hQr
  have hT := hT.keep hf_10 (by omega) (by decide)
  have hB := hB.keep hf_10 (by omega) (by decide)
  have hTr := hTr.keep hf_10 (by omega) (by decide)
  have hRg : ∀ i, i < 6 → isR E ad s_11 (96 + 16 * i) sG (gN ((svR N Rs x) i)) := fun i hi => (hRg i hi).keep hf_10 (by omega) (by decide)
  have hf := hf.tr1 hf_10 (by omega) (by omega)
  refine lv_aload_n hx hb dX4_unbar_51 rfl (lv_at hl 0 rfl) ?_
  refine rg (v := .ref (ad 64)) (T := TX4) (N := 4) (C := RX4) hx hb hts hinX4 hown hK hP hN rfl 0 (by decide) (hts (.fieldLink RX4 12 "NeedleGrid" "now" "LNeedleGrid$Grid;") (by decide +kernel)) rfl dX4_unbar_52 ?_
  refine nVi (As := []) (rest := _) hx hb hml hown hts hP hK hD hZ hA hS ⟨Nat.zero_le _, Nat.zero_le _⟩ hR.1 rfl (c_barCount l E ad s_11 64 (maG (gu (gu G9 3 (upd (G9 3) c 0)) 4 (upd (G9 4) c 0))) hR ) (cwV 0 hts gX4_unbar_X2_barCount rfl rfl rfl (by decide +kernel) ⟨Nat.le_of_ble_eq_true rfl, Nat.le_of_ble_eq_true rfl⟩) hl.1 rfl (Nat.le_of_ble_eq_true rfl) dX4_unbar_55 (fun r_12 s_13 H locs hq hP hD hS => ?_)
  obtain ⟨hrr_12, rfl⟩ := hq
  have hG := gN_bar (N := N) (d := 0) (t := 0) hc
  rw [← hGN] at hG
  exact hret _ _ _ _ _ _ hP hD hS (⟨by rw [hrr_12, hG], ⟨hN, hH, hQr, hT, ⟨_, hB⟩, (by rw [← hG]; exact hR), ⟨_, hTr⟩, hRg⟩, hf⟩) dX4_unbar_58

set_option maxHeartbeats 4000000 in
set_option maxRecDepth 100000 in
theorem c_coil (l : Launch) (E : NE) (ad : Nat → Nat) (st : NW) (N : Nat → Int32) (Rs : Nat → Nat → Int32) (a x : Nat) (C : Nat → Int32) (n : Nat) (ha : a ≤ 6) (hxx : x < 6) (hn : n ≤ 60) (hO : okH N) (hW : cW E ad st N Rs a x C n) (t : Int32) (d : Nat) (hd : d < 8) (h1 : ¬ t < 0) (h2 : t ≤ 50) : nMi l yX4_coil wsX4_coil (nRm 4 100) E ad st [.ref (ad 0), .int t, .int (nI d)] (fun r s1 => r = N 4 ∧ cW E ad s1 (upd (upd N 5 (nI d)) 4 t) (svR N Rs x) (svA a) (svX x) C n ∧ frX 0 208 st s1) := by
  refine nSi (cc := cX4_coil) (maxL := 4) (by decide) rfl (Nat.le_of_ble_eq_true rfl) ?_
  intro pg en s mi ar bw mth cd R Q A ls hx hb hml hown hts hRm hP hK hD hZ hA hl hret
  subst hRm
  have hown : s.vm.findClass RX4 = some mi.cls := hown
  have hS : va_S A s.heap s.heap [] := va_S.rf
  have hl : lv_has ls 4 [(0, .ref (ad 0)), (1, .int t), (2, .int (nI d))] := hl
  obtain ⟨hN, hH, hQr, hT, ⟨R0, hB⟩, hR, ⟨Tr, hTr⟩, hRg⟩ := hW
  obtain ⟨G9, hGN⟩ : ∃ G9, G9 = gN N := ⟨_, rfl⟩
  rw [← hGN] at hR
  have hf : frX 0 208 st st := frX.rf
  have hinX2 : ∀ w ∈ wsX20, w ∈ wsX4_coil := by decide +kernel
  have hinX3 : ∀ w ∈ wsX30, w ∈ wsX4_coil := by decide +kernel
  have hinX4 : ∀ w ∈ wsX40, w ∈ wsX4_coil := by decide +kernel
  refine lv_iload_n hx hb dX4_coil_0 rfl (lv_at hl 1 rfl) ?_
  refine lv_iconst (v := 0) hx hb dX4_coil_1 (by decide) ?_
  refine lv_bipush (v := 50) hx hb dX4_coil_2 (by decide) ?_
  refine nS_v (As := [.int t, .int 0, .int 50]) (rest := _) hx hb hml hown hts hP hK hD hZ hA hS ⟨Nat.zero_le _, Nat.zero_le _⟩ (c_requireBetween l E ad st t 0 50 h1 h2) (va_cwS 3 hts gX4_coil_X4_requireBetween rfl rfl rfl (by decide +kernel) ⟨Nat.le_of_ble_eq_true rfl, Nat.le_of_ble_eq_true rfl⟩) hl.1 rfl (Nat.le_of_ble_eq_true rfl) dX4_coil_4 (fun s_1 H locs hq hP hD hS => ?_)
  obtain rfl := hq
  refine lv_iload_n hx hb dX4_coil_7 rfl (lv_at hl 2 rfl) ?_
  refine nS_v (As := [.int (nI d)]) (rest := _) hx hb hml hown hts hP hK hD hZ hA hS ⟨Nat.zero_le _, Nat.zero_le _⟩ (c_requireDirection l E ad st d (by omega)) (va_cwS 1 hts gX4_coil_X4_requireDirection rfl rfl rfl (by decide +kernel) ⟨Nat.le_of_ble_eq_true rfl, Nat.le_of_ble_eq_true rfl⟩) hl.1 rfl (Nat.le_of_ble_eq_true rfl) dX4_coil_8 (fun s_2 H locs hq hP hD hS => ?_)
  obtain rfl := hq
  refine lv_aload_n hx hb dX4_coil_11 rfl (lv_at hl 0 rfl) ?_
  refine rg (v := .ref (ad 16)) (T := TX4) (N := 4) (C := RX4) hx hb hts hinX4 hown hK hP hN rfl 2 (by decide) (hts (.fieldLink RX4 22 "NeedleGrid" "history" "LNeedleGrid$History;") (by decide +kernel)) rfl dX4_coil_12 ?_
  refine lv_aload_n hx hb dX4_coil_15 rfl (lv_at hl 0 rfl) ?_
  refine rg (v := .ref (ad 64)) (T := TX4) (N := 4) (C := RX4) hx hb hts hinX4 hown hK hP hN rfl 0 (by decide) (hts (.fieldLink RX4 12 "NeedleGrid" "now" "LNeedleGrid$Grid;") (by decide +kernel)) rfl dX4_coil_16 ?_
  refine nVv (As := [.ref (ad 64)]) (rest := _) hx hb hml hown hts hP hK hD hZ hA hS ⟨Nat.zero_le _, Nat.zero_le _⟩ hH.1 rfl (c_save l E ad st a x ha hxx (fun i => gN (Rs i)) G9 (by rw [hGN]; exact hO.g) hH hQr hRg hR) (cwV 1 hts gX4_coil_X3_save rfl rfl rfl (by decide +kernel) ⟨Nat.le_of_ble_eq_true rfl, Nat.le_of_ble_eq_true rfl⟩) hl.1 rfl (Nat.le_of_ble_eq_true rfl) dX4_coil_19 (fun s_3 H locs hq hP hD hS => ?_)
  obtain ⟨hW, hfS⟩ := saveW ⟨hN, hH, hQr, hT, ⟨_, hB⟩, (by rw [← hGN]; exact hR), ⟨Tr, hTr⟩, hRg⟩ hq.1 (by have h9 := hq.2.1; rw [hGN] at h9; exact h9) hq.2.2
  obtain ⟨hN, hH, hQr, hT, ⟨R0, hB⟩, hR, ⟨Tr, hTr⟩, hRg⟩ := hW
  rw [← hGN] at hR
  have hf : frX 0 208 st s_3 := fun k9 h9 => (hfS k9 h9).trans (hf k9 h9)
  refine lv_aload_n hx hb dX4_coil_22 rfl (lv_at hl 0 rfl) ?_
  refine rg (v := .ref (ad 64)) (T := TX4) (N := 4) (C := RX4) hx hb hts hinX4 hown hK hP hN rfl 0 (by decide) (hts (.fieldLink RX4 12 "NeedleGrid" "now" "LNeedleGrid$Grid;") (by decide +kernel)) rfl dX4_coil_23 ?_
  refine rgN (v := .int (G9 6 0)) (T := TX2) (N := 13) (C := RX2) hx hb hts hinX2 hown hK hP hR rfl 6 (by decide) (nlF_92 hZ) rfl dX4_coil_26 ?_
  refine lv_topi (fun x3_29 ex3_29 => ?_)
  refine lv_istore_n (lv' := [(3, .int x3_29), (0, .ref (ad 0)), (1, .int t), (2, .int (nI d))]) hx hb dX4_coil_29 rfl hl (by decide) rfl (fun ls hl => ?_)
  refine lv_aload_n hx hb dX4_coil_30 rfl (lv_at hl 1 rfl) ?_
  refine rg (v := .ref (ad 64)) (T := TX4) (N := 4) (C := RX4) hx hb hts hinX4 hown hK hP hN rfl 0 (by decide) (hts (.fieldLink RX4 12 "NeedleGrid" "now" "LNeedleGrid$Grid;") (by decide +kernel)) rfl dX4_coil_31 ?_
  refine lv_iload_n hx hb dX4_coil_34 rfl (lv_at hl 2 rfl) ?_
  refine rpN (v := t) (ty := .int) (T := TX2) (N := 13) (C := RX2) hx hb hts hinX2 tyX2 tyX2_ok nmX2 hown hK hP hD hS hR rfl 6 (by decide) (nlF_92 hZ) rfl rfl (by decide +kernel) rfl rfl dX4_coil_35 (fun s_4 H locs hR hf_5 hP hD hS => ?_)
  have hN := hN.keep hf_5 (by omega) (by decide)
  have hH := hH.keep hf_5 (by omega) (by decide)
  have hQr := (hf_5 _ (by omega)).trans hQr
  have hT := hT.keep hf_5 (by omega) (by decide)
  have hB := hB.keep hf_5 (by omega) (by decide)
  have hTr := hTr.keep hf_5 (by omega) (by decide)
  have hRg : ∀ i, i < 6 → isR E ad s_4 (96 + 16 * i) sG (gN ((svR N Rs x) i)) := fun i hi => (hRg i hi).keep hf_5 (by omega) (by decide)
  have hf := hf.tr1 hf_5 (by omega) (by omega)
  refine lv_aload_n hx hb dX4_coil_38 rfl (lv_at hl 1 rfl) ?_
  refine rg (v := .ref (ad 64)) (T := TX4) (N := 4) (C := RX4) hx hb hts hinX4 hown hK hP hN rfl 0 (by decide) (hts (.fieldLink RX4 12 "NeedleGrid" "now" "LNeedleGrid$Grid;") (by decide +kernel)) rfl dX4_coil_39 ?_
  refine lv_iload_n hx hb dX4_coil_42 rfl (lv_at hl 3 rfl) ?_
  refine rpN (v := nI d) (ty := .int) (T := TX2) (N := 13) (C := RX2) hx hb hts hinX2 tyX2 tyX2_ok nmX2 hown hK hP hD hS hR rfl 7 (by decide) (nlF_96 hZ) rfl rfl (by decide +kernel) rfl rfl dX4_coil_43 (fun s_6 H locs hR hf_7 hP hD hS => ?_)
  have hN := hN.keep hf_7 (by omega) (by decide)
  have hH := hH.keep hf_7 (by omega) (by decide)
  have hQr := (hf_7 _ (by omega)).trans hQr
  have hT := hT.keep hf_7 (by omega) (by decide)
  have hB := hB.keep hf_7 (by omega) (by decide)
  have hTr := hTr.keep hf_7 (by omega) (by decide)
  have hRg : ∀ i, i < 6 → isR E ad s_6 (96 + 16 * i) sG (gN ((svR N Rs x) i)) := fun i hi => (hRg i hi).keep hf_7 (by omega) (by decide)
  have hf := hf.tr1 hf_7 (by omega) (by omega)
  refine lv_aload_n hx hb dX4_coil_46 rfl (lv_at hl 1 rfl) ?_
  refine rg (v := .ref (ad 64)) (T := TX4) (N := 4) (C := RX4) hx hb hts hinX4 hown hK hP hN rfl 0 (by decide) (hts (.fieldLink RX4 12 "NeedleGrid" "now" "LNeedleGrid$Grid;") (by decide +kernel)) rfl dX4_coil_47 ?_
  refine nVv (As := []) (rest := _) hx hb hml hown hts hP hK hD hZ hA hS ⟨Nat.zero_le _, Nat.zero_le _⟩ hR.1 rfl (c_measureAll l E ad s_6 64 (gu (gu G9 6 (fun _ => t)) 7 (fun _ => nI d)) hR ) (cwV 0 hts gX4_coil_X2_measureAll rfl rfl rfl (by decide +kernel) ⟨Nat.le_of_ble_eq_true rfl, Nat.le_of_ble_eq_true rfl⟩) hl.1 rfl (Nat.le_of_ble_eq_true rfl) dX4_coil_50 (fun s_10 H locs hq hP hD hS => ?_)
  obtain ⟨hR, hf_9⟩ := hq
  have hN := hN.keep hf_9 (by omega) (by decide)
  have hH := hH.keep hf_9 (by omega) (by decide)
  have hQr := (hf_9 _ (by omega)).trans hQr
  have hT := hT.keep hf_9 (by omega) (by decide)
  have hB := hB.keep hf_9 (by omega) (by decide)
  have hTr := hTr.keep hf_9 (by omega) (by decide)
  have hRg : ∀ i, i < 6 → isR E ad s_10 (96 + 16 * i) sG (gN ((svR N Rs x) i)) := fun i hi => (hRg i hi).keep hf_9 (by omega) (by decide)
  have hf := hf.tr1 hf_9 (by omega) (by omega)
  refine lv_iload_n hx hb dX4_coil_53 rfl (lv_at hl 0 rfl) ?_
  exact hret _ _ _ _ _ _ hP hD hS (⟨by subst ex3_29; rw [hGN]; exact gN6, ⟨hN, hH, hQr, hT, ⟨_, hB⟩, (by rw [← gN_coil, ← hGN]; exact hR), ⟨_, hTr⟩, hRg⟩, hf⟩) dX4_coil_54


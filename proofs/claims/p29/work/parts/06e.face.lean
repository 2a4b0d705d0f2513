set_option maxHeartbeats 4000000 in
set_option maxRecDepth 100000 in
theorem c_set (l : Launch) (E : NE) (ad : Nat → Nat) (st : NW) (N : Nat → Int32) (Rs : Nat → Nat → Int32) (a x : Nat) (C : Nat → Int32) (n : Nat) (ha : a ≤ 6) (hxx : x < 6) (hn : n ≤ 60) (hO : okH N) (hW : cW E ad st N Rs a x C n) (c : Nat) (v : Int32) (hc : c < 3) (h1 : ¬ v < 0) (h2 : v ≤ tM c) : nMi l yX4_set wsX4_set (nRm 4 100) E ad st [.ref (ad 0), .int (nI c), .int v] (fun r s1 => r = N c ∧ cW E ad s1 (upd N c v) (svR N Rs x) (svA a) (svX x) C n ∧ frX 0 208 st s1) := by
  refine nSi (cc := cX4_set) (maxL := 4) (by decide) rfl (Nat.le_of_ble_eq_true rfl) ?_
  intro pg en s mi ar bw mth cd R Q A ls hx hb hml hown hts hRm hP hK hD hZ hA hl hret
  subst hRm
  have hown : s.vm.findClass RX4 = some mi.cls := hown
  have hS : va_S A s.heap s.heap [] := va_S.rf
  have hl : lv_has ls 4 [(0, .ref (ad 0)), (1, .int (nI c)), (2, .int v)] := hl
  obtain ⟨hN, hH, hQr, hT, ⟨R0, hB⟩, hR, ⟨Tr, hTr⟩, hRg⟩ := hW
  obtain ⟨G9, hGN⟩ : ∃ G9, G9 = gN N := ⟨_, rfl⟩
  rw [← hGN] at hR
  have hf : frX 0 208 st st := frX.rf
  have hinX2 : ∀ w ∈ wsX20, w ∈ wsX4_set := by decide +kernel
  have hinX3 : ∀ w ∈ wsX30, w ∈ wsX4_set := by decide +kernel
  have hinX4 : ∀ w ∈ wsX40, w ∈ wsX4_set := by decide +kernel
  refine lv_iload_n hx hb dX4_set_0 rfl (lv_at hl 1 rfl) ?_
  refine nS_v (As := [.int (nI c)]) (rest := _) hx hb hml hown hts hP hK hD hZ hA hS ⟨Nat.zero_le _, Nat.zero_le _⟩ (c_requireSetting l E ad st c (by omega)) (va_cwS 1 hts gX4_set_X4_requireSetting rfl rfl rfl (by decide +kernel) ⟨Nat.le_of_ble_eq_true rfl, Nat.le_of_ble_eq_true rfl⟩) hl.1 rfl (Nat.le_of_ble_eq_true rfl) dX4_set_1 (fun s_1 H locs hq hP hD hS => ?_)
  obtain rfl := hq
  refine lv_iload_n hx hb dX4_set_4 rfl (lv_at hl 2 rfl) ?_
  refine lv_iconst (v := 0) hx hb dX4_set_5 (by decide) ?_
  refine ngs hx hb hZ.1.2.2 hS hown (hts (.fieldLink RX4 102 "NeedleGrid" "MOST_OF_SETTING" "[I") (by decide +kernel)) dX4_set_6 ?_
  refine lv_iload_n hx hb dX4_set_9 rfl (lv_at hl 1 rfl) ?_
  refine nga hx hb hZ.1.2.2 hS (vp_in_nI hc (by decide)) dX4_set_10 ?_
  refine nS_v (As := [.int v, .int 0, .int (tM (nI c).toNatClampNeg)]) (rest := _) hx hb hml hown hts hP hK hD hZ hA hS ⟨Nat.zero_le _, Nat.zero_le _⟩ (c_requireBetween l E ad st v 0 (tM (nI c).toNatClampNeg) h1 (by rw [nI_clamp (by omega)]; exact h2)) (va_cwS 3 hts gX4_set_X4_requireBetween rfl rfl rfl (by decide +kernel) ⟨Nat.le_of_ble_eq_true rfl, Nat.le_of_ble_eq_true rfl⟩) hl.1 rfl (Nat.le_of_ble_eq_true rfl) dX4_set_11 (fun s_2 H locs hq hP hD hS => ?_)
  obtain rfl := hq
  refine lv_aload_n hx hb dX4_set_14 rfl (lv_at hl 0 rfl) ?_
  refine rg (v := .ref (ad 16)) (T := TX4) (N := 4) (C := RX4) hx hb hts hinX4 hown hK hP hN rfl 2 (by decide) (hts (.fieldLink RX4 22 "NeedleGrid" "history" "LNeedleGrid$History;") (by decide +kernel)) rfl dX4_set_15 ?_
  refine lv_aload_n hx hb dX4_set_18 rfl (lv_at hl 0 rfl) ?_
  refine rg (v := .ref (ad 64)) (T := TX4) (N := 4) (C := RX4) hx hb hts hinX4 hown hK hP hN rfl 0 (by decide) (hts (.fieldLink RX4 12 "NeedleGrid" "now" "LNeedleGrid$Grid;") (by decide +kernel)) rfl dX4_set_19 ?_
  refine nVv (As := [.ref (ad 64)]) (rest := _) hx hb hml hown hts hP hK hD hZ hA hS ⟨Nat.zero_le _, Nat.zero_le _⟩ hH.1 rfl (c_save l E ad st a x ha hxx (fun i => gN (Rs i)) G9 (by rw [hGN]; exact hO.g) hH hQr hRg hR) (cwV 1 hts gX4_set_X3_save rfl rfl rfl (by decide +kernel) ⟨Nat.le_of_ble_eq_true rfl, Nat.le_of_ble_eq_true rfl⟩) hl.1 rfl (Nat.le_of_ble_eq_true rfl) dX4_set_22 (fun s_3 H locs hq hP hD hS => ?_)
  obtain ⟨hW, hfS⟩ := saveW ⟨hN, hH, hQr, hT, ⟨_, hB⟩, (by rw [← hGN]; exact hR), ⟨Tr, hTr⟩, hRg⟩ hq.1 (by have h9 := hq.2.1; rw [hGN] at h9; exact h9) hq.2.2
  obtain ⟨hN, hH, hQr, hT, ⟨R0, hB⟩, hR, ⟨Tr, hTr⟩, hRg⟩ := hW
  rw [← hGN] at hR
  have hf : frX 0 208 st s_3 := fun k9 h9 => (hfS k9 h9).trans (hf k9 h9)
  refine lv_aload_n hx hb dX4_set_25 rfl (lv_at hl 0 rfl) ?_
  refine rg (v := .ref (ad 64)) (T := TX4) (N := 4) (C := RX4) hx hb hts hinX4 hown hK hP hN rfl 0 (by decide) (hts (.fieldLink RX4 12 "NeedleGrid" "now" "LNeedleGrid$Grid;") (by decide +kernel)) rfl dX4_set_26 ?_
  refine rgN (v := .ref (ad (64 + 1 + 5))) (T := TX2) (N := 13) (C := RX2) hx hb hts hinX2 hown hK hP hR rfl 5 (by decide) (nlF_105 hZ) rfl dX4_set_29 ?_
  refine lv_iload_n hx hb dX4_set_32 rfl (lv_at hl 1 rfl) ?_
  refine ra (j := c) (n := 3) hx hb hK hP hR 5 rfl (by omega) (by decide) dX4_set_33 ?_
  refine lv_topi (fun x3_34 ex3_34 => ?_)
  refine lv_istore_n (lv' := [(3, .int x3_34), (0, .ref (ad 0)), (1, .int (nI c)), (2, .int v)]) hx hb dX4_set_34 rfl hl (by decide) rfl (fun ls hl => ?_)
  refine lv_aload_n hx hb dX4_set_35 rfl (lv_at hl 1 rfl) ?_
  refine rg (v := .ref (ad 64)) (T := TX4) (N := 4) (C := RX4) hx hb hts hinX4 hown hK hP hN rfl 0 (by decide) (hts (.fieldLink RX4 12 "NeedleGrid" "now" "LNeedleGrid$Grid;") (by decide +kernel)) rfl dX4_set_36 ?_
  refine rgN (v := .ref (ad (64 + 1 + 5))) (T := TX2) (N := 13) (C := RX2) hx hb hts hinX2 hown hK hP hR rfl 5 (by decide) (nlF_105 hZ) rfl dX4_set_39 ?_
  refine lv_iload_n hx hb dX4_set_42 rfl (lv_at hl 2 rfl) ?_
  refine lv_iload_n hx hb dX4_set_43 rfl (lv_at hl 3 rfl) ?_
  refine rs (j := c) (n := 3) (x := v) hx hb hK hP hD hS hR 5 rfl (by decide) (by omega) (by decide) dX4_set_44 (fun s_4 H locs hR hf_5 hP hD hS => ?_)
  have hN := hN.keep hf_5 (by omega) (by decide)
  have hH := hH.keep hf_5 (by omega) (by decide)
  have hQr := (hf_5 _ (by omega)).trans hQr
  have hT := hT.keep hf_5 (by omega) (by decide)
  have hB := hB.keep hf_5 (by omega) (by decide)
  have hTr := hTr.keep hf_5 (by omega) (by decide)
  have hRg : ∀ i, i < 6 → isR E ad s_4 (96 + 16 * i) sG (gN ((svR N Rs x) i)) := fun i hi => (hRg i hi).keep hf_5 (by omega) (by decide)
  have hf := hf.tr1 hf_5 (by omega) (by omega)
  refine lv_aload_n hx hb dX4_set_45 rfl (lv_at hl 1 rfl) ?_
  refine rg (v := .ref (ad 64)) (T := TX4) (N := 4) (C := RX4) hx hb hts hinX4 hown hK hP hN rfl 0 (by decide) (hts (.fieldLink RX4 12 "NeedleGrid" "now" "LNeedleGrid$Grid;") (by decide +kernel)) rfl dX4_set_46 ?_
  refine nVv (As := []) (rest := _) hx hb hml hown hts hP hK hD hZ hA hS ⟨Nat.zero_le _, Nat.zero_le _⟩ hR.1 rfl (c_measureAll l E ad s_4 64 (gu G9 5 (upd (G9 5) c v)) hR ) (cwV 0 hts gX4_set_X2_measureAll rfl rfl rfl (by decide +kernel) ⟨Nat.le_of_ble_eq_true rfl, Nat.le_of_ble_eq_true rfl⟩) hl.1 rfl (Nat.le_of_ble_eq_true rfl) dX4_set_49 (fun s_8 H locs hq hP hD hS => ?_)
  obtain ⟨hR, hf_7⟩ := hq
  have hN := hN.keep hf_7 (by omega) (by decide)
  have hH := hH.keep hf_7 (by omega) (by decide)
  have hQr := (hf_7 _ (by omega)).trans hQr
  have hT := hT.keep hf_7 (by omega) (by decide)
  have hB := hB.keep hf_7 (by omega) (by decide)
  have hTr := hTr.keep hf_7 (by omega) (by decide)
  have hRg : ∀ i, i < 6 → isR E ad s_8 (96 + 16 * i) sG (gN ((svR N Rs x) i)) := fun i hi => (hRg i hi).keep hf_7 (by omega) (by decide)
  have hf := hf.tr1 hf_7 (by omega) (by omega)
  refine lv_iload_n hx hb dX4_set_52 rfl (lv_at hl 0 rfl) ?_
  exact hret _ _ _ _ _ _ hP hD hS (⟨by subst ex3_34; rw [hGN]; exact gN5 hc, ⟨hN, hH, hQr, hT, ⟨_, hB⟩, (by rw [← gN_set hc, ← hGN]; exact hR), ⟨_, hTr⟩, hRg⟩, hf⟩) dX4_set_53

set_option maxHeartbeats 4000000 in
set_option maxRecDepth 100000 in
theorem c_step (l : Launch) (E : NE) (ad : Nat → Nat) (st : NW) (N : Nat → Int32) (Rs : Nat → Nat → Int32) (a x : Nat) (C : Nat → Int32) (n : Nat) (ha : a ≤ 6) (hxx : x < 6) (hn : n ≤ 60) (hO : okH N) (hW : cW E ad st N Rs a x C n) (k : Nat) (hk : k ≤ 50) (hk1 : 1 ≤ k) : nMi l yX4_step wsX4_step (nRm 5 114) E ad st [.ref (ad 0), .int (nI k)] (fun r s1 => r = tgN (gN N) k ∧ cW E ad s1 (upd (itN N k) 3 (N 3 + nI k)) (svR N Rs x) (svA a) (svX x) C n ∧ frX 0 208 st s1) := by
  refine nSi (cc := cX4_step) (maxL := 2) (by decide) rfl (Nat.le_of_ble_eq_true rfl) ?_
  intro pg en s mi ar bw mth cd R Q A ls hx hb hml hown hts hRm hP hK hD hZ hA hl hret
  subst hRm
  have hown : s.vm.findClass RX4 = some mi.cls := hown
  have hS : va_S A s.heap s.heap [] := va_S.rf
  have hl : lv_has ls 2 [(0, .ref (ad 0)), (1, .int (nI k))] := hl
  obtain ⟨hN, hH, hQr, hT, ⟨R0, hB⟩, hR, ⟨Tr, hTr⟩, hRg⟩ := hW
  obtain ⟨G9, hGN⟩ : ∃ G9, G9 = gN N := ⟨_, rfl⟩
  rw [← hGN] at hR
  have hf : frX 0 208 st st := frX.rf
  have hinX2 : ∀ w ∈ wsX20, w ∈ wsX4_step := by decide +kernel
  have hinX3 : ∀ w ∈ wsX30, w ∈ wsX4_step := by decide +kernel
  have hinX4 : ∀ w ∈ wsX40, w ∈ wsX4_step := by decide +kernel
  refine lv_iload_n hx hb dX4_step_0 rfl (lv_at hl 1 rfl) ?_
  refine lv_iconst (v := 1) hx hb dX4_step_1 (by decide) ?_
  refine lv_bipush (v := 50) hx hb dX4_step_2 (by decide) ?_
  refine nS_v (As := [.int (nI k), .int 1, .int 50]) (rest := _) hx hb hml hown hts hP hK hD hZ hA hS ⟨Nat.zero_le _, Nat.zero_le _⟩ (c_requireBetween l E ad st (nI k) 1 50 (fun h9 => by have := (nI_ltL (n := 1) rfl (by decide) (by omega)).mp h9; omega) ((nI_leL (n := 50) rfl (by decide) (by omega)).mpr (by omega))) (va_cwS 3 hts gX4_step_X4_requireBetween rfl rfl rfl (by decide +kernel) ⟨Nat.le_of_ble_eq_true rfl, Nat.le_of_ble_eq_true rfl⟩) hl.1 rfl (Nat.le_of_ble_eq_true rfl) dX4_step_4 (fun s_1 H locs hq hP hD hS => ?_)
  obtain rfl := hq
  refine lv_aload_n hx hb dX4_step_7 rfl (lv_at hl 0 rfl) ?_
  refine rg (v := .ref (ad 16)) (T := TX4) (N := 4) (C := RX4) hx hb hts hinX4 hown hK hP hN rfl 2 (by decide) (hts (.fieldLink RX4 22 "NeedleGrid" "history" "LNeedleGrid$History;") (by decide +kernel)) rfl dX4_step_8 ?_
  refine lv_aload_n hx hb dX4_step_11 rfl (lv_at hl 0 rfl) ?_
  refine rg (v := .ref (ad 64)) (T := TX4) (N := 4) (C := RX4) hx hb hts hinX4 hown hK hP hN rfl 0 (by decide) (hts (.fieldLink RX4 12 "NeedleGrid" "now" "LNeedleGrid$Grid;") (by decide +kernel)) rfl dX4_step_12 ?_
  refine nVv (As := [.ref (ad 64)]) (rest := _) hx hb hml hown hts hP hK hD hZ hA hS ⟨Nat.zero_le _, Nat.zero_le _⟩ hH.1 rfl (c_save l E ad st a x ha hxx (fun i => gN (Rs i)) G9 (by rw [hGN]; exact hO.g) hH hQr hRg hR) (cwV 1 hts gX4_step_X3_save rfl rfl rfl (by decide +kernel) ⟨Nat.le_of_ble_eq_true rfl, Nat.le_of_ble_eq_true rfl⟩) hl.1 rfl (Nat.le_of_ble_eq_true rfl) dX4_step_15 (fun s_2 H locs hq hP hD hS => ?_)
  obtain ⟨hW, hfS⟩ := saveW ⟨hN, hH, hQr, hT, ⟨_, hB⟩, (by rw [← hGN]; exact hR), ⟨Tr, hTr⟩, hRg⟩ hq.1 (by have h9 := hq.2.1; rw [hGN] at h9; exact h9) hq.2.2
  obtain ⟨hN, hH, hQr, hT, ⟨R0, hB⟩, hR, ⟨Tr, hTr⟩, hRg⟩ := hW
  rw [← hGN] at hR
  have hf : frX 0 208 st s_2 := fun k9 h9 => (hfS k9 h9).trans (hf k9 h9)
  refine lv_aload_n hx hb dX4_step_18 rfl (lv_at hl 0 rfl) ?_
  refine rg (v := .ref (ad 64)) (T := TX4) (N := 4) (C := RX4) hx hb hts hinX4 hown hK hP hN rfl 0 (by decide) (hts (.fieldLink RX4 12 "NeedleGrid" "now" "LNeedleGrid$Grid;") (by decide +kernel)) rfl dX4_step_19 ?_
  refine lv_iload_n hx hb dX4_step_22 rfl (lv_at hl 1 rfl) ?_
  refine nVi (As := [.int (nI k)]) (rest := _) hx hb hml hown hts hP hK hD hZ hA hS ⟨Nat.zero_le _, Nat.zero_le _⟩ hR.1 rfl (c_letGoBy l E ad s_2 64 G9 hR k (by omega)) (cwV 1 hts gX4_step_X2_letGoBy rfl rfl rfl (by decide +kernel) ⟨Nat.le_of_ble_eq_true rfl, Nat.le_of_ble_eq_true rfl⟩) hl.1 rfl (Nat.le_of_ble_eq_true rfl) dX4_step_23 (fun r_3 s_5 H locs hq hP hD hS => ?_)
  obtain ⟨hrr_3, hR, hf_4⟩ := hq
  have hN := hN.keep hf_4 (by omega) (by decide)
  have hH := hH.keep hf_4 (by omega) (by decide)
  have hQr := (hf_4 _ (by omega)).trans hQr
  have hT := hT.keep hf_4 (by omega) (by decide)
  have hB := hB.keep hf_4 (by omega) (by decide)
  have hTr := hTr.keep hf_4 (by omega) (by decide)
  have hRg : ∀ i, i < 6 → isR E ad s_5 (96 + 16 * i) sG (gN ((svR N Rs x) i)) := fun i hi => (hRg i hi).keep hf_4 (by omega) (by decide)
  have hf := hf.tr1 hf_4 (by omega) (by omega)
  have hG := gN_step (N := N) (n := k) rfl
  rw [← hGN] at hG
  exact hret _ _ _ _ _ _ hP hD hS (⟨by rw [← hGN]; exact hrr_3, ⟨hN, hH, hQr, hT, ⟨_, hB⟩, (by rw [← hG]; exact hR), ⟨_, hTr⟩, hRg⟩, hf⟩) dX4_step_26

set_option maxHeartbeats 4000000 in
set_option maxRecDepth 100000 in
theorem c_undo (l : Launch) (E : NE) (ad : Nat → Nat) (st : NW) (N : Nat → Int32) (Rs : Nat → Nat → Int32) (a x : Nat) (C : Nat → Int32) (n : Nat) (ha : a ≤ 6) (hxx : x < 6) (hn : n ≤ 60) (hO : okH N) (hW : cW E ad st N Rs a x C n) (ha0 : 0 < a) (hOs : ∀ i, i < 6 → okH (Rs i)) : nMi l yX4_undo wsX4_undo (nRm 2 44) E ad st [.ref (ad 0)] (fun r s1 => r = nI (a - 1) ∧ cW E ad s1 (Rs (if 0 < x then x - 1 else 5)) Rs (a - 1) (if 0 < x then x - 1 else 5) C n ∧ frX 0 208 st s1) := by
  refine nSi (cc := cX4_undo) (maxL := 1) (by decide) rfl (Nat.le_of_ble_eq_true rfl) ?_
  intro pg en s mi ar bw mth cd R Q A ls hx hb hml hown hts hRm hP hK hD hZ hA hl hret
  subst hRm
  have hown : s.vm.findClass RX4 = some mi.cls := hown
  have hS : va_S A s.heap s.heap [] := va_S.rf
  have hl : lv_has ls 1 [(0, .ref (ad 0))] := hl
  obtain ⟨hN, hH, hQr, hT, ⟨R0, hB⟩, hR, ⟨Tr, hTr⟩, hRg⟩ := hW
  obtain ⟨G9, hGN⟩ : ∃ G9, G9 = gN N := ⟨_, rfl⟩
  rw [← hGN] at hR
  have hf : frX 0 208 st st := frX.rf
  have hinX2 : ∀ w ∈ wsX20, w ∈ wsX4_undo := by decide +kernel
  have hinX3 : ∀ w ∈ wsX30, w ∈ wsX4_undo := by decide +kernel
  have hinX4 : ∀ w ∈ wsX40, w ∈ wsX4_undo := by decide +kernel
  refine lv_aload_n hx hb dX4_undo_0 rfl (lv_at hl 0 rfl) ?_
  refine rg (v := .ref (ad 16)) (T := TX4) (N := 4) (C := RX4) hx hb hts hinX4 hown hK hP hN rfl 2 (by decide) (hts (.fieldLink RX4 22 "NeedleGrid" "history" "LNeedleGrid$History;") (by decide +kernel)) rfl dX4_undo_1 ?_
  refine rgN (v := .int (nI a)) (T := TX3) (N := 3) (C := RX3) hx hb hts hinX3 hown hK hP hH rfl 1 (by decide) (nlF_138 hZ) rfl dX4_undo_4 ?_
  refine lv_if_ne (tgt := 20) hx hb dX4_undo_7 (by decide) (fun c7_0 => ?_) (fun c7_0 => absurd ((nI_eq (a := a) (b := 0) (by omega) (by omega)).mp c7_0) (by omega))
  refine lv_aload_n hx hb dX4_undo_20 rfl (lv_at hl 0 rfl) ?_
  refine rg (v := .ref (ad 16)) (T := TX4) (N := 4) (C := RX4) hx hb hts hinX4 hown hK hP hN rfl 2 (by decide) (hts (.fieldLink RX4 22 "NeedleGrid" "history" "LNeedleGrid$History;") (by decide +kernel)) rfl dX4_undo_21 ?_
  refine lv_aload_n hx hb dX4_undo_24 rfl (lv_at hl 0 rfl) ?_
  refine rg (v := .ref (ad 64)) (T := TX4) (N := 4) (C := RX4) hx hb hts hinX4 hown hK hP hN rfl 0 (by decide) (hts (.fieldLink RX4 12 "NeedleGrid" "now" "LNeedleGrid$Grid;") (by decide +kernel)) rfl dX4_undo_25 ?_
  refine nVv (As := [.ref (ad 64)]) (rest := _) hx hb hml hown hts hP hK hD hZ hA hS ⟨Nat.zero_le _, Nat.zero_le _⟩ hH.1 rfl (c_restoreInto l E ad st a x ha ha0 hxx (fun i => gN (Rs i)) G9 (fun i hi => (hOs i hi).g) hH hQr hRg hR) (cwV 1 hts gX4_undo_X3_restoreInto rfl rfl rfl (by decide +kernel) ⟨Nat.le_of_ble_eq_true rfl, Nat.le_of_ble_eq_true rfl⟩) hl.1 rfl (Nat.le_of_ble_eq_true rfl) dX4_undo_28 (fun s_2 H locs hq hP hD hS => ?_)
  obtain ⟨hH, hR, hRg9, hf9⟩ := hq
  have hN := hN.keepP (fun k9 h8 h7 => hf9 k9 (by omega)) (by decide)
  have hT := hT.keepP (fun k9 h8 h7 => hf9 k9 (by omega)) (by decide)
  have hB := hB.keepP (fun k9 h8 h7 => hf9 k9 (by omega)) (by decide)
  have hTr := hTr.keepP (fun k9 h8 h7 => hf9 k9 (by omega)) (by decide)
  have hQr := (hf9 12 (by omega)).trans hQr
  have hRg := hRg9
  have hf : frX 0 208 st s_2 := fun k9 h9 => (hf9 k9 (by omega)).trans (hf k9 h9)
  refine lv_aload_n hx hb dX4_undo_31 rfl (lv_at hl 0 rfl) ?_
  refine rg (v := .ref (ad 16)) (T := TX4) (N := 4) (C := RX4) hx hb hts hinX4 hown hK hP hN rfl 2 (by decide) (hts (.fieldLink RX4 22 "NeedleGrid" "history" "LNeedleGrid$History;") (by decide +kernel)) rfl dX4_undo_32 ?_
  refine rgN (v := .int (nI (a - 1))) (T := TX3) (N := 3) (C := RX3) hx hb hts hinX3 hown hK hP hH rfl 1 (by decide) (nlF_138 hZ) rfl dX4_undo_35 ?_
  exact hret _ _ _ _ _ _ hP hD hS (⟨rfl, ⟨hN, hH, hQr, hT, ⟨_, hB⟩, hR, ⟨_, hTr⟩, hRg⟩, hf⟩) dX4_undo_38


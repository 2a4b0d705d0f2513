set_option maxHeartbeats 4000000 in
set_option maxRecDepth 100000 in
theorem l_low (l : Launch) (E : NE) (ad : Nat → Nat) (st : NW) (v : Int32) (n : Nat) (h0 : 0 < n) (hn : n < 2 ^ 31) : nMi l yL_low wsL_low (nRm 0 0) E ad st [.int v, .int (nI n)] (fun r s1 => r = nI (lwN v n) ∧ st = s1) := by
  refine nSi (cc := cL_low) (maxL := 2) (by decide) rfl (Nat.le_of_ble_eq_true rfl) ?_
  intro pg en s mi ar bw mth cd R Q A ls hx hb hml hown hts hRm hP hK hD hZ hA hl hret
  subst hRm
  have hown : s.vm.findClass RL = some mi.cls := hown
  have hS : va_S A s.heap s.heap [] := va_S.rf
  have hl : lv_has ls 2 [(0, .int v), (1, .int (nI n))] := hl
  refine lv_iload_n hx hb dL_low_0 rfl (lv_at hl 0 rfl) ?_
  refine lv_ldc (v := 2147483647) hx hb hown (hts (.constant RL 7 2147483647) (by decide +kernel)) dL_low_1 ?_
  refine lv_iand hx hb dL_low_3 ?_
  refine lv_iload_n hx hb dL_low_4 rfl (lv_at hl 1 rfl) ?_
  refine lv_irem hx hb dL_low_5 (nI_ne0 h0 hn) ?_
  exact hret _ _ _ _ _ _ hP hD hS (⟨lw_low h0 hn, rfl⟩) dL_low_6

set_option maxHeartbeats 4000000 in
set_option maxRecDepth 100000 in
theorem l_cell (l : Launch) (E : NE) (ad : Nat → Nat) (st : NW) (hL : E.2.2 4 < 2 ^ 31) (k : Nat) (hk : k < 2 ^ 31) : nMi l yL_cell wsL_cell (nRm 0 0) E ad st [.ref (E.2.2 3), .int (nI k)] (fun r s1 => r = scI E k ∧ st = s1) := by
  refine nSi (cc := cL_cell) (maxL := 2) (by decide) rfl (Nat.le_of_ble_eq_true rfl) ?_
  intro pg en s mi ar bw mth cd R Q A ls hx hb hml hown hts hRm hP hK hD hZ hA hl hret
  subst hRm
  have hown : s.vm.findClass RL = some mi.cls := hown
  have hS : va_S A s.heap s.heap [] := va_S.rf
  have hl : lv_has ls 2 [(0, .ref (E.2.2 3)), (1, .int (nI k))] := hl
  refine lv_iload_n hx hb dL_cell_0 rfl (lv_at hl 1 rfl) ?_
  refine lv_aload_n hx hb dL_cell_1 rfl (lv_at hl 0 rfl) ?_
  refine va_tlen hx hb hZ.2.1.2.2 hS (v := nI (E.2.2 4)) rfl dL_cell_2 ?_
  refine lv_icmp_ge (tgt := 12) hx hb dL_cell_3 (by decide) (fun c3_0 => ?_) (fun c3_0 => ?_)
  · refine lv_ldc (v := 40503) hx hb hown (hts (.constant RL 8 40503) (by decide +kernel)) dL_cell_12 ?_
    refine lv_iload_n hx hb dL_cell_14 rfl (lv_at hl 1 rfl) ?_
    refine lv_imul hx hb dL_cell_15 ?_
    refine lv_sipush (v := 977) hx hb dL_cell_16 (by decide) ?_
    refine lv_iadd hx hb dL_cell_19 ?_
    exact hret _ _ _ _ _ _ hP hD hS (⟨by unfold scI; rw [if_neg (fun z => nI_ge z hL c3_0)], rfl⟩) dL_cell_20
  · have hlt : k < E.2.2 4 := Nat.not_le.mp fun z => c3_0 (nI_le z hk)
    refine lv_aload_n hx hb dL_cell_6 rfl (lv_at hl 0 rfl) ?_
    refine lv_iload_n hx hb dL_cell_7 rfl (lv_at hl 1 rfl) ?_
    refine va_ti hx hb hZ.2.1.2.2 hS (vp_in_nI hlt hL) (v := .int (scr E k)) (congrArg (fun j9 => Value.int (scr E j9)) (nI_clamp hk)) dL_cell_8 ?_
    refine lv_goto (tgt := 20) hx hb dL_cell_9 (by decide) ?_
    exact hret _ _ _ _ _ _ hP hD hS (⟨by unfold scI; rw [if_pos hlt], rfl⟩) dL_cell_20

set_option maxHeartbeats 4000000 in
set_option maxRecDepth 100000 in
theorem l_size (l : Launch) (E : NE) (ad : Nat → Nat) (st : NW) (x : Int32) : nMi l yL_size wsL_size (nRm 0 0) E ad st [.int x] (fun r s1 => r = ab x ∧ st = s1) := by
  refine nSi (cc := cL_size) (maxL := 1) (by decide) rfl (Nat.le_of_ble_eq_true rfl) ?_
  intro pg en s mi ar bw mth cd R Q A ls hx hb hml hown hts hRm hP hK hD hZ hA hl hret
  subst hRm
  have hown : s.vm.findClass RL = some mi.cls := hown
  have hS : va_S A s.heap s.heap [] := va_S.rf
  have hl : lv_has ls 1 [(0, .int x)] := hl
  refine lv_iload_n hx hb dL_size_0 rfl (lv_at hl 0 rfl) ?_
  refine lv_if_ge (tgt := 9) hx hb dL_size_1 (by decide) (fun c1_0 => ?_) (fun c1_0 => ?_)
  · refine lv_iload_n hx hb dL_size_9 rfl (lv_at hl 0 rfl) ?_
    exact hret _ _ _ _ _ _ hP hD hS (⟨(ab_ge c1_0).symm, rfl⟩) dL_size_10
  · refine lv_iload_n hx hb dL_size_4 rfl (lv_at hl 0 rfl) ?_
    refine lv_ineg hx hb dL_size_5 ?_
    refine lv_goto (tgt := 10) hx hb dL_size_6 (by decide) ?_
    exact hret _ _ _ _ _ _ hP hD hS (⟨(ab_nge c1_0).symm, rfl⟩) dL_size_10

set_option maxHeartbeats 4000000 in
set_option maxRecDepth 100000 in
theorem l_bar (l : Launch) (E : NE) (ad : Nat → Nat) (st : NW) (c : Int32) (d : Int32) (t : Int32) (h0 : ∃ fs, st 0 = some (.inr (4, fs))) (P : Int32 → NW → Prop) (hM : nMi l yX4_bar wsX4_bar (nRm 4 100) E ad st [.ref (ad 0), .int c, .int d, .int t] P) : nMx l yL_bar wsL_bar (nRx 9 147) E ad st [.ref (ad 0), .int c, .int d, .int t] P := by
  refine nSh (cc := cL_bar) (maxL := 5) (by decide) rfl (Nat.le_of_ble_eq_true rfl) ?_
  intro pg en s mi ar bw mth cd R Q A ls hx hb hml hown hts hRm hP hK hD hZ hA hl htab hret
  subst hRm
  obtain ⟨fs0, h0⟩ := h0
  have hown : s.vm.findClass RL = some mi.cls := hown
  have hS : va_S A s.heap s.heap [] := va_S.rf
  have hl : lv_has ls 5 [(0, .ref (ad 0)), (1, .int c), (2, .int d), (3, .int t)] := hl
  refine lv_aload_n hx hb dL_bar_0 rfl (lv_at hl 0 rfl) ?_
  refine lv_iload_n hx hb dL_bar_1 rfl (lv_at hl 1 rfl) ?_
  refine lv_iload_n hx hb dL_bar_2 rfl (lv_at hl 2 rfl) ?_
  refine lv_iload_n hx hb dL_bar_3 rfl (lv_at hl 3 rfl) ?_
  refine nVi (As := [.int c, .int d, .int t]) (rest := _) hx hb hml hown hts hP hK hD hZ hA hS ⟨Nat.le_of_ble_eq_true rfl, Nat.le_of_ble_eq_true rfl⟩ h0 rfl hM (cwV 3 hts gL_bar_X4_bar rfl rfl rfl (by decide +kernel) ⟨Nat.le_of_ble_eq_true rfl, Nat.le_of_ble_eq_true rfl⟩) hl.1 rfl (Nat.le_of_ble_eq_true rfl) dL_bar_4 (fun r st1 H locs hq hP hD hS => ?_)
  exact hret _ _ _ _ _ _ _ _ (Nat.zero_le _) (Nat.zero_le _) hP hD hS hq dL_bar_7

set_option maxHeartbeats 4000000 in
set_option maxRecDepth 100000 in
theorem l_bar_x (l : Launch) (E : NE) (ad : Nat → Nat) (st : NW) (c : Int32) (d : Int32) (t : Int32) (h0 : ∃ fs, st 0 = some (.inr (4, fs))) (P : NW → Prop) (hM : nX l yX4_bar wsX4_bar (nRx 8 124) E ad st [.ref (ad 0), .int c, .int d, .int t] "java/lang/IllegalStateException" P) : nMx l yL_bar wsL_bar (nRx 9 147) E ad st [.ref (ad 0), .int c, .int d, .int t] (fun r s1 => r = -3 ∧ P s1) := by
  refine nSh (cc := cL_bar) (maxL := 5) (by decide) rfl (Nat.le_of_ble_eq_true rfl) ?_
  intro pg en s mi ar bw mth cd R Q A ls hx hb hml hown hts hRm hP hK hD hZ hA hl htab hret
  subst hRm
  obtain ⟨fs0, h0⟩ := h0
  have hown : s.vm.findClass RL = some mi.cls := hown
  have hS : va_S A s.heap s.heap [] := va_S.rf
  have hl : lv_has ls 5 [(0, .ref (ad 0)), (1, .int c), (2, .int d), (3, .int t)] := hl
  refine lv_aload_n hx hb dL_bar_0 rfl (lv_at hl 0 rfl) ?_
  refine lv_iload_n hx hb dL_bar_1 rfl (lv_at hl 1 rfl) ?_
  refine lv_iload_n hx hb dL_bar_2 rfl (lv_at hl 2 rfl) ?_
  refine lv_iload_n hx hb dL_bar_3 rfl (lv_at hl 3 rfl) ?_
  refine nTV (As := [.int c, .int d, .int t]) (rest := _) hx hb hml hown hts hP hK hD hZ hA hS ⟨Nat.le_of_ble_eq_true rfl, Nat.le_of_ble_eq_true rfl⟩ h0 rfl hM (cwV 3 hts gL_bar_X4_bar rfl rfl rfl (by decide +kernel) ⟨Nat.le_of_ble_eq_true rfl, Nat.le_of_ble_eq_true rfl⟩) hl.1 rfl (Nat.le_of_ble_eq_true rfl) dL_bar_4 (fun q ce st1 H locs hq hP hD hS hc hv hcl => ?_)
  refine vx_catch (name := "java/lang/IllegalStateException") (E := "java/lang/IllegalStateException") hown [] ⟨0, 7, 8, 15⟩ [] (htab.trans rfl) (fun z hz => by cases hz) (by decide) (by decide) (hts (.classLink RL 15 "java/lang/IllegalStateException") (by decide +kernel)) (va_Nw.use rfl hZ.2.2.2.2.2.1.2.2) hc hv hcl ?_
  refine lv_astore (lv' := [(4, .ref q), (0, .ref (ad 0)), (1, .int c), (2, .int d), (3, .int t)]) hx hb dL_bar_8 hl (by decide) rfl (fun ls hl => ?_)
  refine lv_bipush (v := -3) hx hb dL_bar_10 (by decide) ?_
  exact hret _ _ _ _ _ _ _ _ (Nat.le_refl _) (Nat.le_refl _) hP hD hS ⟨rfl, hq⟩ dL_bar_12

set_option maxHeartbeats 4000000 in
set_option maxRecDepth 100000 in
theorem l_undo (l : Launch) (E : NE) (ad : Nat → Nat) (st : NW) (h0 : ∃ fs, st 0 = some (.inr (4, fs))) (P : Int32 → NW → Prop) (hM : nMi l yX4_undo wsX4_undo (nRm 2 44) E ad st [.ref (ad 0)] P) : nMx l yL_undo wsL_undo (nRx 9 147) E ad st [.ref (ad 0)] P := by
  refine nSh (cc := cL_undo) (maxL := 2) (by decide) rfl (Nat.le_of_ble_eq_true rfl) ?_
  intro pg en s mi ar bw mth cd R Q A ls hx hb hml hown hts hRm hP hK hD hZ hA hl htab hret
  subst hRm
  obtain ⟨fs0, h0⟩ := h0
  have hown : s.vm.findClass RL = some mi.cls := hown
  have hS : va_S A s.heap s.heap [] := va_S.rf
  have hl : lv_has ls 2 [(0, .ref (ad 0))] := hl
  refine lv_aload_n hx hb dL_undo_0 rfl (lv_at hl 0 rfl) ?_
  refine nVi (As := []) (rest := _) hx hb hml hown hts hP hK hD hZ hA hS ⟨Nat.le_of_ble_eq_true rfl, Nat.le_of_ble_eq_true rfl⟩ h0 rfl hM (cwV 0 hts gL_undo_X4_undo rfl rfl rfl (by decide +kernel) ⟨Nat.le_of_ble_eq_true rfl, Nat.le_of_ble_eq_true rfl⟩) hl.1 rfl (Nat.le_of_ble_eq_true rfl) dL_undo_1 (fun r st1 H locs hq hP hD hS => ?_)
  exact hret _ _ _ _ _ _ _ _ (Nat.zero_le _) (Nat.zero_le _) hP hD hS hq dL_undo_4

set_option maxHeartbeats 4000000 in
set_option maxRecDepth 100000 in
theorem l_undo_x (l : Launch) (E : NE) (ad : Nat → Nat) (st : NW) (h0 : ∃ fs, st 0 = some (.inr (4, fs))) (P : NW → Prop) (hM : nX l yX4_undo wsX4_undo (nRx 8 124) E ad st [.ref (ad 0)] "java/lang/IllegalStateException" P) : nMx l yL_undo wsL_undo (nRx 9 147) E ad st [.ref (ad 0)] (fun r s1 => r = -3 ∧ P s1) := by
  refine nSh (cc := cL_undo) (maxL := 2) (by decide) rfl (Nat.le_of_ble_eq_true rfl) ?_
  intro pg en s mi ar bw mth cd R Q A ls hx hb hml hown hts hRm hP hK hD hZ hA hl htab hret
  subst hRm
  obtain ⟨fs0, h0⟩ := h0
  have hown : s.vm.findClass RL = some mi.cls := hown
  have hS : va_S A s.heap s.heap [] := va_S.rf
  have hl : lv_has ls 2 [(0, .ref (ad 0))] := hl
  refine lv_aload_n hx hb dL_undo_0 rfl (lv_at hl 0 rfl) ?_
  refine nTV (As := []) (rest := _) hx hb hml hown hts hP hK hD hZ hA hS ⟨Nat.le_of_ble_eq_true rfl, Nat.le_of_ble_eq_true rfl⟩ h0 rfl hM (cwV 0 hts gL_undo_X4_undo rfl rfl rfl (by decide +kernel) ⟨Nat.le_of_ble_eq_true rfl, Nat.le_of_ble_eq_true rfl⟩) hl.1 rfl (Nat.le_of_ble_eq_true rfl) dL_undo_1 (fun q ce st1 H locs hq hP hD hS hc hv hcl => ?_)
  refine vx_catch (name := "java/lang/IllegalStateException") (E := "java/lang/IllegalStateException") hown [] ⟨0, 4, 5, 15⟩ [] (htab.trans rfl) (fun z hz => by cases hz) (by decide) (by decide) (hts (.classLink RL 15 "java/lang/IllegalStateException") (by decide +kernel)) (va_Nw.use rfl hZ.2.2.2.2.2.1.2.2) hc hv hcl ?_
  refine lv_astore_n (lv' := [(1, .ref q), (0, .ref (ad 0))]) hx hb dL_undo_5 rfl hl (by decide) rfl (fun ls hl => ?_)
  refine lv_bipush (v := -3) hx hb dL_undo_6 (by decide) ?_
  exact hret _ _ _ _ _ _ _ _ (Nat.le_refl _) (Nat.le_refl _) hP hD hS ⟨rfl, hq⟩ dL_undo_8

set_option maxHeartbeats 4000000 in
set_option maxRecDepth 100000 in
theorem l_unbar (l : Launch) (E : NE) (ad : Nat → Nat) (st : NW) (c : Int32) (h0 : ∃ fs, st 0 = some (.inr (4, fs))) (P : Int32 → NW → Prop) (hM : nMi l yX4_unbar wsX4_unbar (nRm 4 100) E ad st [.ref (ad 0), .int c] P) : nMx l yL_unbar wsL_unbar (nRx 9 147) E ad st [.ref (ad 0), .int c] P := by
  refine nSh (cc := cL_unbar) (maxL := 3) (by decide) rfl (Nat.le_of_ble_eq_true rfl) ?_
  intro pg en s mi ar bw mth cd R Q A ls hx hb hml hown hts hRm hP hK hD hZ hA hl htab hret
  subst hRm
  obtain ⟨fs0, h0⟩ := h0
  have hown : s.vm.findClass RL = some mi.cls := hown
  have hS : va_S A s.heap s.heap [] := va_S.rf
  have hl : lv_has ls 3 [(0, .ref (ad 0)), (1, .int c)] := hl
  refine lv_aload_n hx hb dL_unbar_0 rfl (lv_at hl 0 rfl) ?_
  refine lv_iload_n hx hb dL_unbar_1 rfl (lv_at hl 1 rfl) ?_
  refine nVi (As := [.int c]) (rest := _) hx hb hml hown hts hP hK hD hZ hA hS ⟨Nat.le_of_ble_eq_true rfl, Nat.le_of_ble_eq_true rfl⟩ h0 rfl hM (cwV 1 hts gL_unbar_X4_unbar rfl rfl rfl (by decide +kernel) ⟨Nat.le_of_ble_eq_true rfl, Nat.le_of_ble_eq_true rfl⟩) hl.1 rfl (Nat.le_of_ble_eq_true rfl) dL_unbar_2 (fun r st1 H locs hq hP hD hS => ?_)
  exact hret _ _ _ _ _ _ _ _ (Nat.zero_le _) (Nat.zero_le _) hP hD hS hq dL_unbar_5

set_option maxHeartbeats 4000000 in
set_option maxRecDepth 100000 in
theorem l_unbar_x (l : Launch) (E : NE) (ad : Nat → Nat) (st : NW) (c : Int32) (h0 : ∃ fs, st 0 = some (.inr (4, fs))) (P : NW → Prop) (hM : nX l yX4_unbar wsX4_unbar (nRx 8 124) E ad st [.ref (ad 0), .int c] "java/lang/IllegalStateException" P) : nMx l yL_unbar wsL_unbar (nRx 9 147) E ad st [.ref (ad 0), .int c] (fun r s1 => r = -3 ∧ P s1) := by
  refine nSh (cc := cL_unbar) (maxL := 3) (by decide) rfl (Nat.le_of_ble_eq_true rfl) ?_
  intro pg en s mi ar bw mth cd R Q A ls hx hb hml hown hts hRm hP hK hD hZ hA hl htab hret
  subst hRm
  obtain ⟨fs0, h0⟩ := h0
  have hown : s.vm.findClass RL = some mi.cls := hown
  have hS : va_S A s.heap s.heap [] := va_S.rf
  have hl : lv_has ls 3 [(0, .ref (ad 0)), (1, .int c)] := hl
  refine lv_aload_n hx hb dL_unbar_0 rfl (lv_at hl 0 rfl) ?_
  refine lv_iload_n hx hb dL_unbar_1 rfl (lv_at hl 1 rfl) ?_
  refine nTV (As := [.int c]) (rest := _) hx hb hml hown hts hP hK hD hZ hA hS ⟨Nat.le_of_ble_eq_true rfl, Nat.le_of_ble_eq_true rfl⟩ h0 rfl hM (cwV 1 hts gL_unbar_X4_unbar rfl rfl rfl (by decide +kernel) ⟨Nat.le_of_ble_eq_true rfl, Nat.le_of_ble_eq_true rfl⟩) hl.1 rfl (Nat.le_of_ble_eq_true rfl) dL_unbar_2 (fun q ce st1 H locs hq hP hD hS hc hv hcl => ?_)
  refine vx_catch (name := "java/lang/IllegalStateException") (E := "java/lang/IllegalStateException") hown [] ⟨0, 5, 6, 15⟩ [] (htab.trans rfl) (fun z hz => by cases hz) (by decide) (by decide) (hts (.classLink RL 15 "java/lang/IllegalStateException") (by decide +kernel)) (va_Nw.use rfl hZ.2.2.2.2.2.1.2.2) hc hv hcl ?_
  refine lv_astore_n (lv' := [(2, .ref q), (0, .ref (ad 0)), (1, .int c)]) hx hb dL_unbar_6 rfl hl (by decide) rfl (fun ls hl => ?_)
  refine lv_bipush (v := -3) hx hb dL_unbar_7 (by decide) ?_
  exact hret _ _ _ _ _ _ _ _ (Nat.le_refl _) (Nat.le_refl _) hP hD hS ⟨rfl, hq⟩ dL_unbar_9

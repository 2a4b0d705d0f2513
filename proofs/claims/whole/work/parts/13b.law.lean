set_option maxHeartbeats 4000000 in
set_option maxRecDepth 100000 in
theorem w_needle (l : Launch) (E : NE) (ad : Nat → Nat) (st : NW) (a0 : Int32) (a1 : Int32) (h0 : ∃ fs, st 0 = some (.inr (4, fs))) (v0 : Int64) (P : Int32 → NW → Prop) (hM : nMi l yX4_needle wsX4_needle (nRm 3 68) E ad st [.ref (ad 0), .int a0, .int a1] P) (h240 : ∀ r s9, P r s9 → s9 240 = some (outE E v0)) : nMx l yL_needle wsL_needle (nRx 9 147) E ad st [.ref (ad 0), .int a0, .int a1, .ref (ad 240)] (fun k s1 => k = 0 ∧ ∃ r s9, P r s9 ∧ one 240 s9 s1 ∧ s1 240 = some (outE E r.toInt64)) := by
  refine nSh (cc := cL_needle) (maxL := 5) (by decide) rfl (Nat.le_of_ble_eq_true rfl) ?_
  intro pg en s mi ar bw mth cd R Q A ls hx hb hml hown hts hRm hP hK hD hZ hA hl hNC htab hret
  subst hRm
  obtain ⟨fs0, h0⟩ := h0
  have hown : s.vm.findClass RL = some mi.cls := hown
  have hS : va_S A s.heap s.heap [] := va_S.rf
  have hl : lv_has ls 5 [(0, .ref (ad 0)), (1, .int a0), (2, .int a1), (3, .ref (ad 240))] := hl
  refine lv_aload_n hx hb dL_needle_0 rfl (lv_at hl 3 rfl) ?_
  refine lv_iconst (v := 0) hx hb dL_needle_1 (by decide) ?_
  refine lv_aload_n hx hb dL_needle_2 rfl (lv_at hl 0 rfl) ?_
  refine lv_iload_n hx hb dL_needle_3 rfl (lv_at hl 1 rfl) ?_
  refine lv_iload_n hx hb dL_needle_4 rfl (lv_at hl 2 rfl) ?_
  refine nVi (As := [.int a0, .int a1]) (rest := _) hx hb hml hown hts hP hK hD hZ hA hS ⟨(Nat.le_of_ble_eq_true rfl), (Nat.le_of_ble_eq_true rfl)⟩ h0 rfl hM (cwV 2 hts gL_needle_X4_needle rfl rfl rfl (by decide +kernel) ⟨(Nat.le_of_ble_eq_true rfl), (Nat.le_of_ble_eq_true rfl)⟩) hl.1 rfl (Nat.le_of_ble_eq_true rfl) dL_needle_5 (fun r st1 H locs hq hP hD hS => ?_)
  refine lv_i2l (v := r.toInt64) hx hb dL_needle_8 rfl ?_
  refine nLst hx hb hK hP hD hS (h240 _ _ hq) dL_needle_9 (fun st2 H2 locs h2 h1 hP hD hS => ?_)
  refine lv_goto (tgt := 21) hx hb dL_needle_10 (by decide) ?_
  refine lv_iconst (v := 0) hx hb dL_needle_21 (by decide) ?_
  exact hret _ _ _ _ _ _ _ _ (Nat.zero_le _) (Nat.zero_le _) hP hD hS ⟨rfl, r, st1, hq, h1, h2⟩ dL_needle_22

set_option maxHeartbeats 4000000 in
set_option maxRecDepth 100000 in
theorem w_needle_1 (l : Launch) (E : NE) (ad : Nat → Nat) (st : NW) (a0 : Int32) (a1 : Int32) (h0 : ∃ fs, st 0 = some (.inr (4, fs))) (P : NW → Prop) (hM : nX l yX4_needle wsX4_needle (nRx 8 124) E ad st [.ref (ad 0), .int a0, .int a1] "java/lang/IndexOutOfBoundsException" P) : nMx l yL_needle wsL_needle (nRx 9 147) E ad st [.ref (ad 0), .int a0, .int a1, .ref (ad 240)] (fun k s1 => k = 1 ∧ P s1) := by
  refine nSh (cc := cL_needle) (maxL := 5) (by decide) rfl (Nat.le_of_ble_eq_true rfl) ?_
  intro pg en s mi ar bw mth cd R Q A ls hx hb hml hown hts hRm hP hK hD hZ hA hl hNC htab hret
  subst hRm
  obtain ⟨fs0, h0⟩ := h0
  have hown : s.vm.findClass RL = some mi.cls := hown
  have hS : va_S A s.heap s.heap [] := va_S.rf
  have hl : lv_has ls 5 [(0, .ref (ad 0)), (1, .int a0), (2, .int a1), (3, .ref (ad 240))] := hl
  refine lv_aload_n hx hb dL_needle_0 rfl (lv_at hl 3 rfl) ?_
  refine lv_iconst (v := 0) hx hb dL_needle_1 (by decide) ?_
  refine lv_aload_n hx hb dL_needle_2 rfl (lv_at hl 0 rfl) ?_
  refine lv_iload_n hx hb dL_needle_3 rfl (lv_at hl 1 rfl) ?_
  refine lv_iload_n hx hb dL_needle_4 rfl (lv_at hl 2 rfl) ?_
  refine nTV (As := [.int a0, .int a1]) (rest := _) hx hb hml hown hts hP hK hD hZ hA hS ⟨(Nat.le_of_ble_eq_true rfl), (Nat.le_of_ble_eq_true rfl)⟩ h0 rfl hM (cwV 2 hts gL_needle_X4_needle rfl rfl rfl (by decide +kernel) ⟨(Nat.le_of_ble_eq_true rfl), (Nat.le_of_ble_eq_true rfl)⟩) hl.1 rfl (Nat.le_of_ble_eq_true rfl) dL_needle_5 (fun q ce st1 H locs hq hP hD hS hc hv hcl => ?_)
  refine vx_catch (name := "java/lang/IndexOutOfBoundsException") (E := "java/lang/IndexOutOfBoundsException") hown [] ⟨0, 10, 13, 13⟩ [⟨0, 10, 17, 15⟩] (htab.trans rfl) (fun z hz => by cases hz) (by decide) (by decide) (hts (.classLink RL 13 "java/lang/IndexOutOfBoundsException") (by decide +kernel)) (va_Nw.use rfl hZ.2.2.2.2.2.1.1) hc hv hcl ?_
  refine lv_astore (lv' := [(4, .ref q), (0, .ref (ad 0)), (1, .int a0), (2, .int a1), (3, .ref (ad 240))]) hx hb dL_needle_13 hl (by decide) rfl (fun ls hl => ?_)
  refine lv_iconst (v := 1) hx hb dL_needle_15 (by decide) ?_
  exact hret _ _ _ _ _ _ _ _ (Nat.le_refl _) (Nat.le_refl _) hP hD hS ⟨rfl, hq⟩ dL_needle_16

set_option maxHeartbeats 4000000 in
set_option maxRecDepth 100000 in
theorem w_needle_2 (l : Launch) (E : NE) (ad : Nat → Nat) (st : NW) (a0 : Int32) (a1 : Int32) (h0 : ∃ fs, st 0 = some (.inr (4, fs))) (P : NW → Prop) (hM : nX l yX4_needle wsX4_needle (nRx 8 124) E ad st [.ref (ad 0), .int a0, .int a1] "java/lang/IllegalArgumentException" P) : nMx l yL_needle wsL_needle (nRx 9 147) E ad st [.ref (ad 0), .int a0, .int a1, .ref (ad 240)] (fun k s1 => k = 2 ∧ P s1) := by
  refine nSh (cc := cL_needle) (maxL := 5) (by decide) rfl (Nat.le_of_ble_eq_true rfl) ?_
  intro pg en s mi ar bw mth cd R Q A ls hx hb hml hown hts hRm hP hK hD hZ hA hl hNC htab hret
  subst hRm
  obtain ⟨fs0, h0⟩ := h0
  have hown : s.vm.findClass RL = some mi.cls := hown
  have hS : va_S A s.heap s.heap [] := va_S.rf
  have hl : lv_has ls 5 [(0, .ref (ad 0)), (1, .int a0), (2, .int a1), (3, .ref (ad 240))] := hl
  refine lv_aload_n hx hb dL_needle_0 rfl (lv_at hl 3 rfl) ?_
  refine lv_iconst (v := 0) hx hb dL_needle_1 (by decide) ?_
  refine lv_aload_n hx hb dL_needle_2 rfl (lv_at hl 0 rfl) ?_
  refine lv_iload_n hx hb dL_needle_3 rfl (lv_at hl 1 rfl) ?_
  refine lv_iload_n hx hb dL_needle_4 rfl (lv_at hl 2 rfl) ?_
  refine nTV (As := [.int a0, .int a1]) (rest := _) hx hb hml hown hts hP hK hD hZ hA hS ⟨(Nat.le_of_ble_eq_true rfl), (Nat.le_of_ble_eq_true rfl)⟩ h0 rfl hM (cwV 2 hts gL_needle_X4_needle rfl rfl rfl (by decide +kernel) ⟨(Nat.le_of_ble_eq_true rfl), (Nat.le_of_ble_eq_true rfl)⟩) hl.1 rfl (Nat.le_of_ble_eq_true rfl) dL_needle_5 (fun q ce st1 H locs hq hP hD hS hc hv hcl => ?_)
  refine vx_catch (name := "java/lang/IllegalArgumentException") (E := "java/lang/IllegalArgumentException") hown [⟨0, 10, 13, 13⟩] ⟨0, 10, 17, 15⟩ [] (htab.trans rfl) (fun z hz => by rw [List.mem_singleton.mp hz]; exact Or.inr ⟨by decide, "java/lang/IndexOutOfBoundsException", hts (.classLink RL 13 "java/lang/IndexOutOfBoundsException") (by decide +kernel), hNC.1⟩) (by decide) (by decide) (hts (.classLink RL 15 "java/lang/IllegalArgumentException") (by decide +kernel)) (va_Nw.use rfl hZ.2.2.2.2.2.1.2.1) hc hv hcl ?_
  refine lv_astore (lv' := [(4, .ref q), (0, .ref (ad 0)), (1, .int a0), (2, .int a1), (3, .ref (ad 240))]) hx hb dL_needle_17 hl (by decide) rfl (fun ls hl => ?_)
  refine lv_iconst (v := 2) hx hb dL_needle_19 (by decide) ?_
  exact hret _ _ _ _ _ _ _ _ (Nat.le_refl _) (Nat.le_refl _) hP hD hS ⟨rfl, hq⟩ dL_needle_20

set_option maxHeartbeats 4000000 in
set_option maxRecDepth 100000 in
theorem w_friction (l : Launch) (E : NE) (ad : Nat → Nat) (st : NW) (a0 : Int32) (a1 : Int32) (h0 : ∃ fs, st 0 = some (.inr (4, fs))) (v0 : Int64) (P : Int32 → NW → Prop) (hM : nMi l yX4_friction wsX4_friction (nRm 2 44) E ad st [.ref (ad 0), .int a0, .int a1] P) (h240 : ∀ r s9, P r s9 → s9 240 = some (outE E v0)) : nMx l yL_friction wsL_friction (nRx 9 147) E ad st [.ref (ad 0), .int a0, .int a1, .ref (ad 240)] (fun k s1 => k = 0 ∧ ∃ r s9, P r s9 ∧ one 240 s9 s1 ∧ s1 240 = some (outE E r.toInt64)) := by
  refine nSh (cc := cL_friction) (maxL := 5) (by decide) rfl (Nat.le_of_ble_eq_true rfl) ?_
  intro pg en s mi ar bw mth cd R Q A ls hx hb hml hown hts hRm hP hK hD hZ hA hl hNC htab hret
  subst hRm
  obtain ⟨fs0, h0⟩ := h0
  have hown : s.vm.findClass RL = some mi.cls := hown
  have hS : va_S A s.heap s.heap [] := va_S.rf
  have hl : lv_has ls 5 [(0, .ref (ad 0)), (1, .int a0), (2, .int a1), (3, .ref (ad 240))] := hl
  refine lv_aload_n hx hb dL_friction_0 rfl (lv_at hl 3 rfl) ?_
  refine lv_iconst (v := 0) hx hb dL_friction_1 (by decide) ?_
  refine lv_aload_n hx hb dL_friction_2 rfl (lv_at hl 0 rfl) ?_
  refine lv_iload_n hx hb dL_friction_3 rfl (lv_at hl 1 rfl) ?_
  refine lv_iload_n hx hb dL_friction_4 rfl (lv_at hl 2 rfl) ?_
  refine nVi (As := [.int a0, .int a1]) (rest := _) hx hb hml hown hts hP hK hD hZ hA hS ⟨(Nat.le_of_ble_eq_true rfl), (Nat.le_of_ble_eq_true rfl)⟩ h0 rfl hM (cwV 2 hts gL_friction_X4_friction rfl rfl rfl (by decide +kernel) ⟨(Nat.le_of_ble_eq_true rfl), (Nat.le_of_ble_eq_true rfl)⟩) hl.1 rfl (Nat.le_of_ble_eq_true rfl) dL_friction_5 (fun r st1 H locs hq hP hD hS => ?_)
  refine lv_i2l (v := r.toInt64) hx hb dL_friction_8 rfl ?_
  refine nLst hx hb hK hP hD hS (h240 _ _ hq) dL_friction_9 (fun st2 H2 locs h2 h1 hP hD hS => ?_)
  refine lv_goto (tgt := 21) hx hb dL_friction_10 (by decide) ?_
  refine lv_iconst (v := 0) hx hb dL_friction_21 (by decide) ?_
  exact hret _ _ _ _ _ _ _ _ (Nat.zero_le _) (Nat.zero_le _) hP hD hS ⟨rfl, r, st1, hq, h1, h2⟩ dL_friction_22

set_option maxHeartbeats 4000000 in
set_option maxRecDepth 100000 in
theorem w_friction_1 (l : Launch) (E : NE) (ad : Nat → Nat) (st : NW) (a0 : Int32) (a1 : Int32) (h0 : ∃ fs, st 0 = some (.inr (4, fs))) (P : NW → Prop) (hM : nX l yX4_friction wsX4_friction (nRx 8 124) E ad st [.ref (ad 0), .int a0, .int a1] "java/lang/IndexOutOfBoundsException" P) : nMx l yL_friction wsL_friction (nRx 9 147) E ad st [.ref (ad 0), .int a0, .int a1, .ref (ad 240)] (fun k s1 => k = 1 ∧ P s1) := by
  refine nSh (cc := cL_friction) (maxL := 5) (by decide) rfl (Nat.le_of_ble_eq_true rfl) ?_
  intro pg en s mi ar bw mth cd R Q A ls hx hb hml hown hts hRm hP hK hD hZ hA hl hNC htab hret
  subst hRm
  obtain ⟨fs0, h0⟩ := h0
  have hown : s.vm.findClass RL = some mi.cls := hown
  have hS : va_S A s.heap s.heap [] := va_S.rf
  have hl : lv_has ls 5 [(0, .ref (ad 0)), (1, .int a0), (2, .int a1), (3, .ref (ad 240))] := hl
  refine lv_aload_n hx hb dL_friction_0 rfl (lv_at hl 3 rfl) ?_
  refine lv_iconst (v := 0) hx hb dL_friction_1 (by decide) ?_
  refine lv_aload_n hx hb dL_friction_2 rfl (lv_at hl 0 rfl) ?_
  refine lv_iload_n hx hb dL_friction_3 rfl (lv_at hl 1 rfl) ?_
  refine lv_iload_n hx hb dL_friction_4 rfl (lv_at hl 2 rfl) ?_
  refine nTV (As := [.int a0, .int a1]) (rest := _) hx hb hml hown hts hP hK hD hZ hA hS ⟨(Nat.le_of_ble_eq_true rfl), (Nat.le_of_ble_eq_true rfl)⟩ h0 rfl hM (cwV 2 hts gL_friction_X4_friction rfl rfl rfl (by decide +kernel) ⟨(Nat.le_of_ble_eq_true rfl), (Nat.le_of_ble_eq_true rfl)⟩) hl.1 rfl (Nat.le_of_ble_eq_true rfl) dL_friction_5 (fun q ce st1 H locs hq hP hD hS hc hv hcl => ?_)
  refine vx_catch (name := "java/lang/IndexOutOfBoundsException") (E := "java/lang/IndexOutOfBoundsException") hown [] ⟨0, 10, 13, 13⟩ [⟨0, 10, 17, 15⟩] (htab.trans rfl) (fun z hz => by cases hz) (by decide) (by decide) (hts (.classLink RL 13 "java/lang/IndexOutOfBoundsException") (by decide +kernel)) (va_Nw.use rfl hZ.2.2.2.2.2.1.1) hc hv hcl ?_
  refine lv_astore (lv' := [(4, .ref q), (0, .ref (ad 0)), (1, .int a0), (2, .int a1), (3, .ref (ad 240))]) hx hb dL_friction_13 hl (by decide) rfl (fun ls hl => ?_)
  refine lv_iconst (v := 1) hx hb dL_friction_15 (by decide) ?_
  exact hret _ _ _ _ _ _ _ _ (Nat.le_refl _) (Nat.le_refl _) hP hD hS ⟨rfl, hq⟩ dL_friction_16

set_option maxHeartbeats 4000000 in
set_option maxRecDepth 100000 in
theorem w_friction_2 (l : Launch) (E : NE) (ad : Nat → Nat) (st : NW) (a0 : Int32) (a1 : Int32) (h0 : ∃ fs, st 0 = some (.inr (4, fs))) (P : NW → Prop) (hM : nX l yX4_friction wsX4_friction (nRx 8 124) E ad st [.ref (ad 0), .int a0, .int a1] "java/lang/IllegalArgumentException" P) : nMx l yL_friction wsL_friction (nRx 9 147) E ad st [.ref (ad 0), .int a0, .int a1, .ref (ad 240)] (fun k s1 => k = 2 ∧ P s1) := by
  refine nSh (cc := cL_friction) (maxL := 5) (by decide) rfl (Nat.le_of_ble_eq_true rfl) ?_
  intro pg en s mi ar bw mth cd R Q A ls hx hb hml hown hts hRm hP hK hD hZ hA hl hNC htab hret
  subst hRm
  obtain ⟨fs0, h0⟩ := h0
  have hown : s.vm.findClass RL = some mi.cls := hown
  have hS : va_S A s.heap s.heap [] := va_S.rf
  have hl : lv_has ls 5 [(0, .ref (ad 0)), (1, .int a0), (2, .int a1), (3, .ref (ad 240))] := hl
  refine lv_aload_n hx hb dL_friction_0 rfl (lv_at hl 3 rfl) ?_
  refine lv_iconst (v := 0) hx hb dL_friction_1 (by decide) ?_
  refine lv_aload_n hx hb dL_friction_2 rfl (lv_at hl 0 rfl) ?_
  refine lv_iload_n hx hb dL_friction_3 rfl (lv_at hl 1 rfl) ?_
  refine lv_iload_n hx hb dL_friction_4 rfl (lv_at hl 2 rfl) ?_
  refine nTV (As := [.int a0, .int a1]) (rest := _) hx hb hml hown hts hP hK hD hZ hA hS ⟨(Nat.le_of_ble_eq_true rfl), (Nat.le_of_ble_eq_true rfl)⟩ h0 rfl hM (cwV 2 hts gL_friction_X4_friction rfl rfl rfl (by decide +kernel) ⟨(Nat.le_of_ble_eq_true rfl), (Nat.le_of_ble_eq_true rfl)⟩) hl.1 rfl (Nat.le_of_ble_eq_true rfl) dL_friction_5 (fun q ce st1 H locs hq hP hD hS hc hv hcl => ?_)
  refine vx_catch (name := "java/lang/IllegalArgumentException") (E := "java/lang/IllegalArgumentException") hown [⟨0, 10, 13, 13⟩] ⟨0, 10, 17, 15⟩ [] (htab.trans rfl) (fun z hz => by rw [List.mem_singleton.mp hz]; exact Or.inr ⟨by decide, "java/lang/IndexOutOfBoundsException", hts (.classLink RL 13 "java/lang/IndexOutOfBoundsException") (by decide +kernel), hNC.1⟩) (by decide) (by decide) (hts (.classLink RL 15 "java/lang/IllegalArgumentException") (by decide +kernel)) (va_Nw.use rfl hZ.2.2.2.2.2.1.2.1) hc hv hcl ?_
  refine lv_astore (lv' := [(4, .ref q), (0, .ref (ad 0)), (1, .int a0), (2, .int a1), (3, .ref (ad 240))]) hx hb dL_friction_17 hl (by decide) rfl (fun ls hl => ?_)
  refine lv_iconst (v := 2) hx hb dL_friction_19 (by decide) ?_
  exact hret _ _ _ _ _ _ _ _ (Nat.le_refl _) (Nat.le_refl _) hP hD hS ⟨rfl, hq⟩ dL_friction_20

set_option maxHeartbeats 4000000 in
set_option maxRecDepth 100000 in
theorem w_hold (l : Launch) (E : NE) (ad : Nat → Nat) (st : NW) (a0 : Int32) (a1 : Int32) (h0 : ∃ fs, st 0 = some (.inr (4, fs))) (v0 : Int64) (P : Int32 → NW → Prop) (hM : nMi l yX4_hold wsX4_hold (nRm 2 44) E ad st [.ref (ad 0), .int a0, .int a1] P) (h240 : ∀ r s9, P r s9 → s9 240 = some (outE E v0)) : nMx l yL_hold wsL_hold (nRx 9 147) E ad st [.ref (ad 0), .int a0, .int a1, .ref (ad 240)] (fun k s1 => k = 0 ∧ ∃ r s9, P r s9 ∧ one 240 s9 s1 ∧ s1 240 = some (outE E r.toInt64)) := by
  refine nSh (cc := cL_hold) (maxL := 5) (by decide) rfl (Nat.le_of_ble_eq_true rfl) ?_
  intro pg en s mi ar bw mth cd R Q A ls hx hb hml hown hts hRm hP hK hD hZ hA hl hNC htab hret
  subst hRm
  obtain ⟨fs0, h0⟩ := h0
  have hown : s.vm.findClass RL = some mi.cls := hown
  have hS : va_S A s.heap s.heap [] := va_S.rf
  have hl : lv_has ls 5 [(0, .ref (ad 0)), (1, .int a0), (2, .int a1), (3, .ref (ad 240))] := hl
  refine lv_aload_n hx hb dL_hold_0 rfl (lv_at hl 3 rfl) ?_
  refine lv_iconst (v := 0) hx hb dL_hold_1 (by decide) ?_
  refine lv_aload_n hx hb dL_hold_2 rfl (lv_at hl 0 rfl) ?_
  refine lv_iload_n hx hb dL_hold_3 rfl (lv_at hl 1 rfl) ?_
  refine lv_iload_n hx hb dL_hold_4 rfl (lv_at hl 2 rfl) ?_
  refine nVi (As := [.int a0, .int a1]) (rest := _) hx hb hml hown hts hP hK hD hZ hA hS ⟨(Nat.le_of_ble_eq_true rfl), (Nat.le_of_ble_eq_true rfl)⟩ h0 rfl hM (cwV 2 hts gL_hold_X4_hold rfl rfl rfl (by decide +kernel) ⟨(Nat.le_of_ble_eq_true rfl), (Nat.le_of_ble_eq_true rfl)⟩) hl.1 rfl (Nat.le_of_ble_eq_true rfl) dL_hold_5 (fun r st1 H locs hq hP hD hS => ?_)
  refine lv_i2l (v := r.toInt64) hx hb dL_hold_8 rfl ?_
  refine nLst hx hb hK hP hD hS (h240 _ _ hq) dL_hold_9 (fun st2 H2 locs h2 h1 hP hD hS => ?_)
  refine lv_goto (tgt := 17) hx hb dL_hold_10 (by decide) ?_
  refine lv_iconst (v := 0) hx hb dL_hold_17 (by decide) ?_
  exact hret _ _ _ _ _ _ _ _ (Nat.zero_le _) (Nat.zero_le _) hP hD hS ⟨rfl, r, st1, hq, h1, h2⟩ dL_hold_18

set_option maxHeartbeats 4000000 in
set_option maxRecDepth 100000 in
theorem w_hold_1 (l : Launch) (E : NE) (ad : Nat → Nat) (st : NW) (a0 : Int32) (a1 : Int32) (h0 : ∃ fs, st 0 = some (.inr (4, fs))) (P : NW → Prop) (hM : nX l yX4_hold wsX4_hold (nRx 8 124) E ad st [.ref (ad 0), .int a0, .int a1] "java/lang/IndexOutOfBoundsException" P) : nMx l yL_hold wsL_hold (nRx 9 147) E ad st [.ref (ad 0), .int a0, .int a1, .ref (ad 240)] (fun k s1 => k = 1 ∧ P s1) := by
  refine nSh (cc := cL_hold) (maxL := 5) (by decide) rfl (Nat.le_of_ble_eq_true rfl) ?_
  intro pg en s mi ar bw mth cd R Q A ls hx hb hml hown hts hRm hP hK hD hZ hA hl hNC htab hret
  subst hRm
  obtain ⟨fs0, h0⟩ := h0
  have hown : s.vm.findClass RL = some mi.cls := hown
  have hS : va_S A s.heap s.heap [] := va_S.rf
  have hl : lv_has ls 5 [(0, .ref (ad 0)), (1, .int a0), (2, .int a1), (3, .ref (ad 240))] := hl
  refine lv_aload_n hx hb dL_hold_0 rfl (lv_at hl 3 rfl) ?_
  refine lv_iconst (v := 0) hx hb dL_hold_1 (by decide) ?_
  refine lv_aload_n hx hb dL_hold_2 rfl (lv_at hl 0 rfl) ?_
  refine lv_iload_n hx hb dL_hold_3 rfl (lv_at hl 1 rfl) ?_
  refine lv_iload_n hx hb dL_hold_4 rfl (lv_at hl 2 rfl) ?_
  refine nTV (As := [.int a0, .int a1]) (rest := _) hx hb hml hown hts hP hK hD hZ hA hS ⟨(Nat.le_of_ble_eq_true rfl), (Nat.le_of_ble_eq_true rfl)⟩ h0 rfl hM (cwV 2 hts gL_hold_X4_hold rfl rfl rfl (by decide +kernel) ⟨(Nat.le_of_ble_eq_true rfl), (Nat.le_of_ble_eq_true rfl)⟩) hl.1 rfl (Nat.le_of_ble_eq_true rfl) dL_hold_5 (fun q ce st1 H locs hq hP hD hS hc hv hcl => ?_)
  refine vx_catch (name := "java/lang/IndexOutOfBoundsException") (E := "java/lang/IndexOutOfBoundsException") hown [] ⟨0, 10, 13, 13⟩ [] (htab.trans rfl) (fun z hz => by cases hz) (by decide) (by decide) (hts (.classLink RL 13 "java/lang/IndexOutOfBoundsException") (by decide +kernel)) (va_Nw.use rfl hZ.2.2.2.2.2.1.1) hc hv hcl ?_
  refine lv_astore (lv' := [(4, .ref q), (0, .ref (ad 0)), (1, .int a0), (2, .int a1), (3, .ref (ad 240))]) hx hb dL_hold_13 hl (by decide) rfl (fun ls hl => ?_)
  refine lv_iconst (v := 1) hx hb dL_hold_15 (by decide) ?_
  exact hret _ _ _ _ _ _ _ _ (Nat.le_refl _) (Nat.le_refl _) hP hD hS ⟨rfl, hq⟩ dL_hold_16

set_option maxHeartbeats 4000000 in
set_option maxRecDepth 100000 in
theorem w_swap (l : Launch) (E : NE) (ad : Nat → Nat) (st : NW) (a0 : Int32) (a1 : Int32) (h0 : ∃ fs, st 0 = some (.inr (4, fs))) (v0 : Int64) (P : Int32 → NW → Prop) (hM : nMi l yX4_swap wsX4_swap (nRm 3 68) E ad st [.ref (ad 0), .int a0, .int a1] P) (h240 : ∀ r s9, P r s9 → s9 240 = some (outE E v0)) : nMx l yL_swap wsL_swap (nRx 9 146) E ad st [.ref (ad 0), .int a0, .int a1, .ref (ad 240)] (fun k s1 => k = 0 ∧ ∃ r s9, P r s9 ∧ one 240 s9 s1 ∧ s1 240 = some (outE E r.toInt64)) := by
  refine nSh (cc := cL_swap) (maxL := 5) (by decide) rfl (Nat.le_of_ble_eq_true rfl) ?_
  intro pg en s mi ar bw mth cd R Q A ls hx hb hml hown hts hRm hP hK hD hZ hA hl hNC htab hret
  subst hRm
  obtain ⟨fs0, h0⟩ := h0
  have hown : s.vm.findClass RL = some mi.cls := hown
  have hS : va_S A s.heap s.heap [] := va_S.rf
  have hl : lv_has ls 5 [(0, .ref (ad 0)), (1, .int a0), (2, .int a1), (3, .ref (ad 240))] := hl
  refine lv_aload_n hx hb dL_swap_0 rfl (lv_at hl 3 rfl) ?_
  refine lv_iconst (v := 0) hx hb dL_swap_1 (by decide) ?_
  refine lv_aload_n hx hb dL_swap_2 rfl (lv_at hl 0 rfl) ?_
  refine lv_iload_n hx hb dL_swap_3 rfl (lv_at hl 1 rfl) ?_
  refine lv_iload_n hx hb dL_swap_4 rfl (lv_at hl 2 rfl) ?_
  refine nVi (As := [.int a0, .int a1]) (rest := _) hx hb hml hown hts hP hK hD hZ hA hS ⟨(Nat.le_of_ble_eq_true rfl), (Nat.le_of_ble_eq_true rfl)⟩ h0 rfl hM (cwV 2 hts gL_swap_X4_swap rfl rfl rfl (by decide +kernel) ⟨(Nat.le_of_ble_eq_true rfl), (Nat.le_of_ble_eq_true rfl)⟩) hl.1 rfl (Nat.le_of_ble_eq_true rfl) dL_swap_5 (fun r st1 H locs hq hP hD hS => ?_)
  refine lv_i2l (v := r.toInt64) hx hb dL_swap_8 rfl ?_
  refine nLst hx hb hK hP hD hS (h240 _ _ hq) dL_swap_9 (fun st2 H2 locs h2 h1 hP hD hS => ?_)
  refine lv_goto (tgt := 17) hx hb dL_swap_10 (by decide) ?_
  refine lv_iconst (v := 0) hx hb dL_swap_17 (by decide) ?_
  exact hret _ _ _ _ _ _ _ _ (Nat.zero_le _) (Nat.zero_le _) hP hD hS ⟨rfl, r, st1, hq, h1, h2⟩ dL_swap_18

set_option maxHeartbeats 4000000 in
set_option maxRecDepth 100000 in
theorem w_swap_1 (l : Launch) (E : NE) (ad : Nat → Nat) (st : NW) (a0 : Int32) (a1 : Int32) (h0 : ∃ fs, st 0 = some (.inr (4, fs))) (P : NW → Prop) (hM : nX l yX4_swap wsX4_swap (nRx 8 124) E ad st [.ref (ad 0), .int a0, .int a1] "java/lang/IndexOutOfBoundsException" P) : nMx l yL_swap wsL_swap (nRx 9 146) E ad st [.ref (ad 0), .int a0, .int a1, .ref (ad 240)] (fun k s1 => k = 1 ∧ P s1) := by
  refine nSh (cc := cL_swap) (maxL := 5) (by decide) rfl (Nat.le_of_ble_eq_true rfl) ?_
  intro pg en s mi ar bw mth cd R Q A ls hx hb hml hown hts hRm hP hK hD hZ hA hl hNC htab hret
  subst hRm
  obtain ⟨fs0, h0⟩ := h0
  have hown : s.vm.findClass RL = some mi.cls := hown
  have hS : va_S A s.heap s.heap [] := va_S.rf
  have hl : lv_has ls 5 [(0, .ref (ad 0)), (1, .int a0), (2, .int a1), (3, .ref (ad 240))] := hl
  refine lv_aload_n hx hb dL_swap_0 rfl (lv_at hl 3 rfl) ?_
  refine lv_iconst (v := 0) hx hb dL_swap_1 (by decide) ?_
  refine lv_aload_n hx hb dL_swap_2 rfl (lv_at hl 0 rfl) ?_
  refine lv_iload_n hx hb dL_swap_3 rfl (lv_at hl 1 rfl) ?_
  refine lv_iload_n hx hb dL_swap_4 rfl (lv_at hl 2 rfl) ?_
  refine nTV (As := [.int a0, .int a1]) (rest := _) hx hb hml hown hts hP hK hD hZ hA hS ⟨(Nat.le_of_ble_eq_true rfl), (Nat.le_of_ble_eq_true rfl)⟩ h0 rfl hM (cwV 2 hts gL_swap_X4_swap rfl rfl rfl (by decide +kernel) ⟨(Nat.le_of_ble_eq_true rfl), (Nat.le_of_ble_eq_true rfl)⟩) hl.1 rfl (Nat.le_of_ble_eq_true rfl) dL_swap_5 (fun q ce st1 H locs hq hP hD hS hc hv hcl => ?_)
  refine vx_catch (name := "java/lang/IndexOutOfBoundsException") (E := "java/lang/IndexOutOfBoundsException") hown [] ⟨0, 10, 13, 13⟩ [] (htab.trans rfl) (fun z hz => by cases hz) (by decide) (by decide) (hts (.classLink RL 13 "java/lang/IndexOutOfBoundsException") (by decide +kernel)) (va_Nw.use rfl hZ.2.2.2.2.2.1.1) hc hv hcl ?_
  refine lv_astore (lv' := [(4, .ref q), (0, .ref (ad 0)), (1, .int a0), (2, .int a1), (3, .ref (ad 240))]) hx hb dL_swap_13 hl (by decide) rfl (fun ls hl => ?_)
  refine lv_iconst (v := 1) hx hb dL_swap_15 (by decide) ?_
  exact hret _ _ _ _ _ _ _ _ (Nat.le_refl _) (Nat.le_refl _) hP hD hS ⟨rfl, hq⟩ dL_swap_16

set_option maxHeartbeats 4000000 in
set_option maxRecDepth 100000 in
theorem w_bar (l : Launch) (E : NE) (ad : Nat → Nat) (st : NW) (a0 : Int32) (a1 : Int32) (a2 : Int32) (h0 : ∃ fs, st 0 = some (.inr (4, fs))) (v0 : Int64) (P : Int32 → NW → Prop) (hM : nMi l yX4_bar wsX4_bar (nRm 4 100) E ad st [.ref (ad 0), .int a0, .int a1, .int a2] P) (h240 : ∀ r s9, P r s9 → s9 240 = some (outE E v0)) : nMx l yL_bar wsL_bar (nRx 9 147) E ad st [.ref (ad 0), .int a0, .int a1, .int a2, .ref (ad 240)] (fun k s1 => k = 0 ∧ ∃ r s9, P r s9 ∧ one 240 s9 s1 ∧ s1 240 = some (outE E r.toInt64)) := by
  refine nSh (cc := cL_bar) (maxL := 6) (by decide) rfl (Nat.le_of_ble_eq_true rfl) ?_
  intro pg en s mi ar bw mth cd R Q A ls hx hb hml hown hts hRm hP hK hD hZ hA hl hNC htab hret
  subst hRm
  obtain ⟨fs0, h0⟩ := h0
  have hown : s.vm.findClass RL = some mi.cls := hown
  have hS : va_S A s.heap s.heap [] := va_S.rf
  have hl : lv_has ls 6 [(0, .ref (ad 0)), (1, .int a0), (2, .int a1), (3, .int a2), (4, .ref (ad 240))] := hl
  refine lv_aload hx hb dL_bar_0 (lv_at hl 4 rfl) ?_
  refine lv_iconst (v := 0) hx hb dL_bar_2 (by decide) ?_
  refine lv_aload_n hx hb dL_bar_3 rfl (lv_at hl 0 rfl) ?_
  refine lv_iload_n hx hb dL_bar_4 rfl (lv_at hl 1 rfl) ?_
  refine lv_iload_n hx hb dL_bar_5 rfl (lv_at hl 2 rfl) ?_
  refine lv_iload_n hx hb dL_bar_6 rfl (lv_at hl 3 rfl) ?_
  refine nVi (As := [.int a0, .int a1, .int a2]) (rest := _) hx hb hml hown hts hP hK hD hZ hA hS ⟨(Nat.le_of_ble_eq_true rfl), (Nat.le_of_ble_eq_true rfl)⟩ h0 rfl hM (cwV 3 hts gL_bar_X4_bar rfl rfl rfl (by decide +kernel) ⟨(Nat.le_of_ble_eq_true rfl), (Nat.le_of_ble_eq_true rfl)⟩) hl.1 rfl (Nat.le_of_ble_eq_true rfl) dL_bar_7 (fun r st1 H locs hq hP hD hS => ?_)
  refine lv_i2l (v := r.toInt64) hx hb dL_bar_10 rfl ?_
  refine nLst hx hb hK hP hD hS (h240 _ _ hq) dL_bar_11 (fun st2 H2 locs h2 h1 hP hD hS => ?_)
  refine lv_goto (tgt := 27) hx hb dL_bar_12 (by decide) ?_
  refine lv_iconst (v := 0) hx hb dL_bar_27 (by decide) ?_
  exact hret _ _ _ _ _ _ _ _ (Nat.zero_le _) (Nat.zero_le _) hP hD hS ⟨rfl, r, st1, hq, h1, h2⟩ dL_bar_28

set_option maxHeartbeats 4000000 in
set_option maxRecDepth 100000 in
theorem w_bar_1 (l : Launch) (E : NE) (ad : Nat → Nat) (st : NW) (a0 : Int32) (a1 : Int32) (a2 : Int32) (h0 : ∃ fs, st 0 = some (.inr (4, fs))) (P : NW → Prop) (hM : nX l yX4_bar wsX4_bar (nRx 8 124) E ad st [.ref (ad 0), .int a0, .int a1, .int a2] "java/lang/IndexOutOfBoundsException" P) : nMx l yL_bar wsL_bar (nRx 9 147) E ad st [.ref (ad 0), .int a0, .int a1, .int a2, .ref (ad 240)] (fun k s1 => k = 1 ∧ P s1) := by
  refine nSh (cc := cL_bar) (maxL := 6) (by decide) rfl (Nat.le_of_ble_eq_true rfl) ?_
  intro pg en s mi ar bw mth cd R Q A ls hx hb hml hown hts hRm hP hK hD hZ hA hl hNC htab hret
  subst hRm
  obtain ⟨fs0, h0⟩ := h0
  have hown : s.vm.findClass RL = some mi.cls := hown
  have hS : va_S A s.heap s.heap [] := va_S.rf
  have hl : lv_has ls 6 [(0, .ref (ad 0)), (1, .int a0), (2, .int a1), (3, .int a2), (4, .ref (ad 240))] := hl
  refine lv_aload hx hb dL_bar_0 (lv_at hl 4 rfl) ?_
  refine lv_iconst (v := 0) hx hb dL_bar_2 (by decide) ?_
  refine lv_aload_n hx hb dL_bar_3 rfl (lv_at hl 0 rfl) ?_
  refine lv_iload_n hx hb dL_bar_4 rfl (lv_at hl 1 rfl) ?_
  refine lv_iload_n hx hb dL_bar_5 rfl (lv_at hl 2 rfl) ?_
  refine lv_iload_n hx hb dL_bar_6 rfl (lv_at hl 3 rfl) ?_
  refine nTV (As := [.int a0, .int a1, .int a2]) (rest := _) hx hb hml hown hts hP hK hD hZ hA hS ⟨(Nat.le_of_ble_eq_true rfl), (Nat.le_of_ble_eq_true rfl)⟩ h0 rfl hM (cwV 3 hts gL_bar_X4_bar rfl rfl rfl (by decide +kernel) ⟨(Nat.le_of_ble_eq_true rfl), (Nat.le_of_ble_eq_true rfl)⟩) hl.1 rfl (Nat.le_of_ble_eq_true rfl) dL_bar_7 (fun q ce st1 H locs hq hP hD hS hc hv hcl => ?_)
  refine vx_catch (name := "java/lang/IndexOutOfBoundsException") (E := "java/lang/IndexOutOfBoundsException") hown [] ⟨0, 12, 15, 13⟩ [⟨0, 12, 19, 15⟩, ⟨0, 12, 23, 31⟩] (htab.trans rfl) (fun z hz => by cases hz) (by decide) (by decide) (hts (.classLink RL 13 "java/lang/IndexOutOfBoundsException") (by decide +kernel)) (va_Nw.use rfl hZ.2.2.2.2.2.1.1) hc hv hcl ?_
  refine lv_astore (lv' := [(5, .ref q), (0, .ref (ad 0)), (1, .int a0), (2, .int a1), (3, .int a2), (4, .ref (ad 240))]) hx hb dL_bar_15 hl (by decide) rfl (fun ls hl => ?_)
  refine lv_iconst (v := 1) hx hb dL_bar_17 (by decide) ?_
  exact hret _ _ _ _ _ _ _ _ (Nat.le_refl _) (Nat.le_refl _) hP hD hS ⟨rfl, hq⟩ dL_bar_18

set_option maxHeartbeats 4000000 in
set_option maxRecDepth 100000 in
theorem w_bar_2 (l : Launch) (E : NE) (ad : Nat → Nat) (st : NW) (a0 : Int32) (a1 : Int32) (a2 : Int32) (h0 : ∃ fs, st 0 = some (.inr (4, fs))) (P : NW → Prop) (hM : nX l yX4_bar wsX4_bar (nRx 8 124) E ad st [.ref (ad 0), .int a0, .int a1, .int a2] "java/lang/IllegalArgumentException" P) : nMx l yL_bar wsL_bar (nRx 9 147) E ad st [.ref (ad 0), .int a0, .int a1, .int a2, .ref (ad 240)] (fun k s1 => k = 2 ∧ P s1) := by
  refine nSh (cc := cL_bar) (maxL := 6) (by decide) rfl (Nat.le_of_ble_eq_true rfl) ?_
  intro pg en s mi ar bw mth cd R Q A ls hx hb hml hown hts hRm hP hK hD hZ hA hl hNC htab hret
  subst hRm
  obtain ⟨fs0, h0⟩ := h0
  have hown : s.vm.findClass RL = some mi.cls := hown
  have hS : va_S A s.heap s.heap [] := va_S.rf
  have hl : lv_has ls 6 [(0, .ref (ad 0)), (1, .int a0), (2, .int a1), (3, .int a2), (4, .ref (ad 240))] := hl
  refine lv_aload hx hb dL_bar_0 (lv_at hl 4 rfl) ?_
  refine lv_iconst (v := 0) hx hb dL_bar_2 (by decide) ?_
  refine lv_aload_n hx hb dL_bar_3 rfl (lv_at hl 0 rfl) ?_
  refine lv_iload_n hx hb dL_bar_4 rfl (lv_at hl 1 rfl) ?_
  refine lv_iload_n hx hb dL_bar_5 rfl (lv_at hl 2 rfl) ?_
  refine lv_iload_n hx hb dL_bar_6 rfl (lv_at hl 3 rfl) ?_
  refine nTV (As := [.int a0, .int a1, .int a2]) (rest := _) hx hb hml hown hts hP hK hD hZ hA hS ⟨(Nat.le_of_ble_eq_true rfl), (Nat.le_of_ble_eq_true rfl)⟩ h0 rfl hM (cwV 3 hts gL_bar_X4_bar rfl rfl rfl (by decide +kernel) ⟨(Nat.le_of_ble_eq_true rfl), (Nat.le_of_ble_eq_true rfl)⟩) hl.1 rfl (Nat.le_of_ble_eq_true rfl) dL_bar_7 (fun q ce st1 H locs hq hP hD hS hc hv hcl => ?_)
  refine vx_catch (name := "java/lang/IllegalArgumentException") (E := "java/lang/IllegalArgumentException") hown [⟨0, 12, 15, 13⟩] ⟨0, 12, 19, 15⟩ [⟨0, 12, 23, 31⟩] (htab.trans rfl) (fun z hz => by rw [List.mem_singleton.mp hz]; exact Or.inr ⟨by decide, "java/lang/IndexOutOfBoundsException", hts (.classLink RL 13 "java/lang/IndexOutOfBoundsException") (by decide +kernel), hNC.1⟩) (by decide) (by decide) (hts (.classLink RL 15 "java/lang/IllegalArgumentException") (by decide +kernel)) (va_Nw.use rfl hZ.2.2.2.2.2.1.2.1) hc hv hcl ?_
  refine lv_astore (lv' := [(5, .ref q), (0, .ref (ad 0)), (1, .int a0), (2, .int a1), (3, .int a2), (4, .ref (ad 240))]) hx hb dL_bar_19 hl (by decide) rfl (fun ls hl => ?_)
  refine lv_iconst (v := 2) hx hb dL_bar_21 (by decide) ?_
  exact hret _ _ _ _ _ _ _ _ (Nat.le_refl _) (Nat.le_refl _) hP hD hS ⟨rfl, hq⟩ dL_bar_22

set_option maxHeartbeats 4000000 in
set_option maxRecDepth 100000 in
theorem w_bar_3 (l : Launch) (E : NE) (ad : Nat → Nat) (st : NW) (a0 : Int32) (a1 : Int32) (a2 : Int32) (h0 : ∃ fs, st 0 = some (.inr (4, fs))) (P : NW → Prop) (hM : nX l yX4_bar wsX4_bar (nRx 8 124) E ad st [.ref (ad 0), .int a0, .int a1, .int a2] "java/lang/IllegalStateException" P) : nMx l yL_bar wsL_bar (nRx 9 147) E ad st [.ref (ad 0), .int a0, .int a1, .int a2, .ref (ad 240)] (fun k s1 => k = 3 ∧ P s1) := by
  refine nSh (cc := cL_bar) (maxL := 6) (by decide) rfl (Nat.le_of_ble_eq_true rfl) ?_
  intro pg en s mi ar bw mth cd R Q A ls hx hb hml hown hts hRm hP hK hD hZ hA hl hNC htab hret
  subst hRm
  obtain ⟨fs0, h0⟩ := h0
  have hown : s.vm.findClass RL = some mi.cls := hown
  have hS : va_S A s.heap s.heap [] := va_S.rf
  have hl : lv_has ls 6 [(0, .ref (ad 0)), (1, .int a0), (2, .int a1), (3, .int a2), (4, .ref (ad 240))] := hl
  refine lv_aload hx hb dL_bar_0 (lv_at hl 4 rfl) ?_
  refine lv_iconst (v := 0) hx hb dL_bar_2 (by decide) ?_
  refine lv_aload_n hx hb dL_bar_3 rfl (lv_at hl 0 rfl) ?_
  refine lv_iload_n hx hb dL_bar_4 rfl (lv_at hl 1 rfl) ?_
  refine lv_iload_n hx hb dL_bar_5 rfl (lv_at hl 2 rfl) ?_
  refine lv_iload_n hx hb dL_bar_6 rfl (lv_at hl 3 rfl) ?_
  refine nTV (As := [.int a0, .int a1, .int a2]) (rest := _) hx hb hml hown hts hP hK hD hZ hA hS ⟨(Nat.le_of_ble_eq_true rfl), (Nat.le_of_ble_eq_true rfl)⟩ h0 rfl hM (cwV 3 hts gL_bar_X4_bar rfl rfl rfl (by decide +kernel) ⟨(Nat.le_of_ble_eq_true rfl), (Nat.le_of_ble_eq_true rfl)⟩) hl.1 rfl (Nat.le_of_ble_eq_true rfl) dL_bar_7 (fun q ce st1 H locs hq hP hD hS hc hv hcl => ?_)
  refine vx_catch (name := "java/lang/IllegalStateException") (E := "java/lang/IllegalStateException") hown [⟨0, 12, 15, 13⟩, ⟨0, 12, 19, 15⟩] ⟨0, 12, 23, 31⟩ [] (htab.trans rfl) (fun z hz => by rcases List.mem_cons.mp hz with hz | hz; rw [hz]; exact Or.inr ⟨by decide, "java/lang/IndexOutOfBoundsException", hts (.classLink RL 13 "java/lang/IndexOutOfBoundsException") (by decide +kernel), hNC.2.1⟩; rw [List.mem_singleton.mp hz]; exact Or.inr ⟨by decide, "java/lang/IllegalArgumentException", hts (.classLink RL 15 "java/lang/IllegalArgumentException") (by decide +kernel), hNC.2.2⟩) (by decide) (by decide) (hts (.classLink RL 31 "java/lang/IllegalStateException") (by decide +kernel)) (va_Nw.use rfl hZ.2.2.2.2.2.1.2.2) hc hv hcl ?_
  refine lv_astore (lv' := [(5, .ref q), (0, .ref (ad 0)), (1, .int a0), (2, .int a1), (3, .int a2), (4, .ref (ad 240))]) hx hb dL_bar_23 hl (by decide) rfl (fun ls hl => ?_)
  refine lv_iconst (v := 3) hx hb dL_bar_25 (by decide) ?_
  exact hret _ _ _ _ _ _ _ _ (Nat.le_refl _) (Nat.le_refl _) hP hD hS ⟨rfl, hq⟩ dL_bar_26

set_option maxHeartbeats 4000000 in
set_option maxRecDepth 100000 in
theorem w_unbar (l : Launch) (E : NE) (ad : Nat → Nat) (st : NW) (a0 : Int32) (h0 : ∃ fs, st 0 = some (.inr (4, fs))) (v0 : Int64) (P : Int32 → NW → Prop) (hM : nMi l yX4_unbar wsX4_unbar (nRm 4 100) E ad st [.ref (ad 0), .int a0] P) (h240 : ∀ r s9, P r s9 → s9 240 = some (outE E v0)) : nMx l yL_unbar wsL_unbar (nRx 9 145) E ad st [.ref (ad 0), .int a0, .ref (ad 240)] (fun k s1 => k = 0 ∧ ∃ r s9, P r s9 ∧ one 240 s9 s1 ∧ s1 240 = some (outE E r.toInt64)) := by
  refine nSh (cc := cL_unbar) (maxL := 4) (by decide) rfl (Nat.le_of_ble_eq_true rfl) ?_
  intro pg en s mi ar bw mth cd R Q A ls hx hb hml hown hts hRm hP hK hD hZ hA hl hNC htab hret
  subst hRm
  obtain ⟨fs0, h0⟩ := h0
  have hown : s.vm.findClass RL = some mi.cls := hown
  have hS : va_S A s.heap s.heap [] := va_S.rf
  have hl : lv_has ls 4 [(0, .ref (ad 0)), (1, .int a0), (2, .ref (ad 240))] := hl
  refine lv_aload_n hx hb dL_unbar_0 rfl (lv_at hl 2 rfl) ?_
  refine lv_iconst (v := 0) hx hb dL_unbar_1 (by decide) ?_
  refine lv_aload_n hx hb dL_unbar_2 rfl (lv_at hl 0 rfl) ?_
  refine lv_iload_n hx hb dL_unbar_3 rfl (lv_at hl 1 rfl) ?_
  refine nVi (As := [.int a0]) (rest := _) hx hb hml hown hts hP hK hD hZ hA hS ⟨(Nat.le_of_ble_eq_true rfl), (Nat.le_of_ble_eq_true rfl)⟩ h0 rfl hM (cwV 1 hts gL_unbar_X4_unbar rfl rfl rfl (by decide +kernel) ⟨(Nat.le_of_ble_eq_true rfl), (Nat.le_of_ble_eq_true rfl)⟩) hl.1 rfl (Nat.le_of_ble_eq_true rfl) dL_unbar_4 (fun r st1 H locs hq hP hD hS => ?_)
  refine lv_i2l (v := r.toInt64) hx hb dL_unbar_7 rfl ?_
  refine nLst hx hb hK hP hD hS (h240 _ _ hq) dL_unbar_8 (fun st2 H2 locs h2 h1 hP hD hS => ?_)
  refine lv_goto (tgt := 18) hx hb dL_unbar_9 (by decide) ?_
  refine lv_iconst (v := 0) hx hb dL_unbar_18 (by decide) ?_
  exact hret _ _ _ _ _ _ _ _ (Nat.zero_le _) (Nat.zero_le _) hP hD hS ⟨rfl, r, st1, hq, h1, h2⟩ dL_unbar_19

set_option maxHeartbeats 4000000 in
set_option maxRecDepth 100000 in
theorem w_unbar_1 (l : Launch) (E : NE) (ad : Nat → Nat) (st : NW) (a0 : Int32) (h0 : ∃ fs, st 0 = some (.inr (4, fs))) (P : NW → Prop) (hM : nX l yX4_unbar wsX4_unbar (nRx 8 124) E ad st [.ref (ad 0), .int a0] "java/lang/IndexOutOfBoundsException" P) : nMx l yL_unbar wsL_unbar (nRx 9 145) E ad st [.ref (ad 0), .int a0, .ref (ad 240)] (fun k s1 => k = 1 ∧ P s1) := by
  refine nSh (cc := cL_unbar) (maxL := 4) (by decide) rfl (Nat.le_of_ble_eq_true rfl) ?_
  intro pg en s mi ar bw mth cd R Q A ls hx hb hml hown hts hRm hP hK hD hZ hA hl hNC htab hret
  subst hRm
  obtain ⟨fs0, h0⟩ := h0
  have hown : s.vm.findClass RL = some mi.cls := hown
  have hS : va_S A s.heap s.heap [] := va_S.rf
  have hl : lv_has ls 4 [(0, .ref (ad 0)), (1, .int a0), (2, .ref (ad 240))] := hl
  refine lv_aload_n hx hb dL_unbar_0 rfl (lv_at hl 2 rfl) ?_
  refine lv_iconst (v := 0) hx hb dL_unbar_1 (by decide) ?_
  refine lv_aload_n hx hb dL_unbar_2 rfl (lv_at hl 0 rfl) ?_
  refine lv_iload_n hx hb dL_unbar_3 rfl (lv_at hl 1 rfl) ?_
  refine nTV (As := [.int a0]) (rest := _) hx hb hml hown hts hP hK hD hZ hA hS ⟨(Nat.le_of_ble_eq_true rfl), (Nat.le_of_ble_eq_true rfl)⟩ h0 rfl hM (cwV 1 hts gL_unbar_X4_unbar rfl rfl rfl (by decide +kernel) ⟨(Nat.le_of_ble_eq_true rfl), (Nat.le_of_ble_eq_true rfl)⟩) hl.1 rfl (Nat.le_of_ble_eq_true rfl) dL_unbar_4 (fun q ce st1 H locs hq hP hD hS hc hv hcl => ?_)
  refine vx_catch (name := "java/lang/IndexOutOfBoundsException") (E := "java/lang/IndexOutOfBoundsException") hown [] ⟨0, 9, 12, 13⟩ [⟨0, 9, 15, 31⟩] (htab.trans rfl) (fun z hz => by cases hz) (by decide) (by decide) (hts (.classLink RL 13 "java/lang/IndexOutOfBoundsException") (by decide +kernel)) (va_Nw.use rfl hZ.2.2.2.2.2.1.1) hc hv hcl ?_
  refine lv_astore_n (lv' := [(3, .ref q), (0, .ref (ad 0)), (1, .int a0), (2, .ref (ad 240))]) hx hb dL_unbar_12 rfl hl (by decide) rfl (fun ls hl => ?_)
  refine lv_iconst (v := 1) hx hb dL_unbar_13 (by decide) ?_
  exact hret _ _ _ _ _ _ _ _ (Nat.le_refl _) (Nat.le_refl _) hP hD hS ⟨rfl, hq⟩ dL_unbar_14

set_option maxHeartbeats 4000000 in
set_option maxRecDepth 100000 in
theorem w_unbar_2 (l : Launch) (E : NE) (ad : Nat → Nat) (st : NW) (a0 : Int32) (h0 : ∃ fs, st 0 = some (.inr (4, fs))) (P : NW → Prop) (hM : nX l yX4_unbar wsX4_unbar (nRx 8 124) E ad st [.ref (ad 0), .int a0] "java/lang/IllegalStateException" P) : nMx l yL_unbar wsL_unbar (nRx 9 145) E ad st [.ref (ad 0), .int a0, .ref (ad 240)] (fun k s1 => k = 2 ∧ P s1) := by
  refine nSh (cc := cL_unbar) (maxL := 4) (by decide) rfl (Nat.le_of_ble_eq_true rfl) ?_
  intro pg en s mi ar bw mth cd R Q A ls hx hb hml hown hts hRm hP hK hD hZ hA hl hNC htab hret
  subst hRm
  obtain ⟨fs0, h0⟩ := h0
  have hown : s.vm.findClass RL = some mi.cls := hown
  have hS : va_S A s.heap s.heap [] := va_S.rf
  have hl : lv_has ls 4 [(0, .ref (ad 0)), (1, .int a0), (2, .ref (ad 240))] := hl
  refine lv_aload_n hx hb dL_unbar_0 rfl (lv_at hl 2 rfl) ?_
  refine lv_iconst (v := 0) hx hb dL_unbar_1 (by decide) ?_
  refine lv_aload_n hx hb dL_unbar_2 rfl (lv_at hl 0 rfl) ?_
  refine lv_iload_n hx hb dL_unbar_3 rfl (lv_at hl 1 rfl) ?_
  refine nTV (As := [.int a0]) (rest := _) hx hb hml hown hts hP hK hD hZ hA hS ⟨(Nat.le_of_ble_eq_true rfl), (Nat.le_of_ble_eq_true rfl)⟩ h0 rfl hM (cwV 1 hts gL_unbar_X4_unbar rfl rfl rfl (by decide +kernel) ⟨(Nat.le_of_ble_eq_true rfl), (Nat.le_of_ble_eq_true rfl)⟩) hl.1 rfl (Nat.le_of_ble_eq_true rfl) dL_unbar_4 (fun q ce st1 H locs hq hP hD hS hc hv hcl => ?_)
  refine vx_catch (name := "java/lang/IllegalStateException") (E := "java/lang/IllegalStateException") hown [⟨0, 9, 12, 13⟩] ⟨0, 9, 15, 31⟩ [] (htab.trans rfl) (fun z hz => by rw [List.mem_singleton.mp hz]; exact Or.inr ⟨by decide, "java/lang/IndexOutOfBoundsException", hts (.classLink RL 13 "java/lang/IndexOutOfBoundsException") (by decide +kernel), hNC.2.1⟩) (by decide) (by decide) (hts (.classLink RL 31 "java/lang/IllegalStateException") (by decide +kernel)) (va_Nw.use rfl hZ.2.2.2.2.2.1.2.2) hc hv hcl ?_
  refine lv_astore_n (lv' := [(3, .ref q), (0, .ref (ad 0)), (1, .int a0), (2, .ref (ad 240))]) hx hb dL_unbar_15 rfl hl (by decide) rfl (fun ls hl => ?_)
  refine lv_iconst (v := 2) hx hb dL_unbar_16 (by decide) ?_
  exact hret _ _ _ _ _ _ _ _ (Nat.le_refl _) (Nat.le_refl _) hP hD hS ⟨rfl, hq⟩ dL_unbar_17

set_option maxHeartbeats 4000000 in
set_option maxRecDepth 100000 in
theorem w_coil (l : Launch) (E : NE) (ad : Nat → Nat) (st : NW) (a0 : Int32) (a1 : Int32) (h0 : ∃ fs, st 0 = some (.inr (4, fs))) (v0 : Int64) (P : Int32 → NW → Prop) (hM : nMi l yX4_coil wsX4_coil (nRm 4 100) E ad st [.ref (ad 0), .int a0, .int a1] P) (h240 : ∀ r s9, P r s9 → s9 240 = some (outE E v0)) : nMx l yL_coil wsL_coil (nRx 9 147) E ad st [.ref (ad 0), .int a0, .int a1, .ref (ad 240)] (fun k s1 => k = 0 ∧ ∃ r s9, P r s9 ∧ one 240 s9 s1 ∧ s1 240 = some (outE E r.toInt64)) := by
  refine nSh (cc := cL_coil) (maxL := 5) (by decide) rfl (Nat.le_of_ble_eq_true rfl) ?_
  intro pg en s mi ar bw mth cd R Q A ls hx hb hml hown hts hRm hP hK hD hZ hA hl hNC htab hret
  subst hRm
  obtain ⟨fs0, h0⟩ := h0
  have hown : s.vm.findClass RL = some mi.cls := hown
  have hS : va_S A s.heap s.heap [] := va_S.rf
  have hl : lv_has ls 5 [(0, .ref (ad 0)), (1, .int a0), (2, .int a1), (3, .ref (ad 240))] := hl
  refine lv_aload_n hx hb dL_coil_0 rfl (lv_at hl 3 rfl) ?_
  refine lv_iconst (v := 0) hx hb dL_coil_1 (by decide) ?_
  refine lv_aload_n hx hb dL_coil_2 rfl (lv_at hl 0 rfl) ?_
  refine lv_iload_n hx hb dL_coil_3 rfl (lv_at hl 1 rfl) ?_
  refine lv_iload_n hx hb dL_coil_4 rfl (lv_at hl 2 rfl) ?_
  refine nVi (As := [.int a0, .int a1]) (rest := _) hx hb hml hown hts hP hK hD hZ hA hS ⟨(Nat.le_of_ble_eq_true rfl), (Nat.le_of_ble_eq_true rfl)⟩ h0 rfl hM (cwV 2 hts gL_coil_X4_coil rfl rfl rfl (by decide +kernel) ⟨(Nat.le_of_ble_eq_true rfl), (Nat.le_of_ble_eq_true rfl)⟩) hl.1 rfl (Nat.le_of_ble_eq_true rfl) dL_coil_5 (fun r st1 H locs hq hP hD hS => ?_)
  refine lv_i2l (v := r.toInt64) hx hb dL_coil_8 rfl ?_
  refine nLst hx hb hK hP hD hS (h240 _ _ hq) dL_coil_9 (fun st2 H2 locs h2 h1 hP hD hS => ?_)
  refine lv_goto (tgt := 17) hx hb dL_coil_10 (by decide) ?_
  refine lv_iconst (v := 0) hx hb dL_coil_17 (by decide) ?_
  exact hret _ _ _ _ _ _ _ _ (Nat.zero_le _) (Nat.zero_le _) hP hD hS ⟨rfl, r, st1, hq, h1, h2⟩ dL_coil_18

set_option maxHeartbeats 4000000 in
set_option maxRecDepth 100000 in
theorem w_coil_1 (l : Launch) (E : NE) (ad : Nat → Nat) (st : NW) (a0 : Int32) (a1 : Int32) (h0 : ∃ fs, st 0 = some (.inr (4, fs))) (P : NW → Prop) (hM : nX l yX4_coil wsX4_coil (nRx 8 124) E ad st [.ref (ad 0), .int a0, .int a1] "java/lang/IllegalArgumentException" P) : nMx l yL_coil wsL_coil (nRx 9 147) E ad st [.ref (ad 0), .int a0, .int a1, .ref (ad 240)] (fun k s1 => k = 1 ∧ P s1) := by
  refine nSh (cc := cL_coil) (maxL := 5) (by decide) rfl (Nat.le_of_ble_eq_true rfl) ?_
  intro pg en s mi ar bw mth cd R Q A ls hx hb hml hown hts hRm hP hK hD hZ hA hl hNC htab hret
  subst hRm
  obtain ⟨fs0, h0⟩ := h0
  have hown : s.vm.findClass RL = some mi.cls := hown
  have hS : va_S A s.heap s.heap [] := va_S.rf
  have hl : lv_has ls 5 [(0, .ref (ad 0)), (1, .int a0), (2, .int a1), (3, .ref (ad 240))] := hl
  refine lv_aload_n hx hb dL_coil_0 rfl (lv_at hl 3 rfl) ?_
  refine lv_iconst (v := 0) hx hb dL_coil_1 (by decide) ?_
  refine lv_aload_n hx hb dL_coil_2 rfl (lv_at hl 0 rfl) ?_
  refine lv_iload_n hx hb dL_coil_3 rfl (lv_at hl 1 rfl) ?_
  refine lv_iload_n hx hb dL_coil_4 rfl (lv_at hl 2 rfl) ?_
  refine nTV (As := [.int a0, .int a1]) (rest := _) hx hb hml hown hts hP hK hD hZ hA hS ⟨(Nat.le_of_ble_eq_true rfl), (Nat.le_of_ble_eq_true rfl)⟩ h0 rfl hM (cwV 2 hts gL_coil_X4_coil rfl rfl rfl (by decide +kernel) ⟨(Nat.le_of_ble_eq_true rfl), (Nat.le_of_ble_eq_true rfl)⟩) hl.1 rfl (Nat.le_of_ble_eq_true rfl) dL_coil_5 (fun q ce st1 H locs hq hP hD hS hc hv hcl => ?_)
  refine vx_catch (name := "java/lang/IllegalArgumentException") (E := "java/lang/IllegalArgumentException") hown [] ⟨0, 10, 13, 15⟩ [] (htab.trans rfl) (fun z hz => by cases hz) (by decide) (by decide) (hts (.classLink RL 15 "java/lang/IllegalArgumentException") (by decide +kernel)) (va_Nw.use rfl hZ.2.2.2.2.2.1.2.1) hc hv hcl ?_
  refine lv_astore (lv' := [(4, .ref q), (0, .ref (ad 0)), (1, .int a0), (2, .int a1), (3, .ref (ad 240))]) hx hb dL_coil_13 hl (by decide) rfl (fun ls hl => ?_)
  refine lv_iconst (v := 1) hx hb dL_coil_15 (by decide) ?_
  exact hret _ _ _ _ _ _ _ _ (Nat.le_refl _) (Nat.le_refl _) hP hD hS ⟨rfl, hq⟩ dL_coil_16

set_option maxHeartbeats 4000000 in
set_option maxRecDepth 100000 in
theorem w_set (l : Launch) (E : NE) (ad : Nat → Nat) (st : NW) (a0 : Int32) (a1 : Int32) (h0 : ∃ fs, st 0 = some (.inr (4, fs))) (v0 : Int64) (P : Int32 → NW → Prop) (hM : nMi l yX4_set wsX4_set (nRm 4 100) E ad st [.ref (ad 0), .int a0, .int a1] P) (h240 : ∀ r s9, P r s9 → s9 240 = some (outE E v0)) : nMx l yL_set wsL_set (nRx 9 147) E ad st [.ref (ad 0), .int a0, .int a1, .ref (ad 240)] (fun k s1 => k = 0 ∧ ∃ r s9, P r s9 ∧ one 240 s9 s1 ∧ s1 240 = some (outE E r.toInt64)) := by
  refine nSh (cc := cL_set) (maxL := 5) (by decide) rfl (Nat.le_of_ble_eq_true rfl) ?_
  intro pg en s mi ar bw mth cd R Q A ls hx hb hml hown hts hRm hP hK hD hZ hA hl hNC htab hret
  subst hRm
  obtain ⟨fs0, h0⟩ := h0
  have hown : s.vm.findClass RL = some mi.cls := hown
  have hS : va_S A s.heap s.heap [] := va_S.rf
  have hl : lv_has ls 5 [(0, .ref (ad 0)), (1, .int a0), (2, .int a1), (3, .ref (ad 240))] := hl
  refine lv_aload_n hx hb dL_set_0 rfl (lv_at hl 3 rfl) ?_
  refine lv_iconst (v := 0) hx hb dL_set_1 (by decide) ?_
  refine lv_aload_n hx hb dL_set_2 rfl (lv_at hl 0 rfl) ?_
  refine lv_iload_n hx hb dL_set_3 rfl (lv_at hl 1 rfl) ?_
  refine lv_iload_n hx hb dL_set_4 rfl (lv_at hl 2 rfl) ?_
  refine nVi (As := [.int a0, .int a1]) (rest := _) hx hb hml hown hts hP hK hD hZ hA hS ⟨(Nat.le_of_ble_eq_true rfl), (Nat.le_of_ble_eq_true rfl)⟩ h0 rfl hM (cwV 2 hts gL_set_X4_set rfl rfl rfl (by decide +kernel) ⟨(Nat.le_of_ble_eq_true rfl), (Nat.le_of_ble_eq_true rfl)⟩) hl.1 rfl (Nat.le_of_ble_eq_true rfl) dL_set_5 (fun r st1 H locs hq hP hD hS => ?_)
  refine lv_i2l (v := r.toInt64) hx hb dL_set_8 rfl ?_
  refine nLst hx hb hK hP hD hS (h240 _ _ hq) dL_set_9 (fun st2 H2 locs h2 h1 hP hD hS => ?_)
  refine lv_goto (tgt := 21) hx hb dL_set_10 (by decide) ?_
  refine lv_iconst (v := 0) hx hb dL_set_21 (by decide) ?_
  exact hret _ _ _ _ _ _ _ _ (Nat.zero_le _) (Nat.zero_le _) hP hD hS ⟨rfl, r, st1, hq, h1, h2⟩ dL_set_22

set_option maxHeartbeats 4000000 in
set_option maxRecDepth 100000 in
theorem w_set_1 (l : Launch) (E : NE) (ad : Nat → Nat) (st : NW) (a0 : Int32) (a1 : Int32) (h0 : ∃ fs, st 0 = some (.inr (4, fs))) (P : NW → Prop) (hM : nX l yX4_set wsX4_set (nRx 8 124) E ad st [.ref (ad 0), .int a0, .int a1] "java/lang/IndexOutOfBoundsException" P) : nMx l yL_set wsL_set (nRx 9 147) E ad st [.ref (ad 0), .int a0, .int a1, .ref (ad 240)] (fun k s1 => k = 1 ∧ P s1) := by
  refine nSh (cc := cL_set) (maxL := 5) (by decide) rfl (Nat.le_of_ble_eq_true rfl) ?_
  intro pg en s mi ar bw mth cd R Q A ls hx hb hml hown hts hRm hP hK hD hZ hA hl hNC htab hret
  subst hRm
  obtain ⟨fs0, h0⟩ := h0
  have hown : s.vm.findClass RL = some mi.cls := hown
  have hS : va_S A s.heap s.heap [] := va_S.rf
  have hl : lv_has ls 5 [(0, .ref (ad 0)), (1, .int a0), (2, .int a1), (3, .ref (ad 240))] := hl
  refine lv_aload_n hx hb dL_set_0 rfl (lv_at hl 3 rfl) ?_
  refine lv_iconst (v := 0) hx hb dL_set_1 (by decide) ?_
  refine lv_aload_n hx hb dL_set_2 rfl (lv_at hl 0 rfl) ?_
  refine lv_iload_n hx hb dL_set_3 rfl (lv_at hl 1 rfl) ?_
  refine lv_iload_n hx hb dL_set_4 rfl (lv_at hl 2 rfl) ?_
  refine nTV (As := [.int a0, .int a1]) (rest := _) hx hb hml hown hts hP hK hD hZ hA hS ⟨(Nat.le_of_ble_eq_true rfl), (Nat.le_of_ble_eq_true rfl)⟩ h0 rfl hM (cwV 2 hts gL_set_X4_set rfl rfl rfl (by decide +kernel) ⟨(Nat.le_of_ble_eq_true rfl), (Nat.le_of_ble_eq_true rfl)⟩) hl.1 rfl (Nat.le_of_ble_eq_true rfl) dL_set_5 (fun q ce st1 H locs hq hP hD hS hc hv hcl => ?_)
  refine vx_catch (name := "java/lang/IndexOutOfBoundsException") (E := "java/lang/IndexOutOfBoundsException") hown [] ⟨0, 10, 13, 13⟩ [⟨0, 10, 17, 15⟩] (htab.trans rfl) (fun z hz => by cases hz) (by decide) (by decide) (hts (.classLink RL 13 "java/lang/IndexOutOfBoundsException") (by decide +kernel)) (va_Nw.use rfl hZ.2.2.2.2.2.1.1) hc hv hcl ?_
  refine lv_astore (lv' := [(4, .ref q), (0, .ref (ad 0)), (1, .int a0), (2, .int a1), (3, .ref (ad 240))]) hx hb dL_set_13 hl (by decide) rfl (fun ls hl => ?_)
  refine lv_iconst (v := 1) hx hb dL_set_15 (by decide) ?_
  exact hret _ _ _ _ _ _ _ _ (Nat.le_refl _) (Nat.le_refl _) hP hD hS ⟨rfl, hq⟩ dL_set_16

set_option maxHeartbeats 4000000 in
set_option maxRecDepth 100000 in
theorem w_set_2 (l : Launch) (E : NE) (ad : Nat → Nat) (st : NW) (a0 : Int32) (a1 : Int32) (h0 : ∃ fs, st 0 = some (.inr (4, fs))) (P : NW → Prop) (hM : nX l yX4_set wsX4_set (nRx 8 124) E ad st [.ref (ad 0), .int a0, .int a1] "java/lang/IllegalArgumentException" P) : nMx l yL_set wsL_set (nRx 9 147) E ad st [.ref (ad 0), .int a0, .int a1, .ref (ad 240)] (fun k s1 => k = 2 ∧ P s1) := by
  refine nSh (cc := cL_set) (maxL := 5) (by decide) rfl (Nat.le_of_ble_eq_true rfl) ?_
  intro pg en s mi ar bw mth cd R Q A ls hx hb hml hown hts hRm hP hK hD hZ hA hl hNC htab hret
  subst hRm
  obtain ⟨fs0, h0⟩ := h0
  have hown : s.vm.findClass RL = some mi.cls := hown
  have hS : va_S A s.heap s.heap [] := va_S.rf
  have hl : lv_has ls 5 [(0, .ref (ad 0)), (1, .int a0), (2, .int a1), (3, .ref (ad 240))] := hl
  refine lv_aload_n hx hb dL_set_0 rfl (lv_at hl 3 rfl) ?_
  refine lv_iconst (v := 0) hx hb dL_set_1 (by decide) ?_
  refine lv_aload_n hx hb dL_set_2 rfl (lv_at hl 0 rfl) ?_
  refine lv_iload_n hx hb dL_set_3 rfl (lv_at hl 1 rfl) ?_
  refine lv_iload_n hx hb dL_set_4 rfl (lv_at hl 2 rfl) ?_
  refine nTV (As := [.int a0, .int a1]) (rest := _) hx hb hml hown hts hP hK hD hZ hA hS ⟨(Nat.le_of_ble_eq_true rfl), (Nat.le_of_ble_eq_true rfl)⟩ h0 rfl hM (cwV 2 hts gL_set_X4_set rfl rfl rfl (by decide +kernel) ⟨(Nat.le_of_ble_eq_true rfl), (Nat.le_of_ble_eq_true rfl)⟩) hl.1 rfl (Nat.le_of_ble_eq_true rfl) dL_set_5 (fun q ce st1 H locs hq hP hD hS hc hv hcl => ?_)
  refine vx_catch (name := "java/lang/IllegalArgumentException") (E := "java/lang/IllegalArgumentException") hown [⟨0, 10, 13, 13⟩] ⟨0, 10, 17, 15⟩ [] (htab.trans rfl) (fun z hz => by rw [List.mem_singleton.mp hz]; exact Or.inr ⟨by decide, "java/lang/IndexOutOfBoundsException", hts (.classLink RL 13 "java/lang/IndexOutOfBoundsException") (by decide +kernel), hNC.1⟩) (by decide) (by decide) (hts (.classLink RL 15 "java/lang/IllegalArgumentException") (by decide +kernel)) (va_Nw.use rfl hZ.2.2.2.2.2.1.2.1) hc hv hcl ?_
  refine lv_astore (lv' := [(4, .ref q), (0, .ref (ad 0)), (1, .int a0), (2, .int a1), (3, .ref (ad 240))]) hx hb dL_set_17 hl (by decide) rfl (fun ls hl => ?_)
  refine lv_iconst (v := 2) hx hb dL_set_19 (by decide) ?_
  exact hret _ _ _ _ _ _ _ _ (Nat.le_refl _) (Nat.le_refl _) hP hD hS ⟨rfl, hq⟩ dL_set_20

set_option maxHeartbeats 4000000 in
set_option maxRecDepth 100000 in
theorem w_step (l : Launch) (E : NE) (ad : Nat → Nat) (st : NW) (a0 : Int32) (h0 : ∃ fs, st 0 = some (.inr (4, fs))) (v0 : Int64) (P : Int32 → NW → Prop) (hM : nMi l yX4_step wsX4_step (nRm 5 114) E ad st [.ref (ad 0), .int a0] P) (h240 : ∀ r s9, P r s9 → s9 240 = some (outE E v0)) : nMx l yL_step wsL_step (nRx 9 145) E ad st [.ref (ad 0), .int a0, .ref (ad 240)] (fun k s1 => k = 0 ∧ ∃ r s9, P r s9 ∧ one 240 s9 s1 ∧ s1 240 = some (outE E r.toInt64)) := by
  refine nSh (cc := cL_step) (maxL := 4) (by decide) rfl (Nat.le_of_ble_eq_true rfl) ?_
  intro pg en s mi ar bw mth cd R Q A ls hx hb hml hown hts hRm hP hK hD hZ hA hl hNC htab hret
  subst hRm
  obtain ⟨fs0, h0⟩ := h0
  have hown : s.vm.findClass RL = some mi.cls := hown
  have hS : va_S A s.heap s.heap [] := va_S.rf
  have hl : lv_has ls 4 [(0, .ref (ad 0)), (1, .int a0), (2, .ref (ad 240))] := hl
  refine lv_aload_n hx hb dL_step_0 rfl (lv_at hl 2 rfl) ?_
  refine lv_iconst (v := 0) hx hb dL_step_1 (by decide) ?_
  refine lv_aload_n hx hb dL_step_2 rfl (lv_at hl 0 rfl) ?_
  refine lv_iload_n hx hb dL_step_3 rfl (lv_at hl 1 rfl) ?_
  refine nVi (As := [.int a0]) (rest := _) hx hb hml hown hts hP hK hD hZ hA hS ⟨(Nat.le_of_ble_eq_true rfl), (Nat.le_of_ble_eq_true rfl)⟩ h0 rfl hM (cwV 1 hts gL_step_X4_step rfl rfl rfl (by decide +kernel) ⟨(Nat.le_of_ble_eq_true rfl), (Nat.le_of_ble_eq_true rfl)⟩) hl.1 rfl (Nat.le_of_ble_eq_true rfl) dL_step_4 (fun r st1 H locs hq hP hD hS => ?_)
  refine lv_i2l (v := r.toInt64) hx hb dL_step_7 rfl ?_
  refine nLst hx hb hK hP hD hS (h240 _ _ hq) dL_step_8 (fun st2 H2 locs h2 h1 hP hD hS => ?_)
  refine lv_goto (tgt := 15) hx hb dL_step_9 (by decide) ?_
  refine lv_iconst (v := 0) hx hb dL_step_15 (by decide) ?_
  exact hret _ _ _ _ _ _ _ _ (Nat.zero_le _) (Nat.zero_le _) hP hD hS ⟨rfl, r, st1, hq, h1, h2⟩ dL_step_16

set_option maxHeartbeats 4000000 in
set_option maxRecDepth 100000 in
theorem w_step_1 (l : Launch) (E : NE) (ad : Nat → Nat) (st : NW) (a0 : Int32) (h0 : ∃ fs, st 0 = some (.inr (4, fs))) (P : NW → Prop) (hM : nX l yX4_step wsX4_step (nRx 8 124) E ad st [.ref (ad 0), .int a0] "java/lang/IllegalArgumentException" P) : nMx l yL_step wsL_step (nRx 9 145) E ad st [.ref (ad 0), .int a0, .ref (ad 240)] (fun k s1 => k = 1 ∧ P s1) := by
  refine nSh (cc := cL_step) (maxL := 4) (by decide) rfl (Nat.le_of_ble_eq_true rfl) ?_
  intro pg en s mi ar bw mth cd R Q A ls hx hb hml hown hts hRm hP hK hD hZ hA hl hNC htab hret
  subst hRm
  obtain ⟨fs0, h0⟩ := h0
  have hown : s.vm.findClass RL = some mi.cls := hown
  have hS : va_S A s.heap s.heap [] := va_S.rf
  have hl : lv_has ls 4 [(0, .ref (ad 0)), (1, .int a0), (2, .ref (ad 240))] := hl
  refine lv_aload_n hx hb dL_step_0 rfl (lv_at hl 2 rfl) ?_
  refine lv_iconst (v := 0) hx hb dL_step_1 (by decide) ?_
  refine lv_aload_n hx hb dL_step_2 rfl (lv_at hl 0 rfl) ?_
  refine lv_iload_n hx hb dL_step_3 rfl (lv_at hl 1 rfl) ?_
  refine nTV (As := [.int a0]) (rest := _) hx hb hml hown hts hP hK hD hZ hA hS ⟨(Nat.le_of_ble_eq_true rfl), (Nat.le_of_ble_eq_true rfl)⟩ h0 rfl hM (cwV 1 hts gL_step_X4_step rfl rfl rfl (by decide +kernel) ⟨(Nat.le_of_ble_eq_true rfl), (Nat.le_of_ble_eq_true rfl)⟩) hl.1 rfl (Nat.le_of_ble_eq_true rfl) dL_step_4 (fun q ce st1 H locs hq hP hD hS hc hv hcl => ?_)
  refine vx_catch (name := "java/lang/IllegalArgumentException") (E := "java/lang/IllegalArgumentException") hown [] ⟨0, 9, 12, 15⟩ [] (htab.trans rfl) (fun z hz => by cases hz) (by decide) (by decide) (hts (.classLink RL 15 "java/lang/IllegalArgumentException") (by decide +kernel)) (va_Nw.use rfl hZ.2.2.2.2.2.1.2.1) hc hv hcl ?_
  refine lv_astore_n (lv' := [(3, .ref q), (0, .ref (ad 0)), (1, .int a0), (2, .ref (ad 240))]) hx hb dL_step_12 rfl hl (by decide) rfl (fun ls hl => ?_)
  refine lv_iconst (v := 1) hx hb dL_step_13 (by decide) ?_
  exact hret _ _ _ _ _ _ _ _ (Nat.le_refl _) (Nat.le_refl _) hP hD hS ⟨rfl, hq⟩ dL_step_14

set_option maxHeartbeats 4000000 in
set_option maxRecDepth 100000 in
theorem w_append (l : Launch) (E : NE) (ad : Nat → Nat) (st : NW) (a0 : Int32) (h0 : ∃ fs, st 0 = some (.inr (4, fs))) (v0 : Int64) (P : Int32 → NW → Prop) (hM : nMi l yX4_append wsX4_append (nRm 1 22) E ad st [.ref (ad 0), .int a0] P) (h240 : ∀ r s9, P r s9 → s9 240 = some (outE E v0)) : nMx l yL_append wsL_append (nRx 9 145) E ad st [.ref (ad 0), .int a0, .ref (ad 240)] (fun k s1 => k = 0 ∧ ∃ r s9, P r s9 ∧ one 240 s9 s1 ∧ s1 240 = some (outE E r.toInt64)) := by
  refine nSh (cc := cL_append) (maxL := 4) (by decide) rfl (Nat.le_of_ble_eq_true rfl) ?_
  intro pg en s mi ar bw mth cd R Q A ls hx hb hml hown hts hRm hP hK hD hZ hA hl hNC htab hret
  subst hRm
  obtain ⟨fs0, h0⟩ := h0
  have hown : s.vm.findClass RL = some mi.cls := hown
  have hS : va_S A s.heap s.heap [] := va_S.rf
  have hl : lv_has ls 4 [(0, .ref (ad 0)), (1, .int a0), (2, .ref (ad 240))] := hl
  refine lv_aload_n hx hb dL_append_0 rfl (lv_at hl 2 rfl) ?_
  refine lv_iconst (v := 0) hx hb dL_append_1 (by decide) ?_
  refine lv_aload_n hx hb dL_append_2 rfl (lv_at hl 0 rfl) ?_
  refine lv_iload_n hx hb dL_append_3 rfl (lv_at hl 1 rfl) ?_
  refine nVi (As := [.int a0]) (rest := _) hx hb hml hown hts hP hK hD hZ hA hS ⟨(Nat.le_of_ble_eq_true rfl), (Nat.le_of_ble_eq_true rfl)⟩ h0 rfl hM (cwV 1 hts gL_append_X4_append rfl rfl rfl (by decide +kernel) ⟨(Nat.le_of_ble_eq_true rfl), (Nat.le_of_ble_eq_true rfl)⟩) hl.1 rfl (Nat.le_of_ble_eq_true rfl) dL_append_4 (fun r st1 H locs hq hP hD hS => ?_)
  refine lv_i2l (v := r.toInt64) hx hb dL_append_7 rfl ?_
  refine nLst hx hb hK hP hD hS (h240 _ _ hq) dL_append_8 (fun st2 H2 locs h2 h1 hP hD hS => ?_)
  refine lv_goto (tgt := 18) hx hb dL_append_9 (by decide) ?_
  refine lv_iconst (v := 0) hx hb dL_append_18 (by decide) ?_
  exact hret _ _ _ _ _ _ _ _ (Nat.zero_le _) (Nat.zero_le _) hP hD hS ⟨rfl, r, st1, hq, h1, h2⟩ dL_append_19

set_option maxHeartbeats 4000000 in
set_option maxRecDepth 100000 in
theorem w_append_1 (l : Launch) (E : NE) (ad : Nat → Nat) (st : NW) (a0 : Int32) (h0 : ∃ fs, st 0 = some (.inr (4, fs))) (P : NW → Prop) (hM : nX l yX4_append wsX4_append (nRx 8 124) E ad st [.ref (ad 0), .int a0] "java/lang/IllegalArgumentException" P) : nMx l yL_append wsL_append (nRx 9 145) E ad st [.ref (ad 0), .int a0, .ref (ad 240)] (fun k s1 => k = 1 ∧ P s1) := by
  refine nSh (cc := cL_append) (maxL := 4) (by decide) rfl (Nat.le_of_ble_eq_true rfl) ?_
  intro pg en s mi ar bw mth cd R Q A ls hx hb hml hown hts hRm hP hK hD hZ hA hl hNC htab hret
  subst hRm
  obtain ⟨fs0, h0⟩ := h0
  have hown : s.vm.findClass RL = some mi.cls := hown
  have hS : va_S A s.heap s.heap [] := va_S.rf
  have hl : lv_has ls 4 [(0, .ref (ad 0)), (1, .int a0), (2, .ref (ad 240))] := hl
  refine lv_aload_n hx hb dL_append_0 rfl (lv_at hl 2 rfl) ?_
  refine lv_iconst (v := 0) hx hb dL_append_1 (by decide) ?_
  refine lv_aload_n hx hb dL_append_2 rfl (lv_at hl 0 rfl) ?_
  refine lv_iload_n hx hb dL_append_3 rfl (lv_at hl 1 rfl) ?_
  refine nTV (As := [.int a0]) (rest := _) hx hb hml hown hts hP hK hD hZ hA hS ⟨(Nat.le_of_ble_eq_true rfl), (Nat.le_of_ble_eq_true rfl)⟩ h0 rfl hM (cwV 1 hts gL_append_X4_append rfl rfl rfl (by decide +kernel) ⟨(Nat.le_of_ble_eq_true rfl), (Nat.le_of_ble_eq_true rfl)⟩) hl.1 rfl (Nat.le_of_ble_eq_true rfl) dL_append_4 (fun q ce st1 H locs hq hP hD hS hc hv hcl => ?_)
  refine vx_catch (name := "java/lang/IllegalArgumentException") (E := "java/lang/IllegalArgumentException") hown [] ⟨0, 9, 12, 15⟩ [⟨0, 9, 15, 31⟩] (htab.trans rfl) (fun z hz => by cases hz) (by decide) (by decide) (hts (.classLink RL 15 "java/lang/IllegalArgumentException") (by decide +kernel)) (va_Nw.use rfl hZ.2.2.2.2.2.1.2.1) hc hv hcl ?_
  refine lv_astore_n (lv' := [(3, .ref q), (0, .ref (ad 0)), (1, .int a0), (2, .ref (ad 240))]) hx hb dL_append_12 rfl hl (by decide) rfl (fun ls hl => ?_)
  refine lv_iconst (v := 1) hx hb dL_append_13 (by decide) ?_
  exact hret _ _ _ _ _ _ _ _ (Nat.le_refl _) (Nat.le_refl _) hP hD hS ⟨rfl, hq⟩ dL_append_14

set_option maxHeartbeats 4000000 in
set_option maxRecDepth 100000 in
theorem w_append_2 (l : Launch) (E : NE) (ad : Nat → Nat) (st : NW) (a0 : Int32) (h0 : ∃ fs, st 0 = some (.inr (4, fs))) (P : NW → Prop) (hM : nX l yX4_append wsX4_append (nRx 8 124) E ad st [.ref (ad 0), .int a0] "java/lang/IllegalStateException" P) : nMx l yL_append wsL_append (nRx 9 145) E ad st [.ref (ad 0), .int a0, .ref (ad 240)] (fun k s1 => k = 2 ∧ P s1) := by
  refine nSh (cc := cL_append) (maxL := 4) (by decide) rfl (Nat.le_of_ble_eq_true rfl) ?_
  intro pg en s mi ar bw mth cd R Q A ls hx hb hml hown hts hRm hP hK hD hZ hA hl hNC htab hret
  subst hRm
  obtain ⟨fs0, h0⟩ := h0
  have hown : s.vm.findClass RL = some mi.cls := hown
  have hS : va_S A s.heap s.heap [] := va_S.rf
  have hl : lv_has ls 4 [(0, .ref (ad 0)), (1, .int a0), (2, .ref (ad 240))] := hl
  refine lv_aload_n hx hb dL_append_0 rfl (lv_at hl 2 rfl) ?_
  refine lv_iconst (v := 0) hx hb dL_append_1 (by decide) ?_
  refine lv_aload_n hx hb dL_append_2 rfl (lv_at hl 0 rfl) ?_
  refine lv_iload_n hx hb dL_append_3 rfl (lv_at hl 1 rfl) ?_
  refine nTV (As := [.int a0]) (rest := _) hx hb hml hown hts hP hK hD hZ hA hS ⟨(Nat.le_of_ble_eq_true rfl), (Nat.le_of_ble_eq_true rfl)⟩ h0 rfl hM (cwV 1 hts gL_append_X4_append rfl rfl rfl (by decide +kernel) ⟨(Nat.le_of_ble_eq_true rfl), (Nat.le_of_ble_eq_true rfl)⟩) hl.1 rfl (Nat.le_of_ble_eq_true rfl) dL_append_4 (fun q ce st1 H locs hq hP hD hS hc hv hcl => ?_)
  refine vx_catch (name := "java/lang/IllegalStateException") (E := "java/lang/IllegalStateException") hown [⟨0, 9, 12, 15⟩] ⟨0, 9, 15, 31⟩ [] (htab.trans rfl) (fun z hz => by rw [List.mem_singleton.mp hz]; exact Or.inr ⟨by decide, "java/lang/IllegalArgumentException", hts (.classLink RL 15 "java/lang/IllegalArgumentException") (by decide +kernel), hNC.2.2⟩) (by decide) (by decide) (hts (.classLink RL 31 "java/lang/IllegalStateException") (by decide +kernel)) (va_Nw.use rfl hZ.2.2.2.2.2.1.2.2) hc hv hcl ?_
  refine lv_astore_n (lv' := [(3, .ref q), (0, .ref (ad 0)), (1, .int a0), (2, .ref (ad 240))]) hx hb dL_append_15 rfl hl (by decide) rfl (fun ls hl => ?_)
  refine lv_iconst (v := 2) hx hb dL_append_16 (by decide) ?_
  exact hret _ _ _ _ _ _ _ _ (Nat.le_refl _) (Nat.le_refl _) hP hD hS ⟨rfl, hq⟩ dL_append_17

set_option maxHeartbeats 4000000 in
set_option maxRecDepth 100000 in
theorem w_bars (l : Launch) (E : NE) (ad : Nat → Nat) (st : NW) (h0 : ∃ fs, st 0 = some (.inr (4, fs))) (v0 : Int64) (P : Int32 → NW → Prop) (hM : nMi l yX4_bars wsX4_bars (nRm 5 107) E ad st [.ref (ad 0)] P) (h240 : ∀ r s9, P r s9 → s9 240 = some (outE E v0)) : nMx l yL_bars wsL_bars (nRx 9 144) E ad st [.ref (ad 0), .ref (ad 240)] (fun k s1 => k = 0 ∧ ∃ r s9, P r s9 ∧ one 240 s9 s1 ∧ s1 240 = some (outE E r.toInt64)) := by
  refine nSh (cc := cL_bars) (maxL := 3) (by decide) rfl (Nat.le_of_ble_eq_true rfl) ?_
  intro pg en s mi ar bw mth cd R Q A ls hx hb hml hown hts hRm hP hK hD hZ hA hl hNC htab hret
  subst hRm
  obtain ⟨fs0, h0⟩ := h0
  have hown : s.vm.findClass RL = some mi.cls := hown
  have hS : va_S A s.heap s.heap [] := va_S.rf
  have hl : lv_has ls 3 [(0, .ref (ad 0)), (1, .ref (ad 240))] := hl
  refine lv_aload_n hx hb dL_bars_0 rfl (lv_at hl 1 rfl) ?_
  refine lv_iconst (v := 0) hx hb dL_bars_1 (by decide) ?_
  refine lv_aload_n hx hb dL_bars_2 rfl (lv_at hl 0 rfl) ?_
  refine nVi (As := []) (rest := _) hx hb hml hown hts hP hK hD hZ hA hS ⟨(Nat.le_of_ble_eq_true rfl), (Nat.le_of_ble_eq_true rfl)⟩ h0 rfl hM (cwV 0 hts gL_bars_X4_bars rfl rfl rfl (by decide +kernel) ⟨(Nat.le_of_ble_eq_true rfl), (Nat.le_of_ble_eq_true rfl)⟩) hl.1 rfl (Nat.le_of_ble_eq_true rfl) dL_bars_3 (fun r st1 H locs hq hP hD hS => ?_)
  refine lv_i2l (v := r.toInt64) hx hb dL_bars_6 rfl ?_
  refine nLst hx hb hK hP hD hS (h240 _ _ hq) dL_bars_7 (fun st2 H2 locs h2 h1 hP hD hS => ?_)
  refine lv_goto (tgt := 14) hx hb dL_bars_8 (by decide) ?_
  refine lv_iconst (v := 0) hx hb dL_bars_14 (by decide) ?_
  exact hret _ _ _ _ _ _ _ _ (Nat.zero_le _) (Nat.zero_le _) hP hD hS ⟨rfl, r, st1, hq, h1, h2⟩ dL_bars_15

set_option maxHeartbeats 4000000 in
set_option maxRecDepth 100000 in
theorem w_bars_1 (l : Launch) (E : NE) (ad : Nat → Nat) (st : NW) (h0 : ∃ fs, st 0 = some (.inr (4, fs))) (P : NW → Prop) (hM : nX l yX4_bars wsX4_bars (nRx 8 124) E ad st [.ref (ad 0)] "java/lang/IllegalArgumentException" P) : nMx l yL_bars wsL_bars (nRx 9 144) E ad st [.ref (ad 0), .ref (ad 240)] (fun k s1 => k = 1 ∧ P s1) := by
  refine nSh (cc := cL_bars) (maxL := 3) (by decide) rfl (Nat.le_of_ble_eq_true rfl) ?_
  intro pg en s mi ar bw mth cd R Q A ls hx hb hml hown hts hRm hP hK hD hZ hA hl hNC htab hret
  subst hRm
  obtain ⟨fs0, h0⟩ := h0
  have hown : s.vm.findClass RL = some mi.cls := hown
  have hS : va_S A s.heap s.heap [] := va_S.rf
  have hl : lv_has ls 3 [(0, .ref (ad 0)), (1, .ref (ad 240))] := hl
  refine lv_aload_n hx hb dL_bars_0 rfl (lv_at hl 1 rfl) ?_
  refine lv_iconst (v := 0) hx hb dL_bars_1 (by decide) ?_
  refine lv_aload_n hx hb dL_bars_2 rfl (lv_at hl 0 rfl) ?_
  refine nTV (As := []) (rest := _) hx hb hml hown hts hP hK hD hZ hA hS ⟨(Nat.le_of_ble_eq_true rfl), (Nat.le_of_ble_eq_true rfl)⟩ h0 rfl hM (cwV 0 hts gL_bars_X4_bars rfl rfl rfl (by decide +kernel) ⟨(Nat.le_of_ble_eq_true rfl), (Nat.le_of_ble_eq_true rfl)⟩) hl.1 rfl (Nat.le_of_ble_eq_true rfl) dL_bars_3 (fun q ce st1 H locs hq hP hD hS hc hv hcl => ?_)
  refine vx_catch (name := "java/lang/IllegalArgumentException") (E := "java/lang/IllegalArgumentException") hown [] ⟨0, 8, 11, 15⟩ [] (htab.trans rfl) (fun z hz => by cases hz) (by decide) (by decide) (hts (.classLink RL 15 "java/lang/IllegalArgumentException") (by decide +kernel)) (va_Nw.use rfl hZ.2.2.2.2.2.1.2.1) hc hv hcl ?_
  refine lv_astore_n (lv' := [(2, .ref q), (0, .ref (ad 0)), (1, .ref (ad 240))]) hx hb dL_bars_11 rfl hl (by decide) rfl (fun ls hl => ?_)
  refine lv_iconst (v := 1) hx hb dL_bars_12 (by decide) ?_
  exact hret _ _ _ _ _ _ _ _ (Nat.le_refl _) (Nat.le_refl _) hP hD hS ⟨rfl, hq⟩ dL_bars_13

set_option maxHeartbeats 4000000 in
set_option maxRecDepth 100000 in
theorem w_undo (l : Launch) (E : NE) (ad : Nat → Nat) (st : NW) (h0 : ∃ fs, st 0 = some (.inr (4, fs))) (v0 : Int64) (P : Int32 → NW → Prop) (hM : nMi l yX4_undo wsX4_undo (nRm 2 44) E ad st [.ref (ad 0)] P) (h240 : ∀ r s9, P r s9 → s9 240 = some (outE E v0)) : nMx l yL_undo wsL_undo (nRx 9 144) E ad st [.ref (ad 0), .ref (ad 240)] (fun k s1 => k = 0 ∧ ∃ r s9, P r s9 ∧ one 240 s9 s1 ∧ s1 240 = some (outE E r.toInt64)) := by
  refine nSh (cc := cL_undo) (maxL := 3) (by decide) rfl (Nat.le_of_ble_eq_true rfl) ?_
  intro pg en s mi ar bw mth cd R Q A ls hx hb hml hown hts hRm hP hK hD hZ hA hl hNC htab hret
  subst hRm
  obtain ⟨fs0, h0⟩ := h0
  have hown : s.vm.findClass RL = some mi.cls := hown
  have hS : va_S A s.heap s.heap [] := va_S.rf
  have hl : lv_has ls 3 [(0, .ref (ad 0)), (1, .ref (ad 240))] := hl
  refine lv_aload_n hx hb dL_undo_0 rfl (lv_at hl 1 rfl) ?_
  refine lv_iconst (v := 0) hx hb dL_undo_1 (by decide) ?_
  refine lv_aload_n hx hb dL_undo_2 rfl (lv_at hl 0 rfl) ?_
  refine nVi (As := []) (rest := _) hx hb hml hown hts hP hK hD hZ hA hS ⟨(Nat.le_of_ble_eq_true rfl), (Nat.le_of_ble_eq_true rfl)⟩ h0 rfl hM (cwV 0 hts gL_undo_X4_undo rfl rfl rfl (by decide +kernel) ⟨(Nat.le_of_ble_eq_true rfl), (Nat.le_of_ble_eq_true rfl)⟩) hl.1 rfl (Nat.le_of_ble_eq_true rfl) dL_undo_3 (fun r st1 H locs hq hP hD hS => ?_)
  refine lv_i2l (v := r.toInt64) hx hb dL_undo_6 rfl ?_
  refine nLst hx hb hK hP hD hS (h240 _ _ hq) dL_undo_7 (fun st2 H2 locs h2 h1 hP hD hS => ?_)
  refine lv_goto (tgt := 14) hx hb dL_undo_8 (by decide) ?_
  refine lv_iconst (v := 0) hx hb dL_undo_14 (by decide) ?_
  exact hret _ _ _ _ _ _ _ _ (Nat.zero_le _) (Nat.zero_le _) hP hD hS ⟨rfl, r, st1, hq, h1, h2⟩ dL_undo_15

set_option maxHeartbeats 4000000 in
set_option maxRecDepth 100000 in
theorem w_undo_1 (l : Launch) (E : NE) (ad : Nat → Nat) (st : NW) (h0 : ∃ fs, st 0 = some (.inr (4, fs))) (P : NW → Prop) (hM : nX l yX4_undo wsX4_undo (nRx 8 124) E ad st [.ref (ad 0)] "java/lang/IllegalStateException" P) : nMx l yL_undo wsL_undo (nRx 9 144) E ad st [.ref (ad 0), .ref (ad 240)] (fun k s1 => k = 1 ∧ P s1) := by
  refine nSh (cc := cL_undo) (maxL := 3) (by decide) rfl (Nat.le_of_ble_eq_true rfl) ?_
  intro pg en s mi ar bw mth cd R Q A ls hx hb hml hown hts hRm hP hK hD hZ hA hl hNC htab hret
  subst hRm
  obtain ⟨fs0, h0⟩ := h0
  have hown : s.vm.findClass RL = some mi.cls := hown
  have hS : va_S A s.heap s.heap [] := va_S.rf
  have hl : lv_has ls 3 [(0, .ref (ad 0)), (1, .ref (ad 240))] := hl
  refine lv_aload_n hx hb dL_undo_0 rfl (lv_at hl 1 rfl) ?_
  refine lv_iconst (v := 0) hx hb dL_undo_1 (by decide) ?_
  refine lv_aload_n hx hb dL_undo_2 rfl (lv_at hl 0 rfl) ?_
  refine nTV (As := []) (rest := _) hx hb hml hown hts hP hK hD hZ hA hS ⟨(Nat.le_of_ble_eq_true rfl), (Nat.le_of_ble_eq_true rfl)⟩ h0 rfl hM (cwV 0 hts gL_undo_X4_undo rfl rfl rfl (by decide +kernel) ⟨(Nat.le_of_ble_eq_true rfl), (Nat.le_of_ble_eq_true rfl)⟩) hl.1 rfl (Nat.le_of_ble_eq_true rfl) dL_undo_3 (fun q ce st1 H locs hq hP hD hS hc hv hcl => ?_)
  refine vx_catch (name := "java/lang/IllegalStateException") (E := "java/lang/IllegalStateException") hown [] ⟨0, 8, 11, 31⟩ [] (htab.trans rfl) (fun z hz => by cases hz) (by decide) (by decide) (hts (.classLink RL 31 "java/lang/IllegalStateException") (by decide +kernel)) (va_Nw.use rfl hZ.2.2.2.2.2.1.2.2) hc hv hcl ?_
  refine lv_astore_n (lv' := [(2, .ref q), (0, .ref (ad 0)), (1, .ref (ad 240))]) hx hb dL_undo_11 rfl hl (by decide) rfl (fun ls hl => ?_)
  refine lv_iconst (v := 1) hx hb dL_undo_12 (by decide) ?_
  exact hret _ _ _ _ _ _ _ _ (Nat.le_refl _) (Nat.le_refl _) hP hD hS ⟨rfl, hq⟩ dL_undo_13

set_option maxHeartbeats 4000000 in
set_option maxRecDepth 100000 in
theorem w_cell (l : Launch) (E : NE) (ad : Nat → Nat) (st : NW) (a0 : Int32) (a1 : Int32) (h0 : ∃ fs, st 0 = some (.inr (4, fs))) (v0 : Int64) (P : Int32 → NW → Prop) (hM : nMi l yX4_cell wsX4_cell (nRm 3 71) E ad st [.ref (ad 0), .int a0, .int a1] P) (h240 : ∀ r s9, P r s9 → s9 240 = some (outE E v0)) : nMx l yL_cell wsL_cell (nRx 9 146) E ad st [.ref (ad 0), .int a0, .int a1, .ref (ad 240)] (fun k s1 => k = 0 ∧ ∃ r s9, P r s9 ∧ one 240 s9 s1 ∧ s1 240 = some (outE E r.toInt64)) := by
  refine nSh (cc := cL_cell) (maxL := 5) (by decide) rfl (Nat.le_of_ble_eq_true rfl) ?_
  intro pg en s mi ar bw mth cd R Q A ls hx hb hml hown hts hRm hP hK hD hZ hA hl hNC htab hret
  subst hRm
  obtain ⟨fs0, h0⟩ := h0
  have hown : s.vm.findClass RL = some mi.cls := hown
  have hS : va_S A s.heap s.heap [] := va_S.rf
  have hl : lv_has ls 5 [(0, .ref (ad 0)), (1, .int a0), (2, .int a1), (3, .ref (ad 240))] := hl
  refine lv_aload_n hx hb dL_cell_0 rfl (lv_at hl 3 rfl) ?_
  refine lv_iconst (v := 0) hx hb dL_cell_1 (by decide) ?_
  refine lv_aload_n hx hb dL_cell_2 rfl (lv_at hl 0 rfl) ?_
  refine lv_iload_n hx hb dL_cell_3 rfl (lv_at hl 1 rfl) ?_
  refine lv_iload_n hx hb dL_cell_4 rfl (lv_at hl 2 rfl) ?_
  refine nVi (As := [.int a0, .int a1]) (rest := _) hx hb hml hown hts hP hK hD hZ hA hS ⟨(Nat.le_of_ble_eq_true rfl), (Nat.le_of_ble_eq_true rfl)⟩ h0 rfl hM (cwV 2 hts gL_cell_X4_cell rfl rfl rfl (by decide +kernel) ⟨(Nat.le_of_ble_eq_true rfl), (Nat.le_of_ble_eq_true rfl)⟩) hl.1 rfl (Nat.le_of_ble_eq_true rfl) dL_cell_5 (fun r st1 H locs hq hP hD hS => ?_)
  refine lv_i2l (v := r.toInt64) hx hb dL_cell_8 rfl ?_
  refine nLst hx hb hK hP hD hS (h240 _ _ hq) dL_cell_9 (fun st2 H2 locs h2 h1 hP hD hS => ?_)
  refine lv_goto (tgt := 21) hx hb dL_cell_10 (by decide) ?_
  refine lv_iconst (v := 0) hx hb dL_cell_21 (by decide) ?_
  exact hret _ _ _ _ _ _ _ _ (Nat.zero_le _) (Nat.zero_le _) hP hD hS ⟨rfl, r, st1, hq, h1, h2⟩ dL_cell_22

set_option maxHeartbeats 4000000 in
set_option maxRecDepth 100000 in
theorem w_cell_1 (l : Launch) (E : NE) (ad : Nat → Nat) (st : NW) (a0 : Int32) (a1 : Int32) (h0 : ∃ fs, st 0 = some (.inr (4, fs))) (P : NW → Prop) (hM : nX l yX4_cell wsX4_cell (nRx 8 124) E ad st [.ref (ad 0), .int a0, .int a1] "java/lang/IndexOutOfBoundsException" P) : nMx l yL_cell wsL_cell (nRx 9 146) E ad st [.ref (ad 0), .int a0, .int a1, .ref (ad 240)] (fun k s1 => k = 1 ∧ P s1) := by
  refine nSh (cc := cL_cell) (maxL := 5) (by decide) rfl (Nat.le_of_ble_eq_true rfl) ?_
  intro pg en s mi ar bw mth cd R Q A ls hx hb hml hown hts hRm hP hK hD hZ hA hl hNC htab hret
  subst hRm
  obtain ⟨fs0, h0⟩ := h0
  have hown : s.vm.findClass RL = some mi.cls := hown
  have hS : va_S A s.heap s.heap [] := va_S.rf
  have hl : lv_has ls 5 [(0, .ref (ad 0)), (1, .int a0), (2, .int a1), (3, .ref (ad 240))] := hl
  refine lv_aload_n hx hb dL_cell_0 rfl (lv_at hl 3 rfl) ?_
  refine lv_iconst (v := 0) hx hb dL_cell_1 (by decide) ?_
  refine lv_aload_n hx hb dL_cell_2 rfl (lv_at hl 0 rfl) ?_
  refine lv_iload_n hx hb dL_cell_3 rfl (lv_at hl 1 rfl) ?_
  refine lv_iload_n hx hb dL_cell_4 rfl (lv_at hl 2 rfl) ?_
  refine nTV (As := [.int a0, .int a1]) (rest := _) hx hb hml hown hts hP hK hD hZ hA hS ⟨(Nat.le_of_ble_eq_true rfl), (Nat.le_of_ble_eq_true rfl)⟩ h0 rfl hM (cwV 2 hts gL_cell_X4_cell rfl rfl rfl (by decide +kernel) ⟨(Nat.le_of_ble_eq_true rfl), (Nat.le_of_ble_eq_true rfl)⟩) hl.1 rfl (Nat.le_of_ble_eq_true rfl) dL_cell_5 (fun q ce st1 H locs hq hP hD hS hc hv hcl => ?_)
  refine vx_catch (name := "java/lang/IndexOutOfBoundsException") (E := "java/lang/IndexOutOfBoundsException") hown [] ⟨0, 10, 13, 13⟩ [⟨0, 10, 17, 15⟩] (htab.trans rfl) (fun z hz => by cases hz) (by decide) (by decide) (hts (.classLink RL 13 "java/lang/IndexOutOfBoundsException") (by decide +kernel)) (va_Nw.use rfl hZ.2.2.2.2.2.1.1) hc hv hcl ?_
  refine lv_astore (lv' := [(4, .ref q), (0, .ref (ad 0)), (1, .int a0), (2, .int a1), (3, .ref (ad 240))]) hx hb dL_cell_13 hl (by decide) rfl (fun ls hl => ?_)
  refine lv_iconst (v := 1) hx hb dL_cell_15 (by decide) ?_
  exact hret _ _ _ _ _ _ _ _ (Nat.le_refl _) (Nat.le_refl _) hP hD hS ⟨rfl, hq⟩ dL_cell_16

set_option maxHeartbeats 4000000 in
set_option maxRecDepth 100000 in
theorem w_cell_2 (l : Launch) (E : NE) (ad : Nat → Nat) (st : NW) (a0 : Int32) (a1 : Int32) (h0 : ∃ fs, st 0 = some (.inr (4, fs))) (P : NW → Prop) (hM : nX l yX4_cell wsX4_cell (nRx 8 124) E ad st [.ref (ad 0), .int a0, .int a1] "java/lang/IllegalArgumentException" P) : nMx l yL_cell wsL_cell (nRx 9 146) E ad st [.ref (ad 0), .int a0, .int a1, .ref (ad 240)] (fun k s1 => k = 2 ∧ P s1) := by
  refine nSh (cc := cL_cell) (maxL := 5) (by decide) rfl (Nat.le_of_ble_eq_true rfl) ?_
  intro pg en s mi ar bw mth cd R Q A ls hx hb hml hown hts hRm hP hK hD hZ hA hl hNC htab hret
  subst hRm
  obtain ⟨fs0, h0⟩ := h0
  have hown : s.vm.findClass RL = some mi.cls := hown
  have hS : va_S A s.heap s.heap [] := va_S.rf
  have hl : lv_has ls 5 [(0, .ref (ad 0)), (1, .int a0), (2, .int a1), (3, .ref (ad 240))] := hl
  refine lv_aload_n hx hb dL_cell_0 rfl (lv_at hl 3 rfl) ?_
  refine lv_iconst (v := 0) hx hb dL_cell_1 (by decide) ?_
  refine lv_aload_n hx hb dL_cell_2 rfl (lv_at hl 0 rfl) ?_
  refine lv_iload_n hx hb dL_cell_3 rfl (lv_at hl 1 rfl) ?_
  refine lv_iload_n hx hb dL_cell_4 rfl (lv_at hl 2 rfl) ?_
  refine nTV (As := [.int a0, .int a1]) (rest := _) hx hb hml hown hts hP hK hD hZ hA hS ⟨(Nat.le_of_ble_eq_true rfl), (Nat.le_of_ble_eq_true rfl)⟩ h0 rfl hM (cwV 2 hts gL_cell_X4_cell rfl rfl rfl (by decide +kernel) ⟨(Nat.le_of_ble_eq_true rfl), (Nat.le_of_ble_eq_true rfl)⟩) hl.1 rfl (Nat.le_of_ble_eq_true rfl) dL_cell_5 (fun q ce st1 H locs hq hP hD hS hc hv hcl => ?_)
  refine vx_catch (name := "java/lang/IllegalArgumentException") (E := "java/lang/IllegalArgumentException") hown [⟨0, 10, 13, 13⟩] ⟨0, 10, 17, 15⟩ [] (htab.trans rfl) (fun z hz => by rw [List.mem_singleton.mp hz]; exact Or.inr ⟨by decide, "java/lang/IndexOutOfBoundsException", hts (.classLink RL 13 "java/lang/IndexOutOfBoundsException") (by decide +kernel), hNC.1⟩) (by decide) (by decide) (hts (.classLink RL 15 "java/lang/IllegalArgumentException") (by decide +kernel)) (va_Nw.use rfl hZ.2.2.2.2.2.1.2.1) hc hv hcl ?_
  refine lv_astore (lv' := [(4, .ref q), (0, .ref (ad 0)), (1, .int a0), (2, .int a1), (3, .ref (ad 240))]) hx hb dL_cell_17 hl (by decide) rfl (fun ls hl => ?_)
  refine lv_iconst (v := 2) hx hb dL_cell_19 (by decide) ?_
  exact hret _ _ _ _ _ _ _ _ (Nat.le_refl _) (Nat.le_refl _) hP hD hS ⟨rfl, hq⟩ dL_cell_20

set_option maxHeartbeats 4000000 in
set_option maxRecDepth 100000 in
theorem w_barOf (l : Launch) (E : NE) (ad : Nat → Nat) (st : NW) (a0 : Int32) (a1 : Int32) (h0 : ∃ fs, st 0 = some (.inr (4, fs))) (v0 : Int64) (P : Int32 → NW → Prop) (hM : nMi l yX4_barOf wsX4_barOf (nRm 2 44) E ad st [.ref (ad 0), .int a0, .int a1] P) (h240 : ∀ r s9, P r s9 → s9 240 = some (outE E v0)) : nMx l yL_barOf wsL_barOf (nRx 9 147) E ad st [.ref (ad 0), .int a0, .int a1, .ref (ad 240)] (fun k s1 => k = 0 ∧ ∃ r s9, P r s9 ∧ one 240 s9 s1 ∧ s1 240 = some (outE E r.toInt64)) := by
  refine nSh (cc := cL_barOf) (maxL := 5) (by decide) rfl (Nat.le_of_ble_eq_true rfl) ?_
  intro pg en s mi ar bw mth cd R Q A ls hx hb hml hown hts hRm hP hK hD hZ hA hl hNC htab hret
  subst hRm
  obtain ⟨fs0, h0⟩ := h0
  have hown : s.vm.findClass RL = some mi.cls := hown
  have hS : va_S A s.heap s.heap [] := va_S.rf
  have hl : lv_has ls 5 [(0, .ref (ad 0)), (1, .int a0), (2, .int a1), (3, .ref (ad 240))] := hl
  refine lv_aload_n hx hb dL_barOf_0 rfl (lv_at hl 3 rfl) ?_
  refine lv_iconst (v := 0) hx hb dL_barOf_1 (by decide) ?_
  refine lv_aload_n hx hb dL_barOf_2 rfl (lv_at hl 0 rfl) ?_
  refine lv_iload_n hx hb dL_barOf_3 rfl (lv_at hl 1 rfl) ?_
  refine lv_iload_n hx hb dL_barOf_4 rfl (lv_at hl 2 rfl) ?_
  refine nVi (As := [.int a0, .int a1]) (rest := _) hx hb hml hown hts hP hK hD hZ hA hS ⟨(Nat.le_of_ble_eq_true rfl), (Nat.le_of_ble_eq_true rfl)⟩ h0 rfl hM (cwV 2 hts gL_barOf_X4_barOf rfl rfl rfl (by decide +kernel) ⟨(Nat.le_of_ble_eq_true rfl), (Nat.le_of_ble_eq_true rfl)⟩) hl.1 rfl (Nat.le_of_ble_eq_true rfl) dL_barOf_5 (fun r st1 H locs hq hP hD hS => ?_)
  refine lv_i2l (v := r.toInt64) hx hb dL_barOf_8 rfl ?_
  refine nLst hx hb hK hP hD hS (h240 _ _ hq) dL_barOf_9 (fun st2 H2 locs h2 h1 hP hD hS => ?_)
  refine lv_goto (tgt := 17) hx hb dL_barOf_10 (by decide) ?_
  refine lv_iconst (v := 0) hx hb dL_barOf_17 (by decide) ?_
  exact hret _ _ _ _ _ _ _ _ (Nat.zero_le _) (Nat.zero_le _) hP hD hS ⟨rfl, r, st1, hq, h1, h2⟩ dL_barOf_18

set_option maxHeartbeats 4000000 in
set_option maxRecDepth 100000 in
theorem w_barOf_1 (l : Launch) (E : NE) (ad : Nat → Nat) (st : NW) (a0 : Int32) (a1 : Int32) (h0 : ∃ fs, st 0 = some (.inr (4, fs))) (P : NW → Prop) (hM : nX l yX4_barOf wsX4_barOf (nRx 8 124) E ad st [.ref (ad 0), .int a0, .int a1] "java/lang/IllegalArgumentException" P) : nMx l yL_barOf wsL_barOf (nRx 9 147) E ad st [.ref (ad 0), .int a0, .int a1, .ref (ad 240)] (fun k s1 => k = 1 ∧ P s1) := by
  refine nSh (cc := cL_barOf) (maxL := 5) (by decide) rfl (Nat.le_of_ble_eq_true rfl) ?_
  intro pg en s mi ar bw mth cd R Q A ls hx hb hml hown hts hRm hP hK hD hZ hA hl hNC htab hret
  subst hRm
  obtain ⟨fs0, h0⟩ := h0
  have hown : s.vm.findClass RL = some mi.cls := hown
  have hS : va_S A s.heap s.heap [] := va_S.rf
  have hl : lv_has ls 5 [(0, .ref (ad 0)), (1, .int a0), (2, .int a1), (3, .ref (ad 240))] := hl
  refine lv_aload_n hx hb dL_barOf_0 rfl (lv_at hl 3 rfl) ?_
  refine lv_iconst (v := 0) hx hb dL_barOf_1 (by decide) ?_
  refine lv_aload_n hx hb dL_barOf_2 rfl (lv_at hl 0 rfl) ?_
  refine lv_iload_n hx hb dL_barOf_3 rfl (lv_at hl 1 rfl) ?_
  refine lv_iload_n hx hb dL_barOf_4 rfl (lv_at hl 2 rfl) ?_
  refine nTV (As := [.int a0, .int a1]) (rest := _) hx hb hml hown hts hP hK hD hZ hA hS ⟨(Nat.le_of_ble_eq_true rfl), (Nat.le_of_ble_eq_true rfl)⟩ h0 rfl hM (cwV 2 hts gL_barOf_X4_barOf rfl rfl rfl (by decide +kernel) ⟨(Nat.le_of_ble_eq_true rfl), (Nat.le_of_ble_eq_true rfl)⟩) hl.1 rfl (Nat.le_of_ble_eq_true rfl) dL_barOf_5 (fun q ce st1 H locs hq hP hD hS hc hv hcl => ?_)
  refine vx_catch (name := "java/lang/IllegalArgumentException") (E := "java/lang/IllegalArgumentException") hown [] ⟨0, 10, 13, 15⟩ [] (htab.trans rfl) (fun z hz => by cases hz) (by decide) (by decide) (hts (.classLink RL 15 "java/lang/IllegalArgumentException") (by decide +kernel)) (va_Nw.use rfl hZ.2.2.2.2.2.1.2.1) hc hv hcl ?_
  refine lv_astore (lv' := [(4, .ref q), (0, .ref (ad 0)), (1, .int a0), (2, .int a1), (3, .ref (ad 240))]) hx hb dL_barOf_13 hl (by decide) rfl (fun ls hl => ?_)
  refine lv_iconst (v := 1) hx hb dL_barOf_15 (by decide) ?_
  exact hret _ _ _ _ _ _ _ _ (Nat.le_refl _) (Nat.le_refl _) hP hD hS ⟨rfl, hq⟩ dL_barOf_16

set_option maxHeartbeats 4000000 in
set_option maxRecDepth 100000 in
theorem w_count (l : Launch) (E : NE) (ad : Nat → Nat) (st : NW) (a0 : Int32) (h0 : ∃ fs, st 0 = some (.inr (4, fs))) (v0 : Int64) (P : Int32 → NW → Prop) (hM : nMi l yX4_count wsX4_count (nRm 4 93) E ad st [.ref (ad 0), .int a0] P) (h240 : ∀ r s9, P r s9 → s9 240 = some (outE E v0)) : nMx l yL_count wsL_count (nRx 9 145) E ad st [.ref (ad 0), .int a0, .ref (ad 240)] (fun k s1 => k = 0 ∧ ∃ r s9, P r s9 ∧ one 240 s9 s1 ∧ s1 240 = some (outE E r.toInt64)) := by
  refine nSh (cc := cL_count) (maxL := 4) (by decide) rfl (Nat.le_of_ble_eq_true rfl) ?_
  intro pg en s mi ar bw mth cd R Q A ls hx hb hml hown hts hRm hP hK hD hZ hA hl hNC htab hret
  subst hRm
  obtain ⟨fs0, h0⟩ := h0
  have hown : s.vm.findClass RL = some mi.cls := hown
  have hS : va_S A s.heap s.heap [] := va_S.rf
  have hl : lv_has ls 4 [(0, .ref (ad 0)), (1, .int a0), (2, .ref (ad 240))] := hl
  refine lv_aload_n hx hb dL_count_0 rfl (lv_at hl 2 rfl) ?_
  refine lv_iconst (v := 0) hx hb dL_count_1 (by decide) ?_
  refine lv_aload_n hx hb dL_count_2 rfl (lv_at hl 0 rfl) ?_
  refine lv_iload_n hx hb dL_count_3 rfl (lv_at hl 1 rfl) ?_
  refine nVi (As := [.int a0]) (rest := _) hx hb hml hown hts hP hK hD hZ hA hS ⟨(Nat.le_of_ble_eq_true rfl), (Nat.le_of_ble_eq_true rfl)⟩ h0 rfl hM (cwV 1 hts gL_count_X4_count rfl rfl rfl (by decide +kernel) ⟨(Nat.le_of_ble_eq_true rfl), (Nat.le_of_ble_eq_true rfl)⟩) hl.1 rfl (Nat.le_of_ble_eq_true rfl) dL_count_4 (fun r st1 H locs hq hP hD hS => ?_)
  refine lv_i2l (v := r.toInt64) hx hb dL_count_7 rfl ?_
  refine nLst hx hb hK hP hD hS (h240 _ _ hq) dL_count_8 (fun st2 H2 locs h2 h1 hP hD hS => ?_)
  refine lv_goto (tgt := 15) hx hb dL_count_9 (by decide) ?_
  refine lv_iconst (v := 0) hx hb dL_count_15 (by decide) ?_
  exact hret _ _ _ _ _ _ _ _ (Nat.zero_le _) (Nat.zero_le _) hP hD hS ⟨rfl, r, st1, hq, h1, h2⟩ dL_count_16

set_option maxHeartbeats 4000000 in
set_option maxRecDepth 100000 in
theorem w_count_1 (l : Launch) (E : NE) (ad : Nat → Nat) (st : NW) (a0 : Int32) (h0 : ∃ fs, st 0 = some (.inr (4, fs))) (P : NW → Prop) (hM : nX l yX4_count wsX4_count (nRx 8 124) E ad st [.ref (ad 0), .int a0] "java/lang/IllegalArgumentException" P) : nMx l yL_count wsL_count (nRx 9 145) E ad st [.ref (ad 0), .int a0, .ref (ad 240)] (fun k s1 => k = 1 ∧ P s1) := by
  refine nSh (cc := cL_count) (maxL := 4) (by decide) rfl (Nat.le_of_ble_eq_true rfl) ?_
  intro pg en s mi ar bw mth cd R Q A ls hx hb hml hown hts hRm hP hK hD hZ hA hl hNC htab hret
  subst hRm
  obtain ⟨fs0, h0⟩ := h0
  have hown : s.vm.findClass RL = some mi.cls := hown
  have hS : va_S A s.heap s.heap [] := va_S.rf
  have hl : lv_has ls 4 [(0, .ref (ad 0)), (1, .int a0), (2, .ref (ad 240))] := hl
  refine lv_aload_n hx hb dL_count_0 rfl (lv_at hl 2 rfl) ?_
  refine lv_iconst (v := 0) hx hb dL_count_1 (by decide) ?_
  refine lv_aload_n hx hb dL_count_2 rfl (lv_at hl 0 rfl) ?_
  refine lv_iload_n hx hb dL_count_3 rfl (lv_at hl 1 rfl) ?_
  refine nTV (As := [.int a0]) (rest := _) hx hb hml hown hts hP hK hD hZ hA hS ⟨(Nat.le_of_ble_eq_true rfl), (Nat.le_of_ble_eq_true rfl)⟩ h0 rfl hM (cwV 1 hts gL_count_X4_count rfl rfl rfl (by decide +kernel) ⟨(Nat.le_of_ble_eq_true rfl), (Nat.le_of_ble_eq_true rfl)⟩) hl.1 rfl (Nat.le_of_ble_eq_true rfl) dL_count_4 (fun q ce st1 H locs hq hP hD hS hc hv hcl => ?_)
  refine vx_catch (name := "java/lang/IllegalArgumentException") (E := "java/lang/IllegalArgumentException") hown [] ⟨0, 9, 12, 15⟩ [] (htab.trans rfl) (fun z hz => by cases hz) (by decide) (by decide) (hts (.classLink RL 15 "java/lang/IllegalArgumentException") (by decide +kernel)) (va_Nw.use rfl hZ.2.2.2.2.2.1.2.1) hc hv hcl ?_
  refine lv_astore_n (lv' := [(3, .ref q), (0, .ref (ad 0)), (1, .int a0), (2, .ref (ad 240))]) hx hb dL_count_12 rfl hl (by decide) rfl (fun ls hl => ?_)
  refine lv_iconst (v := 1) hx hb dL_count_13 (by decide) ?_
  exact hret _ _ _ _ _ _ _ _ (Nat.le_refl _) (Nat.le_refl _) hP hD hS ⟨rfl, hq⟩ dL_count_14

set_option maxHeartbeats 4000000 in
set_option maxRecDepth 100000 in
theorem w_pointing (l : Launch) (E : NE) (ad : Nat → Nat) (st : NW) (a0 : Int32) (h0 : ∃ fs, st 0 = some (.inr (4, fs))) (v0 : Int64) (P : Int32 → NW → Prop) (hM : nMi l yX4_pointing wsX4_pointing (nRm 2 42) E ad st [.ref (ad 0), .int a0] P) (h240 : ∀ r s9, P r s9 → s9 240 = some (outE E v0)) : nMx l yL_pointing wsL_pointing (nRx 9 145) E ad st [.ref (ad 0), .int a0, .ref (ad 240)] (fun k s1 => k = 0 ∧ ∃ r s9, P r s9 ∧ one 240 s9 s1 ∧ s1 240 = some (outE E r.toInt64)) := by
  refine nSh (cc := cL_pointing) (maxL := 4) (by decide) rfl (Nat.le_of_ble_eq_true rfl) ?_
  intro pg en s mi ar bw mth cd R Q A ls hx hb hml hown hts hRm hP hK hD hZ hA hl hNC htab hret
  subst hRm
  obtain ⟨fs0, h0⟩ := h0
  have hown : s.vm.findClass RL = some mi.cls := hown
  have hS : va_S A s.heap s.heap [] := va_S.rf
  have hl : lv_has ls 4 [(0, .ref (ad 0)), (1, .int a0), (2, .ref (ad 240))] := hl
  refine lv_aload_n hx hb dL_pointing_0 rfl (lv_at hl 2 rfl) ?_
  refine lv_iconst (v := 0) hx hb dL_pointing_1 (by decide) ?_
  refine lv_aload_n hx hb dL_pointing_2 rfl (lv_at hl 0 rfl) ?_
  refine lv_iload_n hx hb dL_pointing_3 rfl (lv_at hl 1 rfl) ?_
  refine nVi (As := [.int a0]) (rest := _) hx hb hml hown hts hP hK hD hZ hA hS ⟨(Nat.le_of_ble_eq_true rfl), (Nat.le_of_ble_eq_true rfl)⟩ h0 rfl hM (cwV 1 hts gL_pointing_X4_pointing rfl rfl rfl (by decide +kernel) ⟨(Nat.le_of_ble_eq_true rfl), (Nat.le_of_ble_eq_true rfl)⟩) hl.1 rfl (Nat.le_of_ble_eq_true rfl) dL_pointing_4 (fun r st1 H locs hq hP hD hS => ?_)
  refine lv_i2l (v := r.toInt64) hx hb dL_pointing_7 rfl ?_
  refine nLst hx hb hK hP hD hS (h240 _ _ hq) dL_pointing_8 (fun st2 H2 locs h2 h1 hP hD hS => ?_)
  refine lv_goto (tgt := 15) hx hb dL_pointing_9 (by decide) ?_
  refine lv_iconst (v := 0) hx hb dL_pointing_15 (by decide) ?_
  exact hret _ _ _ _ _ _ _ _ (Nat.zero_le _) (Nat.zero_le _) hP hD hS ⟨rfl, r, st1, hq, h1, h2⟩ dL_pointing_16

set_option maxHeartbeats 4000000 in
set_option maxRecDepth 100000 in
theorem w_pointing_1 (l : Launch) (E : NE) (ad : Nat → Nat) (st : NW) (a0 : Int32) (h0 : ∃ fs, st 0 = some (.inr (4, fs))) (P : NW → Prop) (hM : nX l yX4_pointing wsX4_pointing (nRx 8 124) E ad st [.ref (ad 0), .int a0] "java/lang/IllegalArgumentException" P) : nMx l yL_pointing wsL_pointing (nRx 9 145) E ad st [.ref (ad 0), .int a0, .ref (ad 240)] (fun k s1 => k = 1 ∧ P s1) := by
  refine nSh (cc := cL_pointing) (maxL := 4) (by decide) rfl (Nat.le_of_ble_eq_true rfl) ?_
  intro pg en s mi ar bw mth cd R Q A ls hx hb hml hown hts hRm hP hK hD hZ hA hl hNC htab hret
  subst hRm
  obtain ⟨fs0, h0⟩ := h0
  have hown : s.vm.findClass RL = some mi.cls := hown
  have hS : va_S A s.heap s.heap [] := va_S.rf
  have hl : lv_has ls 4 [(0, .ref (ad 0)), (1, .int a0), (2, .ref (ad 240))] := hl
  refine lv_aload_n hx hb dL_pointing_0 rfl (lv_at hl 2 rfl) ?_
  refine lv_iconst (v := 0) hx hb dL_pointing_1 (by decide) ?_
  refine lv_aload_n hx hb dL_pointing_2 rfl (lv_at hl 0 rfl) ?_
  refine lv_iload_n hx hb dL_pointing_3 rfl (lv_at hl 1 rfl) ?_
  refine nTV (As := [.int a0]) (rest := _) hx hb hml hown hts hP hK hD hZ hA hS ⟨(Nat.le_of_ble_eq_true rfl), (Nat.le_of_ble_eq_true rfl)⟩ h0 rfl hM (cwV 1 hts gL_pointing_X4_pointing rfl rfl rfl (by decide +kernel) ⟨(Nat.le_of_ble_eq_true rfl), (Nat.le_of_ble_eq_true rfl)⟩) hl.1 rfl (Nat.le_of_ble_eq_true rfl) dL_pointing_4 (fun q ce st1 H locs hq hP hD hS hc hv hcl => ?_)
  refine vx_catch (name := "java/lang/IllegalArgumentException") (E := "java/lang/IllegalArgumentException") hown [] ⟨0, 9, 12, 15⟩ [] (htab.trans rfl) (fun z hz => by cases hz) (by decide) (by decide) (hts (.classLink RL 15 "java/lang/IllegalArgumentException") (by decide +kernel)) (va_Nw.use rfl hZ.2.2.2.2.2.1.2.1) hc hv hcl ?_
  refine lv_astore_n (lv' := [(3, .ref q), (0, .ref (ad 0)), (1, .int a0), (2, .ref (ad 240))]) hx hb dL_pointing_12 rfl hl (by decide) rfl (fun ls hl => ?_)
  refine lv_iconst (v := 1) hx hb dL_pointing_13 (by decide) ?_
  exact hret _ _ _ _ _ _ _ _ (Nat.le_refl _) (Nat.le_refl _) hP hD hS ⟨rfl, hq⟩ dL_pointing_14

set_option maxHeartbeats 4000000 in
set_option maxRecDepth 100000 in
theorem w_setting (l : Launch) (E : NE) (ad : Nat → Nat) (st : NW) (a0 : Int32) (h0 : ∃ fs, st 0 = some (.inr (4, fs))) (v0 : Int64) (P : Int32 → NW → Prop) (hM : nMi l yX4_setting wsX4_setting (nRm 1 20) E ad st [.ref (ad 0), .int a0] P) (h240 : ∀ r s9, P r s9 → s9 240 = some (outE E v0)) : nMx l yL_setting wsL_setting (nRx 9 145) E ad st [.ref (ad 0), .int a0, .ref (ad 240)] (fun k s1 => k = 0 ∧ ∃ r s9, P r s9 ∧ one 240 s9 s1 ∧ s1 240 = some (outE E r.toInt64)) := by
  refine nSh (cc := cL_setting) (maxL := 4) (by decide) rfl (Nat.le_of_ble_eq_true rfl) ?_
  intro pg en s mi ar bw mth cd R Q A ls hx hb hml hown hts hRm hP hK hD hZ hA hl hNC htab hret
  subst hRm
  obtain ⟨fs0, h0⟩ := h0
  have hown : s.vm.findClass RL = some mi.cls := hown
  have hS : va_S A s.heap s.heap [] := va_S.rf
  have hl : lv_has ls 4 [(0, .ref (ad 0)), (1, .int a0), (2, .ref (ad 240))] := hl
  refine lv_aload_n hx hb dL_setting_0 rfl (lv_at hl 2 rfl) ?_
  refine lv_iconst (v := 0) hx hb dL_setting_1 (by decide) ?_
  refine lv_aload_n hx hb dL_setting_2 rfl (lv_at hl 0 rfl) ?_
  refine lv_iload_n hx hb dL_setting_3 rfl (lv_at hl 1 rfl) ?_
  refine nVi (As := [.int a0]) (rest := _) hx hb hml hown hts hP hK hD hZ hA hS ⟨(Nat.le_of_ble_eq_true rfl), (Nat.le_of_ble_eq_true rfl)⟩ h0 rfl hM (cwV 1 hts gL_setting_X4_setting rfl rfl rfl (by decide +kernel) ⟨(Nat.le_of_ble_eq_true rfl), (Nat.le_of_ble_eq_true rfl)⟩) hl.1 rfl (Nat.le_of_ble_eq_true rfl) dL_setting_4 (fun r st1 H locs hq hP hD hS => ?_)
  refine lv_i2l (v := r.toInt64) hx hb dL_setting_7 rfl ?_
  refine nLst hx hb hK hP hD hS (h240 _ _ hq) dL_setting_8 (fun st2 H2 locs h2 h1 hP hD hS => ?_)
  refine lv_goto (tgt := 15) hx hb dL_setting_9 (by decide) ?_
  refine lv_iconst (v := 0) hx hb dL_setting_15 (by decide) ?_
  exact hret _ _ _ _ _ _ _ _ (Nat.zero_le _) (Nat.zero_le _) hP hD hS ⟨rfl, r, st1, hq, h1, h2⟩ dL_setting_16

set_option maxHeartbeats 4000000 in
set_option maxRecDepth 100000 in
theorem w_setting_1 (l : Launch) (E : NE) (ad : Nat → Nat) (st : NW) (a0 : Int32) (h0 : ∃ fs, st 0 = some (.inr (4, fs))) (P : NW → Prop) (hM : nX l yX4_setting wsX4_setting (nRx 8 124) E ad st [.ref (ad 0), .int a0] "java/lang/IndexOutOfBoundsException" P) : nMx l yL_setting wsL_setting (nRx 9 145) E ad st [.ref (ad 0), .int a0, .ref (ad 240)] (fun k s1 => k = 1 ∧ P s1) := by
  refine nSh (cc := cL_setting) (maxL := 4) (by decide) rfl (Nat.le_of_ble_eq_true rfl) ?_
  intro pg en s mi ar bw mth cd R Q A ls hx hb hml hown hts hRm hP hK hD hZ hA hl hNC htab hret
  subst hRm
  obtain ⟨fs0, h0⟩ := h0
  have hown : s.vm.findClass RL = some mi.cls := hown
  have hS : va_S A s.heap s.heap [] := va_S.rf
  have hl : lv_has ls 4 [(0, .ref (ad 0)), (1, .int a0), (2, .ref (ad 240))] := hl
  refine lv_aload_n hx hb dL_setting_0 rfl (lv_at hl 2 rfl) ?_
  refine lv_iconst (v := 0) hx hb dL_setting_1 (by decide) ?_
  refine lv_aload_n hx hb dL_setting_2 rfl (lv_at hl 0 rfl) ?_
  refine lv_iload_n hx hb dL_setting_3 rfl (lv_at hl 1 rfl) ?_
  refine nTV (As := [.int a0]) (rest := _) hx hb hml hown hts hP hK hD hZ hA hS ⟨(Nat.le_of_ble_eq_true rfl), (Nat.le_of_ble_eq_true rfl)⟩ h0 rfl hM (cwV 1 hts gL_setting_X4_setting rfl rfl rfl (by decide +kernel) ⟨(Nat.le_of_ble_eq_true rfl), (Nat.le_of_ble_eq_true rfl)⟩) hl.1 rfl (Nat.le_of_ble_eq_true rfl) dL_setting_4 (fun q ce st1 H locs hq hP hD hS hc hv hcl => ?_)
  refine vx_catch (name := "java/lang/IndexOutOfBoundsException") (E := "java/lang/IndexOutOfBoundsException") hown [] ⟨0, 9, 12, 13⟩ [] (htab.trans rfl) (fun z hz => by cases hz) (by decide) (by decide) (hts (.classLink RL 13 "java/lang/IndexOutOfBoundsException") (by decide +kernel)) (va_Nw.use rfl hZ.2.2.2.2.2.1.1) hc hv hcl ?_
  refine lv_astore_n (lv' := [(3, .ref q), (0, .ref (ad 0)), (1, .int a0), (2, .ref (ad 240))]) hx hb dL_setting_12 rfl hl (by decide) rfl (fun ls hl => ?_)
  refine lv_iconst (v := 1) hx hb dL_setting_13 (by decide) ?_
  exact hret _ _ _ _ _ _ _ _ (Nat.le_refl _) (Nat.le_refl _) hP hD hS ⟨rfl, hq⟩ dL_setting_14

set_option maxHeartbeats 4000000 in
set_option maxRecDepth 100000 in
theorem w_points (l : Launch) (E : NE) (ad : Nat → Nat) (st : NW) (a0 : Int32) (a1 : Int32) (h0 : ∃ fs, st 0 = some (.inr (4, fs))) (v0 : Int64) (P : Int32 → NW → Prop) (hM : nMi l yX4_points wsX4_points (nRm 5 114) E ad st [.ref (ad 0), .int a0, .int a1] P) (h240 : ∀ r s9, P r s9 → s9 240 = some (outE E v0)) : nMx l yL_points wsL_points (nRx 9 146) E ad st [.ref (ad 0), .int a0, .int a1, .ref (ad 240)] (fun k s1 => k = 0 ∧ ∃ r s9, P r s9 ∧ one 240 s9 s1 ∧ s1 240 = some (outE E r.toInt64)) := by
  refine nSh (cc := cL_points) (maxL := 5) (by decide) rfl (Nat.le_of_ble_eq_true rfl) ?_
  intro pg en s mi ar bw mth cd R Q A ls hx hb hml hown hts hRm hP hK hD hZ hA hl hNC htab hret
  subst hRm
  obtain ⟨fs0, h0⟩ := h0
  have hown : s.vm.findClass RL = some mi.cls := hown
  have hS : va_S A s.heap s.heap [] := va_S.rf
  have hl : lv_has ls 5 [(0, .ref (ad 0)), (1, .int a0), (2, .int a1), (3, .ref (ad 240))] := hl
  refine lv_aload_n hx hb dL_points_0 rfl (lv_at hl 3 rfl) ?_
  refine lv_iconst (v := 0) hx hb dL_points_1 (by decide) ?_
  refine lv_aload_n hx hb dL_points_2 rfl (lv_at hl 0 rfl) ?_
  refine lv_iload_n hx hb dL_points_3 rfl (lv_at hl 1 rfl) ?_
  refine lv_iload_n hx hb dL_points_4 rfl (lv_at hl 2 rfl) ?_
  refine nVi (As := [.int a0, .int a1]) (rest := _) hx hb hml hown hts hP hK hD hZ hA hS ⟨(Nat.le_of_ble_eq_true rfl), (Nat.le_of_ble_eq_true rfl)⟩ h0 rfl hM (cwV 2 hts gL_points_X4_points rfl rfl rfl (by decide +kernel) ⟨(Nat.le_of_ble_eq_true rfl), (Nat.le_of_ble_eq_true rfl)⟩) hl.1 rfl (Nat.le_of_ble_eq_true rfl) dL_points_5 (fun r st1 H locs hq hP hD hS => ?_)
  refine lv_i2l (v := r.toInt64) hx hb dL_points_8 rfl ?_
  refine nLst hx hb hK hP hD hS (h240 _ _ hq) dL_points_9 (fun st2 H2 locs h2 h1 hP hD hS => ?_)
  refine lv_goto (tgt := 21) hx hb dL_points_10 (by decide) ?_
  refine lv_iconst (v := 0) hx hb dL_points_21 (by decide) ?_
  exact hret _ _ _ _ _ _ _ _ (Nat.zero_le _) (Nat.zero_le _) hP hD hS ⟨rfl, r, st1, hq, h1, h2⟩ dL_points_22

set_option maxHeartbeats 4000000 in
set_option maxRecDepth 100000 in
theorem w_points_1 (l : Launch) (E : NE) (ad : Nat → Nat) (st : NW) (a0 : Int32) (a1 : Int32) (h0 : ∃ fs, st 0 = some (.inr (4, fs))) (P : NW → Prop) (hM : nX l yX4_points wsX4_points (nRx 8 124) E ad st [.ref (ad 0), .int a0, .int a1] "java/lang/IndexOutOfBoundsException" P) : nMx l yL_points wsL_points (nRx 9 146) E ad st [.ref (ad 0), .int a0, .int a1, .ref (ad 240)] (fun k s1 => k = 1 ∧ P s1) := by
  refine nSh (cc := cL_points) (maxL := 5) (by decide) rfl (Nat.le_of_ble_eq_true rfl) ?_
  intro pg en s mi ar bw mth cd R Q A ls hx hb hml hown hts hRm hP hK hD hZ hA hl hNC htab hret
  subst hRm
  obtain ⟨fs0, h0⟩ := h0
  have hown : s.vm.findClass RL = some mi.cls := hown
  have hS : va_S A s.heap s.heap [] := va_S.rf
  have hl : lv_has ls 5 [(0, .ref (ad 0)), (1, .int a0), (2, .int a1), (3, .ref (ad 240))] := hl
  refine lv_aload_n hx hb dL_points_0 rfl (lv_at hl 3 rfl) ?_
  refine lv_iconst (v := 0) hx hb dL_points_1 (by decide) ?_
  refine lv_aload_n hx hb dL_points_2 rfl (lv_at hl 0 rfl) ?_
  refine lv_iload_n hx hb dL_points_3 rfl (lv_at hl 1 rfl) ?_
  refine lv_iload_n hx hb dL_points_4 rfl (lv_at hl 2 rfl) ?_
  refine nTV (As := [.int a0, .int a1]) (rest := _) hx hb hml hown hts hP hK hD hZ hA hS ⟨(Nat.le_of_ble_eq_true rfl), (Nat.le_of_ble_eq_true rfl)⟩ h0 rfl hM (cwV 2 hts gL_points_X4_points rfl rfl rfl (by decide +kernel) ⟨(Nat.le_of_ble_eq_true rfl), (Nat.le_of_ble_eq_true rfl)⟩) hl.1 rfl (Nat.le_of_ble_eq_true rfl) dL_points_5 (fun q ce st1 H locs hq hP hD hS hc hv hcl => ?_)
  refine vx_catch (name := "java/lang/IndexOutOfBoundsException") (E := "java/lang/IndexOutOfBoundsException") hown [] ⟨0, 10, 13, 13⟩ [⟨0, 10, 17, 15⟩] (htab.trans rfl) (fun z hz => by cases hz) (by decide) (by decide) (hts (.classLink RL 13 "java/lang/IndexOutOfBoundsException") (by decide +kernel)) (va_Nw.use rfl hZ.2.2.2.2.2.1.1) hc hv hcl ?_
  refine lv_astore (lv' := [(4, .ref q), (0, .ref (ad 0)), (1, .int a0), (2, .int a1), (3, .ref (ad 240))]) hx hb dL_points_13 hl (by decide) rfl (fun ls hl => ?_)
  refine lv_iconst (v := 1) hx hb dL_points_15 (by decide) ?_
  exact hret _ _ _ _ _ _ _ _ (Nat.le_refl _) (Nat.le_refl _) hP hD hS ⟨rfl, hq⟩ dL_points_16

set_option maxHeartbeats 4000000 in
set_option maxRecDepth 100000 in
theorem w_points_2 (l : Launch) (E : NE) (ad : Nat → Nat) (st : NW) (a0 : Int32) (a1 : Int32) (h0 : ∃ fs, st 0 = some (.inr (4, fs))) (P : NW → Prop) (hM : nX l yX4_points wsX4_points (nRx 8 124) E ad st [.ref (ad 0), .int a0, .int a1] "java/lang/IllegalArgumentException" P) : nMx l yL_points wsL_points (nRx 9 146) E ad st [.ref (ad 0), .int a0, .int a1, .ref (ad 240)] (fun k s1 => k = 2 ∧ P s1) := by
  refine nSh (cc := cL_points) (maxL := 5) (by decide) rfl (Nat.le_of_ble_eq_true rfl) ?_
  intro pg en s mi ar bw mth cd R Q A ls hx hb hml hown hts hRm hP hK hD hZ hA hl hNC htab hret
  subst hRm
  obtain ⟨fs0, h0⟩ := h0
  have hown : s.vm.findClass RL = some mi.cls := hown
  have hS : va_S A s.heap s.heap [] := va_S.rf
  have hl : lv_has ls 5 [(0, .ref (ad 0)), (1, .int a0), (2, .int a1), (3, .ref (ad 240))] := hl
  refine lv_aload_n hx hb dL_points_0 rfl (lv_at hl 3 rfl) ?_
  refine lv_iconst (v := 0) hx hb dL_points_1 (by decide) ?_
  refine lv_aload_n hx hb dL_points_2 rfl (lv_at hl 0 rfl) ?_
  refine lv_iload_n hx hb dL_points_3 rfl (lv_at hl 1 rfl) ?_
  refine lv_iload_n hx hb dL_points_4 rfl (lv_at hl 2 rfl) ?_
  refine nTV (As := [.int a0, .int a1]) (rest := _) hx hb hml hown hts hP hK hD hZ hA hS ⟨(Nat.le_of_ble_eq_true rfl), (Nat.le_of_ble_eq_true rfl)⟩ h0 rfl hM (cwV 2 hts gL_points_X4_points rfl rfl rfl (by decide +kernel) ⟨(Nat.le_of_ble_eq_true rfl), (Nat.le_of_ble_eq_true rfl)⟩) hl.1 rfl (Nat.le_of_ble_eq_true rfl) dL_points_5 (fun q ce st1 H locs hq hP hD hS hc hv hcl => ?_)
  refine vx_catch (name := "java/lang/IllegalArgumentException") (E := "java/lang/IllegalArgumentException") hown [⟨0, 10, 13, 13⟩] ⟨0, 10, 17, 15⟩ [] (htab.trans rfl) (fun z hz => by rw [List.mem_singleton.mp hz]; exact Or.inr ⟨by decide, "java/lang/IndexOutOfBoundsException", hts (.classLink RL 13 "java/lang/IndexOutOfBoundsException") (by decide +kernel), hNC.1⟩) (by decide) (by decide) (hts (.classLink RL 15 "java/lang/IllegalArgumentException") (by decide +kernel)) (va_Nw.use rfl hZ.2.2.2.2.2.1.2.1) hc hv hcl ?_
  refine lv_astore (lv' := [(4, .ref q), (0, .ref (ad 0)), (1, .int a0), (2, .int a1), (3, .ref (ad 240))]) hx hb dL_points_17 hl (by decide) rfl (fun ls hl => ?_)
  refine lv_iconst (v := 2) hx hb dL_points_19 (by decide) ?_
  exact hret _ _ _ _ _ _ _ _ (Nat.le_refl _) (Nat.le_refl _) hP hD hS ⟨rfl, hq⟩ dL_points_20

set_option maxHeartbeats 4000000 in
set_option maxRecDepth 100000 in
theorem w_ifBar (l : Launch) (E : NE) (ad : Nat → Nat) (st : NW) (a0 : Int32) (a1 : Int32) (a2 : Int32) (h0 : ∃ fs, st 0 = some (.inr (4, fs))) (v0 : Int64) (P : Int32 → NW → Prop) (hM : nMi l yX4_ifBar wsX4_ifBar (nRm 3 80) E ad st [.ref (ad 0), .int a0, .int a1, .int a2] P) (h240 : ∀ r s9, P r s9 → s9 240 = some (outE E v0)) : nMx l yL_ifBar wsL_ifBar (nRx 9 149) E ad st [.ref (ad 0), .int a0, .int a1, .int a2, .ref (ad 240)] (fun k s1 => k = 0 ∧ ∃ r s9, P r s9 ∧ one 240 s9 s1 ∧ s1 240 = some (outE E r.toInt64)) := by
  refine nSh (cc := cL_ifBar) (maxL := 6) (by decide) rfl (Nat.le_of_ble_eq_true rfl) ?_
  intro pg en s mi ar bw mth cd R Q A ls hx hb hml hown hts hRm hP hK hD hZ hA hl hNC htab hret
  subst hRm
  obtain ⟨fs0, h0⟩ := h0
  have hown : s.vm.findClass RL = some mi.cls := hown
  have hS : va_S A s.heap s.heap [] := va_S.rf
  have hl : lv_has ls 6 [(0, .ref (ad 0)), (1, .int a0), (2, .int a1), (3, .int a2), (4, .ref (ad 240))] := hl
  refine lv_aload hx hb dL_ifBar_0 (lv_at hl 4 rfl) ?_
  refine lv_iconst (v := 0) hx hb dL_ifBar_2 (by decide) ?_
  refine lv_aload_n hx hb dL_ifBar_3 rfl (lv_at hl 0 rfl) ?_
  refine lv_iload_n hx hb dL_ifBar_4 rfl (lv_at hl 1 rfl) ?_
  refine lv_iload_n hx hb dL_ifBar_5 rfl (lv_at hl 2 rfl) ?_
  refine lv_iload_n hx hb dL_ifBar_6 rfl (lv_at hl 3 rfl) ?_
  refine nVi (As := [.int a0, .int a1, .int a2]) (rest := _) hx hb hml hown hts hP hK hD hZ hA hS ⟨(Nat.le_of_ble_eq_true rfl), (Nat.le_of_ble_eq_true rfl)⟩ h0 rfl hM (cwV 3 hts gL_ifBar_X4_ifBar rfl rfl rfl (by decide +kernel) ⟨(Nat.le_of_ble_eq_true rfl), (Nat.le_of_ble_eq_true rfl)⟩) hl.1 rfl (Nat.le_of_ble_eq_true rfl) dL_ifBar_7 (fun r st1 H locs hq hP hD hS => ?_)
  refine lv_i2l (v := r.toInt64) hx hb dL_ifBar_10 rfl ?_
  refine nLst hx hb hK hP hD hS (h240 _ _ hq) dL_ifBar_11 (fun st2 H2 locs h2 h1 hP hD hS => ?_)
  refine lv_goto (tgt := 23) hx hb dL_ifBar_12 (by decide) ?_
  refine lv_iconst (v := 0) hx hb dL_ifBar_23 (by decide) ?_
  exact hret _ _ _ _ _ _ _ _ (Nat.zero_le _) (Nat.zero_le _) hP hD hS ⟨rfl, r, st1, hq, h1, h2⟩ dL_ifBar_24

set_option maxHeartbeats 4000000 in
set_option maxRecDepth 100000 in
theorem w_ifBar_1 (l : Launch) (E : NE) (ad : Nat → Nat) (st : NW) (a0 : Int32) (a1 : Int32) (a2 : Int32) (h0 : ∃ fs, st 0 = some (.inr (4, fs))) (P : NW → Prop) (hM : nX l yX4_ifBar wsX4_ifBar (nRx 8 124) E ad st [.ref (ad 0), .int a0, .int a1, .int a2] "java/lang/IndexOutOfBoundsException" P) : nMx l yL_ifBar wsL_ifBar (nRx 9 149) E ad st [.ref (ad 0), .int a0, .int a1, .int a2, .ref (ad 240)] (fun k s1 => k = 1 ∧ P s1) := by
  refine nSh (cc := cL_ifBar) (maxL := 6) (by decide) rfl (Nat.le_of_ble_eq_true rfl) ?_
  intro pg en s mi ar bw mth cd R Q A ls hx hb hml hown hts hRm hP hK hD hZ hA hl hNC htab hret
  subst hRm
  obtain ⟨fs0, h0⟩ := h0
  have hown : s.vm.findClass RL = some mi.cls := hown
  have hS : va_S A s.heap s.heap [] := va_S.rf
  have hl : lv_has ls 6 [(0, .ref (ad 0)), (1, .int a0), (2, .int a1), (3, .int a2), (4, .ref (ad 240))] := hl
  refine lv_aload hx hb dL_ifBar_0 (lv_at hl 4 rfl) ?_
  refine lv_iconst (v := 0) hx hb dL_ifBar_2 (by decide) ?_
  refine lv_aload_n hx hb dL_ifBar_3 rfl (lv_at hl 0 rfl) ?_
  refine lv_iload_n hx hb dL_ifBar_4 rfl (lv_at hl 1 rfl) ?_
  refine lv_iload_n hx hb dL_ifBar_5 rfl (lv_at hl 2 rfl) ?_
  refine lv_iload_n hx hb dL_ifBar_6 rfl (lv_at hl 3 rfl) ?_
  refine nTV (As := [.int a0, .int a1, .int a2]) (rest := _) hx hb hml hown hts hP hK hD hZ hA hS ⟨(Nat.le_of_ble_eq_true rfl), (Nat.le_of_ble_eq_true rfl)⟩ h0 rfl hM (cwV 3 hts gL_ifBar_X4_ifBar rfl rfl rfl (by decide +kernel) ⟨(Nat.le_of_ble_eq_true rfl), (Nat.le_of_ble_eq_true rfl)⟩) hl.1 rfl (Nat.le_of_ble_eq_true rfl) dL_ifBar_7 (fun q ce st1 H locs hq hP hD hS hc hv hcl => ?_)
  refine vx_catch (name := "java/lang/IndexOutOfBoundsException") (E := "java/lang/IndexOutOfBoundsException") hown [] ⟨0, 12, 15, 13⟩ [⟨0, 12, 19, 15⟩] (htab.trans rfl) (fun z hz => by cases hz) (by decide) (by decide) (hts (.classLink RL 13 "java/lang/IndexOutOfBoundsException") (by decide +kernel)) (va_Nw.use rfl hZ.2.2.2.2.2.1.1) hc hv hcl ?_
  refine lv_astore (lv' := [(5, .ref q), (0, .ref (ad 0)), (1, .int a0), (2, .int a1), (3, .int a2), (4, .ref (ad 240))]) hx hb dL_ifBar_15 hl (by decide) rfl (fun ls hl => ?_)
  refine lv_iconst (v := 1) hx hb dL_ifBar_17 (by decide) ?_
  exact hret _ _ _ _ _ _ _ _ (Nat.le_refl _) (Nat.le_refl _) hP hD hS ⟨rfl, hq⟩ dL_ifBar_18

set_option maxHeartbeats 4000000 in
set_option maxRecDepth 100000 in
theorem w_ifBar_2 (l : Launch) (E : NE) (ad : Nat → Nat) (st : NW) (a0 : Int32) (a1 : Int32) (a2 : Int32) (h0 : ∃ fs, st 0 = some (.inr (4, fs))) (P : NW → Prop) (hM : nX l yX4_ifBar wsX4_ifBar (nRx 8 124) E ad st [.ref (ad 0), .int a0, .int a1, .int a2] "java/lang/IllegalArgumentException" P) : nMx l yL_ifBar wsL_ifBar (nRx 9 149) E ad st [.ref (ad 0), .int a0, .int a1, .int a2, .ref (ad 240)] (fun k s1 => k = 2 ∧ P s1) := by
  refine nSh (cc := cL_ifBar) (maxL := 6) (by decide) rfl (Nat.le_of_ble_eq_true rfl) ?_
  intro pg en s mi ar bw mth cd R Q A ls hx hb hml hown hts hRm hP hK hD hZ hA hl hNC htab hret
  subst hRm
  obtain ⟨fs0, h0⟩ := h0
  have hown : s.vm.findClass RL = some mi.cls := hown
  have hS : va_S A s.heap s.heap [] := va_S.rf
  have hl : lv_has ls 6 [(0, .ref (ad 0)), (1, .int a0), (2, .int a1), (3, .int a2), (4, .ref (ad 240))] := hl
  refine lv_aload hx hb dL_ifBar_0 (lv_at hl 4 rfl) ?_
  refine lv_iconst (v := 0) hx hb dL_ifBar_2 (by decide) ?_
  refine lv_aload_n hx hb dL_ifBar_3 rfl (lv_at hl 0 rfl) ?_
  refine lv_iload_n hx hb dL_ifBar_4 rfl (lv_at hl 1 rfl) ?_
  refine lv_iload_n hx hb dL_ifBar_5 rfl (lv_at hl 2 rfl) ?_
  refine lv_iload_n hx hb dL_ifBar_6 rfl (lv_at hl 3 rfl) ?_
  refine nTV (As := [.int a0, .int a1, .int a2]) (rest := _) hx hb hml hown hts hP hK hD hZ hA hS ⟨(Nat.le_of_ble_eq_true rfl), (Nat.le_of_ble_eq_true rfl)⟩ h0 rfl hM (cwV 3 hts gL_ifBar_X4_ifBar rfl rfl rfl (by decide +kernel) ⟨(Nat.le_of_ble_eq_true rfl), (Nat.le_of_ble_eq_true rfl)⟩) hl.1 rfl (Nat.le_of_ble_eq_true rfl) dL_ifBar_7 (fun q ce st1 H locs hq hP hD hS hc hv hcl => ?_)
  refine vx_catch (name := "java/lang/IllegalArgumentException") (E := "java/lang/IllegalArgumentException") hown [⟨0, 12, 15, 13⟩] ⟨0, 12, 19, 15⟩ [] (htab.trans rfl) (fun z hz => by rw [List.mem_singleton.mp hz]; exact Or.inr ⟨by decide, "java/lang/IndexOutOfBoundsException", hts (.classLink RL 13 "java/lang/IndexOutOfBoundsException") (by decide +kernel), hNC.1⟩) (by decide) (by decide) (hts (.classLink RL 15 "java/lang/IllegalArgumentException") (by decide +kernel)) (va_Nw.use rfl hZ.2.2.2.2.2.1.2.1) hc hv hcl ?_
  refine lv_astore (lv' := [(5, .ref q), (0, .ref (ad 0)), (1, .int a0), (2, .int a1), (3, .int a2), (4, .ref (ad 240))]) hx hb dL_ifBar_19 hl (by decide) rfl (fun ls hl => ?_)
  refine lv_iconst (v := 2) hx hb dL_ifBar_21 (by decide) ?_
  exact hret _ _ _ _ _ _ _ _ (Nat.le_refl _) (Nat.le_refl _) hP hD hS ⟨rfl, hq⟩ dL_ifBar_22

set_option maxHeartbeats 4000000 in
set_option maxRecDepth 100000 in
theorem w_bestBar (l : Launch) (E : NE) (ad : Nat → Nat) (st : NW) (a0 : Int32) (a1 : Int32) (a2 : Int32) (h0 : ∃ fs, st 0 = some (.inr (4, fs))) (v0 : Int64) (P : Int32 → NW → Prop) (hM : nMi l yX4_bestBar wsX4_bestBar (nRm 3 80) E ad st [.ref (ad 0), .int a0, .int a1, .int a2] P) (h240 : ∀ r s9, P r s9 → s9 240 = some (outE E v0)) : nMx l yL_bestBar wsL_bestBar (nRx 9 149) E ad st [.ref (ad 0), .int a0, .int a1, .int a2, .ref (ad 240)] (fun k s1 => k = 0 ∧ ∃ r s9, P r s9 ∧ one 240 s9 s1 ∧ s1 240 = some (outE E r.toInt64)) := by
  refine nSh (cc := cL_bestBar) (maxL := 6) (by decide) rfl (Nat.le_of_ble_eq_true rfl) ?_
  intro pg en s mi ar bw mth cd R Q A ls hx hb hml hown hts hRm hP hK hD hZ hA hl hNC htab hret
  subst hRm
  obtain ⟨fs0, h0⟩ := h0
  have hown : s.vm.findClass RL = some mi.cls := hown
  have hS : va_S A s.heap s.heap [] := va_S.rf
  have hl : lv_has ls 6 [(0, .ref (ad 0)), (1, .int a0), (2, .int a1), (3, .int a2), (4, .ref (ad 240))] := hl
  refine lv_aload hx hb dL_bestBar_0 (lv_at hl 4 rfl) ?_
  refine lv_iconst (v := 0) hx hb dL_bestBar_2 (by decide) ?_
  refine lv_aload_n hx hb dL_bestBar_3 rfl (lv_at hl 0 rfl) ?_
  refine lv_iload_n hx hb dL_bestBar_4 rfl (lv_at hl 1 rfl) ?_
  refine lv_iload_n hx hb dL_bestBar_5 rfl (lv_at hl 2 rfl) ?_
  refine lv_iload_n hx hb dL_bestBar_6 rfl (lv_at hl 3 rfl) ?_
  refine nVi (As := [.int a0, .int a1, .int a2]) (rest := _) hx hb hml hown hts hP hK hD hZ hA hS ⟨(Nat.le_of_ble_eq_true rfl), (Nat.le_of_ble_eq_true rfl)⟩ h0 rfl hM (cwV 3 hts gL_bestBar_X4_bestBar rfl rfl rfl (by decide +kernel) ⟨(Nat.le_of_ble_eq_true rfl), (Nat.le_of_ble_eq_true rfl)⟩) hl.1 rfl (Nat.le_of_ble_eq_true rfl) dL_bestBar_7 (fun r st1 H locs hq hP hD hS => ?_)
  refine lv_i2l (v := r.toInt64) hx hb dL_bestBar_10 rfl ?_
  refine nLst hx hb hK hP hD hS (h240 _ _ hq) dL_bestBar_11 (fun st2 H2 locs h2 h1 hP hD hS => ?_)
  refine lv_goto (tgt := 23) hx hb dL_bestBar_12 (by decide) ?_
  refine lv_iconst (v := 0) hx hb dL_bestBar_23 (by decide) ?_
  exact hret _ _ _ _ _ _ _ _ (Nat.zero_le _) (Nat.zero_le _) hP hD hS ⟨rfl, r, st1, hq, h1, h2⟩ dL_bestBar_24

set_option maxHeartbeats 4000000 in
set_option maxRecDepth 100000 in
theorem w_bestBar_1 (l : Launch) (E : NE) (ad : Nat → Nat) (st : NW) (a0 : Int32) (a1 : Int32) (a2 : Int32) (h0 : ∃ fs, st 0 = some (.inr (4, fs))) (P : NW → Prop) (hM : nX l yX4_bestBar wsX4_bestBar (nRx 8 124) E ad st [.ref (ad 0), .int a0, .int a1, .int a2] "java/lang/IndexOutOfBoundsException" P) : nMx l yL_bestBar wsL_bestBar (nRx 9 149) E ad st [.ref (ad 0), .int a0, .int a1, .int a2, .ref (ad 240)] (fun k s1 => k = 1 ∧ P s1) := by
  refine nSh (cc := cL_bestBar) (maxL := 6) (by decide) rfl (Nat.le_of_ble_eq_true rfl) ?_
  intro pg en s mi ar bw mth cd R Q A ls hx hb hml hown hts hRm hP hK hD hZ hA hl hNC htab hret
  subst hRm
  obtain ⟨fs0, h0⟩ := h0
  have hown : s.vm.findClass RL = some mi.cls := hown
  have hS : va_S A s.heap s.heap [] := va_S.rf
  have hl : lv_has ls 6 [(0, .ref (ad 0)), (1, .int a0), (2, .int a1), (3, .int a2), (4, .ref (ad 240))] := hl
  refine lv_aload hx hb dL_bestBar_0 (lv_at hl 4 rfl) ?_
  refine lv_iconst (v := 0) hx hb dL_bestBar_2 (by decide) ?_
  refine lv_aload_n hx hb dL_bestBar_3 rfl (lv_at hl 0 rfl) ?_
  refine lv_iload_n hx hb dL_bestBar_4 rfl (lv_at hl 1 rfl) ?_
  refine lv_iload_n hx hb dL_bestBar_5 rfl (lv_at hl 2 rfl) ?_
  refine lv_iload_n hx hb dL_bestBar_6 rfl (lv_at hl 3 rfl) ?_
  refine nTV (As := [.int a0, .int a1, .int a2]) (rest := _) hx hb hml hown hts hP hK hD hZ hA hS ⟨(Nat.le_of_ble_eq_true rfl), (Nat.le_of_ble_eq_true rfl)⟩ h0 rfl hM (cwV 3 hts gL_bestBar_X4_bestBar rfl rfl rfl (by decide +kernel) ⟨(Nat.le_of_ble_eq_true rfl), (Nat.le_of_ble_eq_true rfl)⟩) hl.1 rfl (Nat.le_of_ble_eq_true rfl) dL_bestBar_7 (fun q ce st1 H locs hq hP hD hS hc hv hcl => ?_)
  refine vx_catch (name := "java/lang/IndexOutOfBoundsException") (E := "java/lang/IndexOutOfBoundsException") hown [] ⟨0, 12, 15, 13⟩ [⟨0, 12, 19, 15⟩] (htab.trans rfl) (fun z hz => by cases hz) (by decide) (by decide) (hts (.classLink RL 13 "java/lang/IndexOutOfBoundsException") (by decide +kernel)) (va_Nw.use rfl hZ.2.2.2.2.2.1.1) hc hv hcl ?_
  refine lv_astore (lv' := [(5, .ref q), (0, .ref (ad 0)), (1, .int a0), (2, .int a1), (3, .int a2), (4, .ref (ad 240))]) hx hb dL_bestBar_15 hl (by decide) rfl (fun ls hl => ?_)
  refine lv_iconst (v := 1) hx hb dL_bestBar_17 (by decide) ?_
  exact hret _ _ _ _ _ _ _ _ (Nat.le_refl _) (Nat.le_refl _) hP hD hS ⟨rfl, hq⟩ dL_bestBar_18

set_option maxHeartbeats 4000000 in
set_option maxRecDepth 100000 in
theorem w_bestBar_2 (l : Launch) (E : NE) (ad : Nat → Nat) (st : NW) (a0 : Int32) (a1 : Int32) (a2 : Int32) (h0 : ∃ fs, st 0 = some (.inr (4, fs))) (P : NW → Prop) (hM : nX l yX4_bestBar wsX4_bestBar (nRx 8 124) E ad st [.ref (ad 0), .int a0, .int a1, .int a2] "java/lang/IllegalArgumentException" P) : nMx l yL_bestBar wsL_bestBar (nRx 9 149) E ad st [.ref (ad 0), .int a0, .int a1, .int a2, .ref (ad 240)] (fun k s1 => k = 2 ∧ P s1) := by
  refine nSh (cc := cL_bestBar) (maxL := 6) (by decide) rfl (Nat.le_of_ble_eq_true rfl) ?_
  intro pg en s mi ar bw mth cd R Q A ls hx hb hml hown hts hRm hP hK hD hZ hA hl hNC htab hret
  subst hRm
  obtain ⟨fs0, h0⟩ := h0
  have hown : s.vm.findClass RL = some mi.cls := hown
  have hS : va_S A s.heap s.heap [] := va_S.rf
  have hl : lv_has ls 6 [(0, .ref (ad 0)), (1, .int a0), (2, .int a1), (3, .int a2), (4, .ref (ad 240))] := hl
  refine lv_aload hx hb dL_bestBar_0 (lv_at hl 4 rfl) ?_
  refine lv_iconst (v := 0) hx hb dL_bestBar_2 (by decide) ?_
  refine lv_aload_n hx hb dL_bestBar_3 rfl (lv_at hl 0 rfl) ?_
  refine lv_iload_n hx hb dL_bestBar_4 rfl (lv_at hl 1 rfl) ?_
  refine lv_iload_n hx hb dL_bestBar_5 rfl (lv_at hl 2 rfl) ?_
  refine lv_iload_n hx hb dL_bestBar_6 rfl (lv_at hl 3 rfl) ?_
  refine nTV (As := [.int a0, .int a1, .int a2]) (rest := _) hx hb hml hown hts hP hK hD hZ hA hS ⟨(Nat.le_of_ble_eq_true rfl), (Nat.le_of_ble_eq_true rfl)⟩ h0 rfl hM (cwV 3 hts gL_bestBar_X4_bestBar rfl rfl rfl (by decide +kernel) ⟨(Nat.le_of_ble_eq_true rfl), (Nat.le_of_ble_eq_true rfl)⟩) hl.1 rfl (Nat.le_of_ble_eq_true rfl) dL_bestBar_7 (fun q ce st1 H locs hq hP hD hS hc hv hcl => ?_)
  refine vx_catch (name := "java/lang/IllegalArgumentException") (E := "java/lang/IllegalArgumentException") hown [⟨0, 12, 15, 13⟩] ⟨0, 12, 19, 15⟩ [] (htab.trans rfl) (fun z hz => by rw [List.mem_singleton.mp hz]; exact Or.inr ⟨by decide, "java/lang/IndexOutOfBoundsException", hts (.classLink RL 13 "java/lang/IndexOutOfBoundsException") (by decide +kernel), hNC.1⟩) (by decide) (by decide) (hts (.classLink RL 15 "java/lang/IllegalArgumentException") (by decide +kernel)) (va_Nw.use rfl hZ.2.2.2.2.2.1.2.1) hc hv hcl ?_
  refine lv_astore (lv' := [(5, .ref q), (0, .ref (ad 0)), (1, .int a0), (2, .int a1), (3, .int a2), (4, .ref (ad 240))]) hx hb dL_bestBar_19 hl (by decide) rfl (fun ls hl => ?_)
  refine lv_iconst (v := 2) hx hb dL_bestBar_21 (by decide) ?_
  exact hret _ _ _ _ _ _ _ _ (Nat.le_refl _) (Nat.le_refl _) hP hD hS ⟨rfl, hq⟩ dL_bestBar_22

set_option maxHeartbeats 4000000 in
set_option maxRecDepth 100000 in
theorem w_leastTurns (l : Launch) (E : NE) (ad : Nat → Nat) (st : NW) (a0 : Int32) (h0 : ∃ fs, st 0 = some (.inr (4, fs))) (v0 : Int64) (P : Int32 → NW → Prop) (hM : nMi l yX4_leastTurns wsX4_leastTurns (nRm 2 48) E ad st [.ref (ad 0), .int a0] P) (h240 : ∀ r s9, P r s9 → s9 240 = some (outE E v0)) : nMx l yL_leastTurns wsL_leastTurns (nRx 9 146) E ad st [.ref (ad 0), .int a0, .ref (ad 240)] (fun k s1 => k = 0 ∧ ∃ r s9, P r s9 ∧ one 240 s9 s1 ∧ s1 240 = some (outE E r.toInt64)) := by
  refine nSh (cc := cL_leastTurns) (maxL := 4) (by decide) rfl (Nat.le_of_ble_eq_true rfl) ?_
  intro pg en s mi ar bw mth cd R Q A ls hx hb hml hown hts hRm hP hK hD hZ hA hl hNC htab hret
  subst hRm
  obtain ⟨fs0, h0⟩ := h0
  have hown : s.vm.findClass RL = some mi.cls := hown
  have hS : va_S A s.heap s.heap [] := va_S.rf
  have hl : lv_has ls 4 [(0, .ref (ad 0)), (1, .int a0), (2, .ref (ad 240))] := hl
  refine lv_aload_n hx hb dL_leastTurns_0 rfl (lv_at hl 2 rfl) ?_
  refine lv_iconst (v := 0) hx hb dL_leastTurns_1 (by decide) ?_
  refine lv_aload_n hx hb dL_leastTurns_2 rfl (lv_at hl 0 rfl) ?_
  refine lv_iload_n hx hb dL_leastTurns_3 rfl (lv_at hl 1 rfl) ?_
  refine nVi (As := [.int a0]) (rest := _) hx hb hml hown hts hP hK hD hZ hA hS ⟨(Nat.le_of_ble_eq_true rfl), (Nat.le_of_ble_eq_true rfl)⟩ h0 rfl hM (cwV 1 hts gL_leastTurns_X4_leastTurns rfl rfl rfl (by decide +kernel) ⟨(Nat.le_of_ble_eq_true rfl), (Nat.le_of_ble_eq_true rfl)⟩) hl.1 rfl (Nat.le_of_ble_eq_true rfl) dL_leastTurns_4 (fun r st1 H locs hq hP hD hS => ?_)
  refine lv_i2l (v := r.toInt64) hx hb dL_leastTurns_7 rfl ?_
  refine nLst hx hb hK hP hD hS (h240 _ _ hq) dL_leastTurns_8 (fun st2 H2 locs h2 h1 hP hD hS => ?_)
  refine lv_goto (tgt := 15) hx hb dL_leastTurns_9 (by decide) ?_
  refine lv_iconst (v := 0) hx hb dL_leastTurns_15 (by decide) ?_
  exact hret _ _ _ _ _ _ _ _ (Nat.zero_le _) (Nat.zero_le _) hP hD hS ⟨rfl, r, st1, hq, h1, h2⟩ dL_leastTurns_16

set_option maxHeartbeats 4000000 in
set_option maxRecDepth 100000 in
theorem w_leastTurns_1 (l : Launch) (E : NE) (ad : Nat → Nat) (st : NW) (a0 : Int32) (h0 : ∃ fs, st 0 = some (.inr (4, fs))) (P : NW → Prop) (hM : nX l yX4_leastTurns wsX4_leastTurns (nRx 8 124) E ad st [.ref (ad 0), .int a0] "java/lang/IndexOutOfBoundsException" P) : nMx l yL_leastTurns wsL_leastTurns (nRx 9 146) E ad st [.ref (ad 0), .int a0, .ref (ad 240)] (fun k s1 => k = 1 ∧ P s1) := by
  refine nSh (cc := cL_leastTurns) (maxL := 4) (by decide) rfl (Nat.le_of_ble_eq_true rfl) ?_
  intro pg en s mi ar bw mth cd R Q A ls hx hb hml hown hts hRm hP hK hD hZ hA hl hNC htab hret
  subst hRm
  obtain ⟨fs0, h0⟩ := h0
  have hown : s.vm.findClass RL = some mi.cls := hown
  have hS : va_S A s.heap s.heap [] := va_S.rf
  have hl : lv_has ls 4 [(0, .ref (ad 0)), (1, .int a0), (2, .ref (ad 240))] := hl
  refine lv_aload_n hx hb dL_leastTurns_0 rfl (lv_at hl 2 rfl) ?_
  refine lv_iconst (v := 0) hx hb dL_leastTurns_1 (by decide) ?_
  refine lv_aload_n hx hb dL_leastTurns_2 rfl (lv_at hl 0 rfl) ?_
  refine lv_iload_n hx hb dL_leastTurns_3 rfl (lv_at hl 1 rfl) ?_
  refine nTV (As := [.int a0]) (rest := _) hx hb hml hown hts hP hK hD hZ hA hS ⟨(Nat.le_of_ble_eq_true rfl), (Nat.le_of_ble_eq_true rfl)⟩ h0 rfl hM (cwV 1 hts gL_leastTurns_X4_leastTurns rfl rfl rfl (by decide +kernel) ⟨(Nat.le_of_ble_eq_true rfl), (Nat.le_of_ble_eq_true rfl)⟩) hl.1 rfl (Nat.le_of_ble_eq_true rfl) dL_leastTurns_4 (fun q ce st1 H locs hq hP hD hS hc hv hcl => ?_)
  refine vx_catch (name := "java/lang/IndexOutOfBoundsException") (E := "java/lang/IndexOutOfBoundsException") hown [] ⟨0, 9, 12, 13⟩ [] (htab.trans rfl) (fun z hz => by cases hz) (by decide) (by decide) (hts (.classLink RL 13 "java/lang/IndexOutOfBoundsException") (by decide +kernel)) (va_Nw.use rfl hZ.2.2.2.2.2.1.1) hc hv hcl ?_
  refine lv_astore_n (lv' := [(3, .ref q), (0, .ref (ad 0)), (1, .int a0), (2, .ref (ad 240))]) hx hb dL_leastTurns_12 rfl hl (by decide) rfl (fun ls hl => ?_)
  refine lv_iconst (v := 1) hx hb dL_leastTurns_13 (by decide) ?_
  exact hret _ _ _ _ _ _ _ _ (Nat.le_refl _) (Nat.le_refl _) hP hD hS ⟨rfl, hq⟩ dL_leastTurns_14

set_option maxHeartbeats 4000000 in
set_option maxRecDepth 100000 in
theorem m_in (l : Launch) (E : NE) (ad : Nat → Nat) (st : NW) (v a b : Int32) : nMi l yX5_in wsX5_in (nRm 0 0) E ad st [.int v, .int a, .int b] (fun r s1 => r = inI v a b ∧ st = s1) := by
  refine nSz (cc := cX5_in) (maxL := 3) (by decide) rfl (Nat.le_of_ble_eq_true rfl) ?_
  intro pg en s mi ar bw mth cd R Q A ls hx hb hml hown hts hRm hP hK hD hZ hA hl hret
  subst hRm
  have hown : s.vm.findClass RX5 = some mi.cls := hown
  have hS : va_S A s.heap s.heap [] := va_S.rf
  have hl : lv_has ls 3 [(0, .int v), (1, .int a), (2, .int b)] := hl
  refine lv_iload_n hx hb dX5_in_0 rfl (lv_at hl 0 rfl) ?_
  refine lv_iload_n hx hb dX5_in_1 rfl (lv_at hl 1 rfl) ?_
  refine lv_icmp_lt (tgt := 14) hx hb dX5_in_2 (by decide) (fun c2_0 => ?_) (fun c2_0 => ?_)
  · refine lv_iconst (v := 0) hx hb dX5_in_14 (by decide) ?_
    exact hret _ _ _ _ _ _ hP hD hS (⟨by delta inI; simp only [if_pos c2_0], rfl⟩) (by first | exact Or.inl rfl | exact Or.inr rfl | assumption) dX5_in_15
  · refine lv_iload_n hx hb dX5_in_5 rfl (lv_at hl 0 rfl) ?_
    refine lv_iload_n hx hb dX5_in_6 rfl (lv_at hl 2 rfl) ?_
    refine lv_icmp_gt (tgt := 14) hx hb dX5_in_7 (by decide) (fun c7_1 => ?_) (fun c7_1 => ?_)
    · refine lv_iconst (v := 0) hx hb dX5_in_14 (by decide) ?_
      exact hret _ _ _ _ _ _ hP hD hS (⟨by delta inI; simp only [if_neg c2_0, if_pos c7_1], rfl⟩) (by first | exact Or.inl rfl | exact Or.inr rfl | assumption) dX5_in_15
    · refine lv_iconst (v := 1) hx hb dX5_in_10 (by decide) ?_
      refine lv_goto (tgt := 15) hx hb dX5_in_11 (by decide) ?_
      exact hret _ _ _ _ _ _ hP hD hS (⟨by delta inI; simp only [if_neg c2_0, if_neg c7_1], rfl⟩) (by first | exact Or.inl rfl | exact Or.inr rfl | assumption) dX5_in_15

set_option maxHeartbeats 4000000 in
set_option maxRecDepth 100000 in
theorem m_isCell (l : Launch) (E : NE) (ad : Nat → Nat) (st : NW) (v : Int32) : nMi l yX5_isCell wsX5_isCell (nRm 1 22) E ad st [.int v] (fun r s1 => r = inI v 0 35 ∧ st = s1) := by
  refine nSz (cc := cX5_isCell) (maxL := 1) (by decide) rfl (Nat.le_of_ble_eq_true rfl) ?_
  intro pg en s mi ar bw mth cd R Q A ls hx hb hml hown hts hRm hP hK hD hZ hA hl hret
  subst hRm
  have hown : s.vm.findClass RX5 = some mi.cls := hown
  have hS : va_S A s.heap s.heap [] := va_S.rf
  have hl : lv_has ls 1 [(0, .int v)] := hl
  refine lv_iload_n hx hb dX5_isCell_0 rfl (lv_at hl 0 rfl) ?_
  refine lv_iconst (v := 0) hx hb dX5_isCell_1 (by decide) ?_
  refine lv_bipush (v := 35) hx hb dX5_isCell_2 (by decide) ?_
  refine nS_i (As := [.int v, .int 0, .int 35]) (rest := _) hx hb hml hown hts hP hK hD hZ hA hS ⟨Nat.zero_le _, Nat.zero_le _⟩ (m_in l E ad st v 0 35) (va_cwS 3 hts gX5_isCell_X5_in rfl rfl rfl (by decide +kernel) ⟨Nat.le_of_ble_eq_true rfl, Nat.le_of_ble_eq_true rfl⟩) hl.1 rfl (Nat.le_of_ble_eq_true rfl) dX5_isCell_4 (fun r_1 s_2 H locs hq hP hD hS => ?_)
  obtain ⟨rfl, rfl⟩ := hq
  exact hret _ _ _ _ _ _ hP hD hS (⟨rfl, rfl⟩) (inI_01 _ _ _) dX5_isCell_7

set_option maxHeartbeats 4000000 in
set_option maxRecDepth 100000 in
theorem m_isDirection (l : Launch) (E : NE) (ad : Nat → Nat) (st : NW) (v : Int32) : nMi l yX5_isDirection wsX5_isDirection (nRm 1 22) E ad st [.int v] (fun r s1 => r = inI v 0 7 ∧ st = s1) := by
  refine nSz (cc := cX5_isDirection) (maxL := 1) (by decide) rfl (Nat.le_of_ble_eq_true rfl) ?_
  intro pg en s mi ar bw mth cd R Q A ls hx hb hml hown hts hRm hP hK hD hZ hA hl hret
  subst hRm
  have hown : s.vm.findClass RX5 = some mi.cls := hown
  have hS : va_S A s.heap s.heap [] := va_S.rf
  have hl : lv_has ls 1 [(0, .int v)] := hl
  refine lv_iload_n hx hb dX5_isDirection_0 rfl (lv_at hl 0 rfl) ?_
  refine lv_iconst (v := 0) hx hb dX5_isDirection_1 (by decide) ?_
  refine lv_bipush (v := 7) hx hb dX5_isDirection_2 (by decide) ?_
  refine nS_i (As := [.int v, .int 0, .int 7]) (rest := _) hx hb hml hown hts hP hK hD hZ hA hS ⟨Nat.zero_le _, Nat.zero_le _⟩ (m_in l E ad st v 0 7) (va_cwS 3 hts gX5_isDirection_X5_in rfl rfl rfl (by decide +kernel) ⟨Nat.le_of_ble_eq_true rfl, Nat.le_of_ble_eq_true rfl⟩) hl.1 rfl (Nat.le_of_ble_eq_true rfl) dX5_isDirection_4 (fun r_1 s_2 H locs hq hP hD hS => ?_)
  obtain ⟨rfl, rfl⟩ := hq
  exact hret _ _ _ _ _ _ hP hD hS (⟨rfl, rfl⟩) (inI_01 _ _ _) dX5_isDirection_7

set_option maxHeartbeats 4000000 in
set_option maxRecDepth 100000 in
theorem m_size (l : Launch) (E : NE) (ad : Nat → Nat) (st : NW) (v : Int32) : nMi l yX5_size wsX5_size (nRm 0 0) E ad st [.int v] (fun r s1 => r = ab v ∧ st = s1) := by
  refine nSi (cc := cX5_size) (maxL := 1) (by decide) rfl (Nat.le_of_ble_eq_true rfl) ?_
  intro pg en s mi ar bw mth cd R Q A ls hx hb hml hown hts hRm hP hK hD hZ hA hl hret
  subst hRm
  have hown : s.vm.findClass RX5 = some mi.cls := hown
  have hS : va_S A s.heap s.heap [] := va_S.rf
  have hl : lv_has ls 1 [(0, .int v)] := hl
  refine lv_iload_n hx hb dX5_size_0 rfl (lv_at hl 0 rfl) ?_
  refine lv_if_ge (tgt := 9) hx hb dX5_size_1 (by decide) (fun c1_0 => ?_) (fun c1_0 => ?_)
  · refine lv_iload_n hx hb dX5_size_9 rfl (lv_at hl 0 rfl) ?_
    exact hret _ _ _ _ _ _ hP hD hS (⟨by exact (ab_ge c1_0).symm, rfl⟩) dX5_size_10
  · refine lv_iload_n hx hb dX5_size_4 rfl (lv_at hl 0 rfl) ?_
    refine lv_ineg hx hb dX5_size_5 ?_
    refine lv_goto (tgt := 10) hx hb dX5_size_6 (by decide) ?_
    exact hret _ _ _ _ _ _ hP hD hS (⟨by exact (ab_nge c1_0).symm, rfl⟩) dX5_size_10

set_option maxHeartbeats 4000000 in
set_option maxRecDepth 100000 in
theorem m_xOf (l : Launch) (E : NE) (ad : Nat → Nat) (st : NW) (d : Int32) : nMi l yX5_xOf wsX5_xOf (nRm 1 22) E ad st [.int d] (fun r s1 => r = xO d ∧ st = s1) := by
  refine nSi (cc := cX5_xOf) (maxL := 1) (by decide) rfl (Nat.le_of_ble_eq_true rfl) ?_
  intro pg en s mi ar bw mth cd R Q A ls hx hb hml hown hts hRm hP hK hD hZ hA hl hret
  subst hRm
  have hown : s.vm.findClass RX5 = some mi.cls := hown
  have hS : va_S A s.heap s.heap [] := va_S.rf
  have hl : lv_has ls 1 [(0, .int d)] := hl
  refine lv_iload_n hx hb dX5_xOf_0 rfl (lv_at hl 0 rfl) ?_
  refine lv_iconst (v := 2) hx hb dX5_xOf_1 (by decide) ?_
  refine lv_icmp_eq (tgt := 11) hx hb dX5_xOf_2 (by decide) (fun c2_0 => ?_) (fun c2_0 => ?_)
  · refine lv_iconst (v := 0) hx hb dX5_xOf_11 (by decide) ?_
    refine lv_goto (tgt := 29) hx hb dX5_xOf_12 (by decide) ?_
    exact hret _ _ _ _ _ _ hP hD hS (⟨by delta xO; simp only [if_pos c2_0], rfl⟩) dX5_xOf_29
  · refine lv_iload_n hx hb dX5_xOf_5 rfl (lv_at hl 0 rfl) ?_
    refine lv_bipush (v := 6) hx hb dX5_xOf_6 (by decide) ?_
    refine lv_icmp_ne (tgt := 15) hx hb dX5_xOf_8 (by decide) (fun c8_1 => ?_) (fun c8_1 => ?_)
    · refine lv_iload_n hx hb dX5_xOf_15 rfl (lv_at hl 0 rfl) ?_
      refine lv_iconst (v := 3) hx hb dX5_xOf_16 (by decide) ?_
      refine lv_iconst (v := 5) hx hb dX5_xOf_17 (by decide) ?_
      refine nS_i (As := [.int d, .int 3, .int 5]) (rest := _) hx hb hml hown hts hP hK hD hZ hA hS ⟨Nat.zero_le _, Nat.zero_le _⟩ (m_in l E ad st d 3 5) (va_cwS 3 hts gX5_xOf_X5_in rfl rfl rfl (by decide +kernel) ⟨Nat.le_of_ble_eq_true rfl, Nat.le_of_ble_eq_true rfl⟩) hl.1 rfl (Nat.le_of_ble_eq_true rfl) dX5_xOf_18 (fun r_3 s_4 H locs hq hP hD hS => ?_)
      obtain ⟨rfl, rfl⟩ := hq
      refine lv_if_eq (tgt := 28) hx hb dX5_xOf_21 (by decide) (fun c21_4 => ?_) (fun c21_4 => ?_)
      · have c21_4 : (inI d 3 5) = 0 := c21_4
        refine lv_iconst (v := 1) hx hb dX5_xOf_28 (by decide) ?_
        exact hret _ _ _ _ _ _ hP hD hS (⟨by delta xO; simp only [if_neg c2_0, if_neg c8_1, if_pos c21_4], rfl⟩) dX5_xOf_29
      · have c21_4 : ¬ (inI d 3 5) = 0 := c21_4
        refine lv_iconst (v := -1) hx hb dX5_xOf_24 (by decide) ?_
        refine lv_goto (tgt := 29) hx hb dX5_xOf_25 (by decide) ?_
        exact hret _ _ _ _ _ _ hP hD hS (⟨by delta xO; simp only [if_neg c2_0, if_neg c8_1, if_neg c21_4], rfl⟩) dX5_xOf_29
    · refine lv_iconst (v := 0) hx hb dX5_xOf_11 (by decide) ?_
      refine lv_goto (tgt := 29) hx hb dX5_xOf_12 (by decide) ?_
      exact hret _ _ _ _ _ _ hP hD hS (⟨by delta xO; simp only [if_neg c2_0, if_pos c8_1], rfl⟩) dX5_xOf_29

set_option maxHeartbeats 4000000 in
set_option maxRecDepth 100000 in
theorem m_yOf (l : Launch) (E : NE) (ad : Nat → Nat) (st : NW) (d : Int32) : nMi l yX5_yOf wsX5_yOf (nRm 1 22) E ad st [.int d] (fun r s1 => r = yO d ∧ st = s1) := by
  refine nSi (cc := cX5_yOf) (maxL := 1) (by decide) rfl (Nat.le_of_ble_eq_true rfl) ?_
  intro pg en s mi ar bw mth cd R Q A ls hx hb hml hown hts hRm hP hK hD hZ hA hl hret
  subst hRm
  have hown : s.vm.findClass RX5 = some mi.cls := hown
  have hS : va_S A s.heap s.heap [] := va_S.rf
  have hl : lv_has ls 1 [(0, .int d)] := hl
  refine lv_iload_n hx hb dX5_yOf_0 rfl (lv_at hl 0 rfl) ?_
  refine lv_if_eq (tgt := 9) hx hb dX5_yOf_1 (by decide) (fun c1_0 => ?_) (fun c1_0 => ?_)
  · refine lv_iconst (v := 0) hx hb dX5_yOf_9 (by decide) ?_
    refine lv_goto (tgt := 27) hx hb dX5_yOf_10 (by decide) ?_
    exact hret _ _ _ _ _ _ hP hD hS (⟨by delta yO; simp only [if_pos c1_0], rfl⟩) dX5_yOf_27
  · refine lv_iload_n hx hb dX5_yOf_4 rfl (lv_at hl 0 rfl) ?_
    refine lv_iconst (v := 4) hx hb dX5_yOf_5 (by decide) ?_
    refine lv_icmp_ne (tgt := 13) hx hb dX5_yOf_6 (by decide) (fun c6_1 => ?_) (fun c6_1 => ?_)
    · refine lv_iload_n hx hb dX5_yOf_13 rfl (lv_at hl 0 rfl) ?_
      refine lv_iconst (v := 1) hx hb dX5_yOf_14 (by decide) ?_
      refine lv_iconst (v := 3) hx hb dX5_yOf_15 (by decide) ?_
      refine nS_i (As := [.int d, .int 1, .int 3]) (rest := _) hx hb hml hown hts hP hK hD hZ hA hS ⟨Nat.zero_le _, Nat.zero_le _⟩ (m_in l E ad st d 1 3) (va_cwS 3 hts gX5_yOf_X5_in rfl rfl rfl (by decide +kernel) ⟨Nat.le_of_ble_eq_true rfl, Nat.le_of_ble_eq_true rfl⟩) hl.1 rfl (Nat.le_of_ble_eq_true rfl) dX5_yOf_16 (fun r_3 s_4 H locs hq hP hD hS => ?_)
      obtain ⟨rfl, rfl⟩ := hq
      refine lv_if_eq (tgt := 26) hx hb dX5_yOf_19 (by decide) (fun c19_4 => ?_) (fun c19_4 => ?_)
      · have c19_4 : (inI d 1 3) = 0 := c19_4
        refine lv_iconst (v := -1) hx hb dX5_yOf_26 (by decide) ?_
        exact hret _ _ _ _ _ _ hP hD hS (⟨by delta yO; simp only [if_neg c1_0, if_neg c6_1, if_pos c19_4], rfl⟩) dX5_yOf_27
      · have c19_4 : ¬ (inI d 1 3) = 0 := c19_4
        refine lv_iconst (v := 1) hx hb dX5_yOf_22 (by decide) ?_
        refine lv_goto (tgt := 27) hx hb dX5_yOf_23 (by decide) ?_
        exact hret _ _ _ _ _ _ hP hD hS (⟨by delta yO; simp only [if_neg c1_0, if_neg c6_1, if_neg c19_4], rfl⟩) dX5_yOf_27
    · refine lv_iconst (v := 0) hx hb dX5_yOf_9 (by decide) ?_
      refine lv_goto (tgt := 27) hx hb dX5_yOf_10 (by decide) ?_
      exact hret _ _ _ _ _ _ hP hD hS (⟨by delta yO; simp only [if_neg c1_0, if_pos c6_1], rfl⟩) dX5_yOf_27

set_option maxHeartbeats 4000000 in
set_option maxRecDepth 100000 in
theorem m_isBar (l : Launch) (E : NE) (ad : Nat → Nat) (st : NW) (d t : Int32) : nMi l yX5_isBar wsX5_isBar (nRm 2 42) E ad st [.int d, .int t] (fun r s1 => r = (if inI d 0 7 = 0 then 0 else if inI t 1 50 = 0 then 0 else 1) ∧ st = s1) := by
  refine nSz (cc := cX5_isBar) (maxL := 2) (by decide) rfl (Nat.le_of_ble_eq_true rfl) ?_
  intro pg en s mi ar bw mth cd R Q A ls hx hb hml hown hts hRm hP hK hD hZ hA hl hret
  subst hRm
  have hown : s.vm.findClass RX5 = some mi.cls := hown
  have hS : va_S A s.heap s.heap [] := va_S.rf
  have hl : lv_has ls 2 [(0, .int d), (1, .int t)] := hl
  refine lv_iload_n hx hb dX5_isBar_0 rfl (lv_at hl 0 rfl) ?_
  refine nS_i (As := [.int d]) (rest := _) hx hb hml hown hts hP hK hD hZ hA hS ⟨Nat.zero_le _, Nat.zero_le _⟩ (m_isDirection l E ad st d) (va_cwS 1 hts gX5_isBar_X5_isDirection rfl rfl rfl (by decide +kernel) ⟨Nat.le_of_ble_eq_true rfl, Nat.le_of_ble_eq_true rfl⟩) hl.1 rfl (Nat.le_of_ble_eq_true rfl) dX5_isBar_1 (fun r_1 s_2 H locs hq hP hD hS => ?_)
  obtain ⟨rfl, rfl⟩ := hq
  refine lv_if_eq (tgt := 21) hx hb dX5_isBar_4 (by decide) (fun c4_2 => ?_) (fun c4_2 => ?_)
  · have c4_2 : (inI d 0 7) = 0 := c4_2
    refine lv_iconst (v := 0) hx hb dX5_isBar_21 (by decide) ?_
    exact hret _ _ _ _ _ _ hP hD hS (⟨by simp only [if_pos c4_2], rfl⟩) (by first | exact Or.inl rfl | exact Or.inr rfl | assumption) dX5_isBar_22
  · have c4_2 : ¬ (inI d 0 7) = 0 := c4_2
    refine lv_iload_n hx hb dX5_isBar_7 rfl (lv_at hl 1 rfl) ?_
    refine lv_iconst (v := 1) hx hb dX5_isBar_8 (by decide) ?_
    refine lv_bipush (v := 50) hx hb dX5_isBar_9 (by decide) ?_
    refine nS_i (As := [.int t, .int 1, .int 50]) (rest := _) hx hb hml hown hts hP hK hD hZ hA hS ⟨Nat.zero_le _, Nat.zero_le _⟩ (m_in l E ad st t 1 50) (va_cwS 3 hts gX5_isBar_X5_in rfl rfl rfl (by decide +kernel) ⟨Nat.le_of_ble_eq_true rfl, Nat.le_of_ble_eq_true rfl⟩) hl.1 rfl (Nat.le_of_ble_eq_true rfl) dX5_isBar_11 (fun r_4 s_5 H locs hq hP hD hS => ?_)
    obtain ⟨rfl, rfl⟩ := hq
    refine lv_if_eq (tgt := 21) hx hb dX5_isBar_14 (by decide) (fun c14_5 => ?_) (fun c14_5 => ?_)
    · have c14_5 : (inI t 1 50) = 0 := c14_5
      refine lv_iconst (v := 0) hx hb dX5_isBar_21 (by decide) ?_
      exact hret _ _ _ _ _ _ hP hD hS (⟨by simp only [if_neg c4_2, if_pos c14_5], rfl⟩) (by first | exact Or.inl rfl | exact Or.inr rfl | assumption) dX5_isBar_22
    · have c14_5 : ¬ (inI t 1 50) = 0 := c14_5
      refine lv_iconst (v := 1) hx hb dX5_isBar_17 (by decide) ?_
      refine lv_goto (tgt := 22) hx hb dX5_isBar_18 (by decide) ?_
      exact hret _ _ _ _ _ _ hP hD hS (⟨by simp only [if_neg c4_2, if_neg c14_5], rfl⟩) (by first | exact Or.inl rfl | exact Or.inr rfl | assumption) dX5_isBar_22

set_option maxHeartbeats 4000000 in
set_option maxRecDepth 100000 in
theorem m_adds (l : Launch) (E : NE) (ad : Nat → Nat) (st : NW) (b : Nat) (G : Nat → Nat → Int32) (hM : isR E ad st b sM G) (d m : Int32) : nMv l yX5_adds wsX5_adds (nRm 2 42) E ad st [.ref (ad b), .int d, .int m] (fun s1 => isR E ad s1 b sM (gu (gu G 12 (fun _ => G 12 0 + m * xO d)) 13 (fun _ => G 13 0 + m * yO d)) ∧ fr b st s1) := by
  refine nSv (cc := cX5_adds) (maxL := 3) (by decide) rfl (Nat.le_of_ble_eq_true rfl) ?_
  intro pg en s mi ar bw mth cd R Q A ls hx hb hml hown hts hRm hP hK hD hZ hA hl hret
  subst hRm
  have hown : s.vm.findClass RX5 = some mi.cls := hown
  have hS : va_S A s.heap s.heap [] := va_S.rf
  have hl : lv_has ls 3 [(0, .ref (ad b)), (1, .int d), (2, .int m)] := hl
  have hf : fr b st st := fr.rf
  have hinX5 : ∀ w ∈ wsX50, w ∈ wsX5_adds := by decide +kernel
  refine lv_aload_n hx hb dX5_adds_0 rfl (lv_at hl 0 rfl) ?_
  refine lv_dup hx hb dX5_adds_1 rfl ?_
  refine rg (v := .int (G 12 0)) (T := TX5) (N := 14) (C := RX5) hx hb hts hinX5 hown hK hP hM rfl 12 (by decide) (hts (.fieldLink RX5 47 "NeedleGridModel" "fx" "I") (by decide +kernel)) rfl dX5_adds_2 ?_
  refine lv_iload_n hx hb dX5_adds_5 rfl (lv_at hl 2 rfl) ?_
  refine lv_iload_n hx hb dX5_adds_6 rfl (lv_at hl 1 rfl) ?_
  refine nS_i (As := [.int d]) (rest := _) hx hb hml hown hts hP hK hD hZ hA hS ⟨Nat.zero_le _, Nat.zero_le _⟩ (m_xOf l E ad st d) (va_cwS 1 hts gX5_adds_X5_xOf rfl rfl rfl (by decide +kernel) ⟨Nat.le_of_ble_eq_true rfl, Nat.le_of_ble_eq_true rfl⟩) hl.1 rfl (Nat.le_of_ble_eq_true rfl) dX5_adds_7 (fun r_1 s_2 H locs hq hP hD hS => ?_)
  obtain ⟨rfl, rfl⟩ := hq
  refine lv_imul hx hb dX5_adds_10 ?_
  refine lv_iadd hx hb dX5_adds_11 ?_
  refine rp (v := (G 12 0) + (m * (xO d))) (ty := .int) (T := TX5) (N := 14) (C := RX5) hx hb hts hinX5 tyX5 tyX5_ok nmX5 hown hK hP hD hS hM rfl 12 (by decide) (hts (.fieldLink RX5 47 "NeedleGridModel" "fx" "I") (by decide +kernel)) rfl rfl (by decide +kernel) rfl rfl dX5_adds_12 (fun s_3 H locs hM hf_4 hP hD hS => ?_)
  have hf := hf.tr hf_4
  refine lv_aload_n hx hb dX5_adds_15 rfl (lv_at hl 0 rfl) ?_
  refine lv_dup hx hb dX5_adds_16 rfl ?_
  refine rg (v := .int (G 13 0)) (T := TX5) (N := 14) (C := RX5) hx hb hts hinX5 hown hK hP hM rfl 13 (by decide) (hts (.fieldLink RX5 53 "NeedleGridModel" "fy" "I") (by decide +kernel)) rfl dX5_adds_17 ?_
  refine lv_iload_n hx hb dX5_adds_20 rfl (lv_at hl 2 rfl) ?_
  refine lv_iload_n hx hb dX5_adds_21 rfl (lv_at hl 1 rfl) ?_
  refine nS_i (As := [.int d]) (rest := _) hx hb hml hown hts hP hK hD hZ hA hS ⟨Nat.zero_le _, Nat.zero_le _⟩ (m_yOf l E ad s_3 d) (va_cwS 1 hts gX5_adds_X5_yOf rfl rfl rfl (by decide +kernel) ⟨Nat.le_of_ble_eq_true rfl, Nat.le_of_ble_eq_true rfl⟩) hl.1 rfl (Nat.le_of_ble_eq_true rfl) dX5_adds_22 (fun r_5 s_6 H locs hq hP hD hS => ?_)
  obtain ⟨rfl, rfl⟩ := hq
  refine lv_imul hx hb dX5_adds_25 ?_
  refine lv_iadd hx hb dX5_adds_26 ?_
  refine rp (v := (G 13 0) + (m * (yO d))) (ty := .int) (T := TX5) (N := 14) (C := RX5) hx hb hts hinX5 tyX5 tyX5_ok nmX5 hown hK hP hD hS hM rfl 13 (by decide) (hts (.fieldLink RX5 53 "NeedleGridModel" "fy" "I") (by decide +kernel)) rfl rfl (by decide +kernel) rfl rfl dX5_adds_27 (fun s_7 H locs hM hf_8 hP hD hS => ?_)
  have hf := hf.tr hf_8
  exact hret _ _ _ _ _ hP hD hS (⟨hM, hf⟩) dX5_adds_30

set_option maxHeartbeats 4000000 in
set_option maxRecDepth 100000 in
theorem m_addsBar0 (l : Launch) (E : NE) (ad : Nat → Nat) (st : NW) (b : Nat) (G : Nat → Nat → Int32) (hM : isR E ad st b sM G) (j c : Nat) (hj : j < 36) (hc : c < 36) (hdB : okB (G 0)) (hn : pSq (nI j) (nI c) ≠ 0) : nMv l yX5_addsBar wsX5_addsBar (nRm 3 64) E ad st [.ref (ad b), .ref (ad (b + 1 + 0)), .int (nI j), .int (nI c)] (fun s1 => isR E ad s1 b sM (gu (gu G 12 (fun _ => G 12 0 + pull (nI j) (G 0 (114 + j)) (G 0 (150 + j)) (nI c) * xO (G 0 (114 + j)))) 13 (fun _ => G 13 0 + pull (nI j) (G 0 (114 + j)) (G 0 (150 + j)) (nI c) * yO (G 0 (114 + j)))) ∧ fr b st s1) := by
  refine nSv (cc := cX5_addsBar) (maxL := 11) (by decide) rfl (Nat.le_of_ble_eq_true rfl) ?_
  intro pg en s mi ar bw mth cd R Q A ls hx hb hml hown hts hRm hP hK hD hZ hA hl hret
  subst hRm
  have hown : s.vm.findClass RX5 = some mi.cls := hown
  have hS : va_S A s.heap s.heap [] := va_S.rf
  have hl : lv_has ls 11 [(0, .ref (ad b)), (1, .ref (ad (b + 1 + 0))), (2, .int (nI j)), (3, .int (nI c))] := hl
  have hf : fr b st st := fr.rf
  have hinX5 : ∀ w ∈ wsX50, w ∈ wsX5_addsBar := by decide +kernel
  refine lv_iload_n hx hb dX5_addsBar_0 rfl (lv_at hl 3 rfl) ?_
  refine lv_bipush (v := 6) hx hb dX5_addsBar_1 (by decide) ?_
  refine lv_irem hx hb dX5_addsBar_3 (by decide) ?_
  refine lv_iload_n hx hb dX5_addsBar_4 rfl (lv_at hl 2 rfl) ?_
  refine lv_bipush (v := 6) hx hb dX5_addsBar_5 (by decide) ?_
  refine lv_irem hx hb dX5_addsBar_7 (by decide) ?_
  refine lv_isub hx hb dX5_addsBar_8 ?_
  refine lv_topi (fun x4_9 ex4_9 => ?_)
  have ex4_9 : x4_9 = ((nI c) - (nI c) / 6 * 6) - ((nI j) - (nI j) / 6 * 6) := ex4_9
  refine lv_istore (lv' := [(4, .int x4_9), (0, .ref (ad b)), (1, .ref (ad (b + 1 + 0))), (2, .int (nI j)), (3, .int (nI c))]) hx hb dX5_addsBar_9 hl (by decide) rfl (fun ls hl => ?_)
  refine lv_iload_n hx hb dX5_addsBar_11 rfl (lv_at hl 4 rfl) ?_
  refine lv_bipush (v := 6) hx hb dX5_addsBar_12 (by decide) ?_
  refine lv_idiv hx hb dX5_addsBar_14 (by decide) ?_
  refine lv_iload_n hx hb dX5_addsBar_15 rfl (lv_at hl 3 rfl) ?_
  refine lv_bipush (v := 6) hx hb dX5_addsBar_16 (by decide) ?_
  refine lv_idiv hx hb dX5_addsBar_18 (by decide) ?_
  refine lv_isub hx hb dX5_addsBar_19 ?_
  refine lv_topi (fun x5_20 ex5_20 => ?_)
  have ex5_20 : x5_20 = ((nI c) / 6) - ((nI j) / 6) := ex5_20
  refine lv_istore (lv' := [(5, .int x5_20), (4, .int x4_9), (0, .ref (ad b)), (1, .ref (ad (b + 1 + 0))), (2, .int (nI j)), (3, .int (nI c))]) hx hb dX5_addsBar_20 hl (by decide) rfl (fun ls hl => ?_)
  refine lv_iload hx hb dX5_addsBar_22 (lv_at hl 1 rfl) ?_
  refine lv_iload hx hb dX5_addsBar_24 (lv_at hl 1 rfl) ?_
  refine lv_imul hx hb dX5_addsBar_26 ?_
  refine lv_iload hx hb dX5_addsBar_27 (lv_at hl 0 rfl) ?_
  refine lv_iload hx hb dX5_addsBar_29 (lv_at hl 0 rfl) ?_
  refine lv_imul hx hb dX5_addsBar_31 ?_
  refine lv_iadd hx hb dX5_addsBar_32 ?_
  refine lv_topi (fun x6_33 ex6_33 => ?_)
  have ex6_33 : x6_33 = (x4_9 * x4_9) + (x5_20 * x5_20) := ex6_33
  refine lv_istore (lv' := [(6, .int x6_33), (5, .int x5_20), (4, .int x4_9), (0, .ref (ad b)), (1, .ref (ad (b + 1 + 0))), (2, .int (nI j)), (3, .int (nI c))]) hx hb dX5_addsBar_33 hl (by decide) rfl (fun ls hl => ?_)
  refine lv_aload_n hx hb dX5_addsBar_35 rfl (lv_at hl 4 rfl) ?_
  refine lv_bipush (v := 114) hx hb dX5_addsBar_36 (by decide) ?_
  refine lv_iload_n hx hb dX5_addsBar_38 rfl (lv_at hl 5 rfl) ?_
  refine lv_iadd hx hb dX5_addsBar_39 ?_
  rw [show 114 + nI j = nI (114 + j) from nI_add 114 j]
  refine ra (j := (114 + j)) (n := 186) hx hb hK hP hM 0 rfl (by omega) (by decide) dX5_addsBar_40 ?_
  refine nS_i (As := [.int (G 0 (114 + j))]) (rest := _) hx hb hml hown hts hP hK hD hZ hA hS ⟨Nat.zero_le _, Nat.zero_le _⟩ (m_xOf l E ad st (G 0 (114 + j))) (va_cwS 1 hts gX5_addsBar_X5_xOf rfl rfl rfl (by decide +kernel) ⟨Nat.le_of_ble_eq_true rfl, Nat.le_of_ble_eq_true rfl⟩) hl.1 rfl (Nat.le_of_ble_eq_true rfl) dX5_addsBar_41 (fun r_1 s_2 H locs hq hP hD hS => ?_)
  obtain ⟨rfl, rfl⟩ := hq
  refine lv_topi (fun x7_44 ex7_44 => ?_)
  have ex7_44 : x7_44 = xO (G 0 (114 + j)) := ex7_44
  refine lv_istore (lv' := [(7, .int x7_44), (6, .int x6_33), (5, .int x5_20), (4, .int x4_9), (0, .ref (ad b)), (1, .ref (ad (b + 1 + 0))), (2, .int (nI j)), (3, .int (nI c))]) hx hb dX5_addsBar_44 hl (by decide) rfl (fun ls hl => ?_)
  refine lv_aload_n hx hb dX5_addsBar_46 rfl (lv_at hl 5 rfl) ?_
  refine lv_bipush (v := 114) hx hb dX5_addsBar_47 (by decide) ?_
  refine lv_iload_n hx hb dX5_addsBar_49 rfl (lv_at hl 6 rfl) ?_
  refine lv_iadd hx hb dX5_addsBar_50 ?_
  rw [show 114 + nI j = nI (114 + j) from nI_add 114 j]
  refine ra (j := (114 + j)) (n := 186) hx hb hK hP hM 0 rfl (by omega) (by decide) dX5_addsBar_51 ?_
  refine nS_i (As := [.int (G 0 (114 + j))]) (rest := _) hx hb hml hown hts hP hK hD hZ hA hS ⟨Nat.zero_le _, Nat.zero_le _⟩ (m_yOf l E ad st (G 0 (114 + j))) (va_cwS 1 hts gX5_addsBar_X5_yOf rfl rfl rfl (by decide +kernel) ⟨Nat.le_of_ble_eq_true rfl, Nat.le_of_ble_eq_true rfl⟩) hl.1 rfl (Nat.le_of_ble_eq_true rfl) dX5_addsBar_52 (fun r_3 s_4 H locs hq hP hD hS => ?_)
  obtain ⟨rfl, rfl⟩ := hq
  refine lv_topi (fun x8_55 ex8_55 => ?_)
  have ex8_55 : x8_55 = yO (G 0 (114 + j)) := ex8_55
  refine lv_istore (lv' := [(8, .int x8_55), (7, .int x7_44), (6, .int x6_33), (5, .int x5_20), (4, .int x4_9), (0, .ref (ad b)), (1, .ref (ad (b + 1 + 0))), (2, .int (nI j)), (3, .int (nI c))]) hx hb dX5_addsBar_55 hl (by decide) rfl (fun ls hl => ?_)
  refine lv_iload hx hb dX5_addsBar_57 (lv_at hl 4 rfl) ?_
  refine lv_iload hx hb dX5_addsBar_59 (lv_at hl 1 rfl) ?_
  refine lv_imul hx hb dX5_addsBar_61 ?_
  refine lv_iload hx hb dX5_addsBar_62 (lv_at hl 3 rfl) ?_
  refine lv_iload hx hb dX5_addsBar_64 (lv_at hl 0 rfl) ?_
  refine lv_imul hx hb dX5_addsBar_66 ?_
  refine lv_iadd hx hb dX5_addsBar_67 ?_
  refine lv_topi (fun x9_68 ex9_68 => ?_)
  have ex9_68 : x9_68 = (x4_9 * x7_44) + (x5_20 * x8_55) := ex9_68
  refine lv_istore (lv' := [(9, .int x9_68), (8, .int x8_55), (7, .int x7_44), (6, .int x6_33), (5, .int x5_20), (4, .int x4_9), (0, .ref (ad b)), (1, .ref (ad (b + 1 + 0))), (2, .int (nI j)), (3, .int (nI c))]) hx hb dX5_addsBar_68 hl (by decide) rfl (fun ls hl => ?_)
  refine lv_aload_n hx hb dX5_addsBar_70 rfl (lv_at hl 7 rfl) ?_
  refine lv_sipush (v := 150) hx hb dX5_addsBar_71 (by decide) ?_
  refine lv_iload_n hx hb dX5_addsBar_74 rfl (lv_at hl 8 rfl) ?_
  refine lv_iadd hx hb dX5_addsBar_75 ?_
  rw [show 150 + nI j = nI (150 + j) from nI_add 150 j]
  refine ra (j := (150 + j)) (n := 186) hx hb hK hP hM 0 rfl (by omega) (by decide) dX5_addsBar_76 ?_
  refine lv_bipush (v := 100) hx hb dX5_addsBar_77 (by decide) ?_
  refine lv_imul hx hb dX5_addsBar_79 ?_
  refine lv_iload hx hb dX5_addsBar_80 (lv_at hl 3 rfl) ?_
  refine lv_idiv hx hb dX5_addsBar_82 (by subst ex6_33 ex5_20 ex4_9; exact hn) ?_
  refine lv_topi (fun x10_83 ex10_83 => ?_)
  have ex10_83 : x10_83 = ((G 0 (150 + j)) * 100) / x6_33 := ex10_83
  refine lv_istore (lv' := [(10, .int x10_83), (9, .int x9_68), (8, .int x8_55), (7, .int x7_44), (6, .int x6_33), (5, .int x5_20), (4, .int x4_9), (0, .ref (ad b)), (1, .ref (ad (b + 1 + 0))), (2, .int (nI j)), (3, .int (nI c))]) hx hb dX5_addsBar_83 hl (by decide) rfl (fun ls hl => ?_)
  refine lv_aload_n hx hb dX5_addsBar_85 rfl (lv_at hl 7 rfl) ?_
  refine lv_aload_n hx hb dX5_addsBar_86 rfl (lv_at hl 8 rfl) ?_
  refine lv_bipush (v := 114) hx hb dX5_addsBar_87 (by decide) ?_
  refine lv_iload_n hx hb dX5_addsBar_89 rfl (lv_at hl 9 rfl) ?_
  refine lv_iadd hx hb dX5_addsBar_90 ?_
  rw [show 114 + nI j = nI (114 + j) from nI_add 114 j]
  refine ra (j := (114 + j)) (n := 186) hx hb hK hP hM 0 rfl (by omega) (by decide) dX5_addsBar_91 ?_
  refine lv_iconst (v := 2) hx hb dX5_addsBar_92 (by decide) ?_
  refine lv_iload hx hb dX5_addsBar_93 (lv_at hl 1 rfl) ?_
  refine lv_imul hx hb dX5_addsBar_95 ?_
  refine lv_iload hx hb dX5_addsBar_96 (lv_at hl 1 rfl) ?_
  refine lv_imul hx hb dX5_addsBar_98 ?_
  refine lv_iload hx hb dX5_addsBar_99 (lv_at hl 4 rfl) ?_
  refine lv_iload hx hb dX5_addsBar_101 (lv_at hl 3 rfl) ?_
  refine lv_iload hx hb dX5_addsBar_103 (lv_at hl 3 rfl) ?_
  refine lv_imul hx hb dX5_addsBar_105 ?_
  refine lv_iload hx hb dX5_addsBar_106 (lv_at hl 2 rfl) ?_
  refine lv_iload hx hb dX5_addsBar_108 (lv_at hl 2 rfl) ?_
  refine lv_imul hx hb dX5_addsBar_110 ?_
  refine lv_iadd hx hb dX5_addsBar_111 ?_
  refine lv_imul hx hb dX5_addsBar_112 ?_
  refine lv_icmp_lt (tgt := 121) hx hb dX5_addsBar_113 (by decide) (fun c113_4 => ?_) (fun c113_4 => ?_)
  · have c113_4 : ((2 * x9_68) * x9_68) < (x6_33 * ((x7_44 * x7_44) + (x8_55 * x8_55))) := c113_4
    refine lv_iload hx hb dX5_addsBar_121 (lv_at hl 0 rfl) ?_
    refine lv_iconst (v := 2) hx hb dX5_addsBar_123 (by decide) ?_
    refine lv_idiv hx hb dX5_addsBar_124 (by decide) ?_
    refine lv_ineg hx hb dX5_addsBar_125 ?_
    refine nVv (As := [.int (G 0 (114 + j)), .int (-(x10_83 / 2))]) (rest := _) hx hb hml hown hts hP hK hD hZ hA hS ⟨Nat.zero_le _, Nat.zero_le _⟩ hM.1 rfl (m_adds l E ad st b G hM (G 0 (114 + j)) (-(x10_83 / 2))) (cwV 2 hts gX5_addsBar_X5_adds rfl rfl rfl (by decide +kernel) ⟨Nat.le_of_ble_eq_true rfl, Nat.le_of_ble_eq_true rfl⟩) hl.1 rfl (Nat.le_of_ble_eq_true rfl) dX5_addsBar_126 (fun s_8 H locs hq hP hD hS => ?_)
    obtain ⟨hM, hf_7⟩ := hq
    have hf := hf.tr hf_7
    have hp : pull (nI j) (G 0 (114 + j)) (G 0 (150 + j)) (nI c) = -(x10_83 / 2) := by
      subst ex4_9 ex5_20 ex6_33 ex7_44 ex8_55 ex9_68 ex10_83
      unfold pull
      have hn9 := hn
      have h8 : pAl (nI j) (G 0 (114 + j)) (nI c) = (nI c - nI c / 6 * 6 - (nI j - nI j / 6 * 6)) * xO (G 0 (114 + j)) + (nI c / 6 - nI j / 6) * yO (G 0 (114 + j)) := by rw [(hdB j hj).1, (hdB j hj).2]; rfl
      rw [if_neg hn, h8, ← (hdB j hj).1, ← (hdB j hj).2]
      delta pSq pP pQ rm6
      simp only [if_pos c113_4]
    rw [← hp] at hM
    exact hret _ _ _ _ _ hP hD hS (⟨hM, hf⟩) dX5_addsBar_129
  · have c113_4 : ¬ ((2 * x9_68) * x9_68) < (x6_33 * ((x7_44 * x7_44) + (x8_55 * x8_55))) := c113_4
    refine lv_iload hx hb dX5_addsBar_116 (lv_at hl 0 rfl) ?_
    refine lv_goto (tgt := 126) hx hb dX5_addsBar_118 (by decide) ?_
    refine nVv (As := [.int (G 0 (114 + j)), .int x10_83]) (rest := _) hx hb hml hown hts hP hK hD hZ hA hS ⟨Nat.zero_le _, Nat.zero_le _⟩ hM.1 rfl (m_adds l E ad st b G hM (G 0 (114 + j)) x10_83) (cwV 2 hts gX5_addsBar_X5_adds rfl rfl rfl (by decide +kernel) ⟨Nat.le_of_ble_eq_true rfl, Nat.le_of_ble_eq_true rfl⟩) hl.1 rfl (Nat.le_of_ble_eq_true rfl) dX5_addsBar_126 (fun s_11 H locs hq hP hD hS => ?_)
    obtain ⟨hM, hf_10⟩ := hq
    have hf := hf.tr hf_10
    have hp : pull (nI j) (G 0 (114 + j)) (G 0 (150 + j)) (nI c) = x10_83 := by
      subst ex4_9 ex5_20 ex6_33 ex7_44 ex8_55 ex9_68 ex10_83
      unfold pull
      have hn9 := hn
      have h8 : pAl (nI j) (G 0 (114 + j)) (nI c) = (nI c - nI c / 6 * 6 - (nI j - nI j / 6 * 6)) * xO (G 0 (114 + j)) + (nI c / 6 - nI j / 6) * yO (G 0 (114 + j)) := by rw [(hdB j hj).1, (hdB j hj).2]; rfl
      rw [if_neg hn, h8, ← (hdB j hj).1, ← (hdB j hj).2]
      delta pSq pP pQ rm6
      simp only [if_neg c113_4]
    rw [← hp] at hM
    exact hret _ _ _ _ _ hP hD hS (⟨hM, hf⟩) dX5_addsBar_129

set_option maxHeartbeats 4000000 in
set_option maxRecDepth 100000 in
theorem m_addsBar1 (l : Launch) (E : NE) (ad : Nat → Nat) (st : NW) (b : Nat) (G : Nat → Nat → Int32) (hM : isR E ad st b sM G) (j c : Nat) (hj : j < 36) (hc : c < 36) (hdB : okB (G 1)) (hn : pSq (nI j) (nI c) ≠ 0) : nMv l yX5_addsBar wsX5_addsBar (nRm 3 64) E ad st [.ref (ad b), .ref (ad (b + 1 + 1)), .int (nI j), .int (nI c)] (fun s1 => isR E ad s1 b sM (gu (gu G 12 (fun _ => G 12 0 + pull (nI j) (G 1 (114 + j)) (G 1 (150 + j)) (nI c) * xO (G 1 (114 + j)))) 13 (fun _ => G 13 0 + pull (nI j) (G 1 (114 + j)) (G 1 (150 + j)) (nI c) * yO (G 1 (114 + j)))) ∧ fr b st s1) := by
  refine nSv (cc := cX5_addsBar) (maxL := 11) (by decide) rfl (Nat.le_of_ble_eq_true rfl) ?_
  intro pg en s mi ar bw mth cd R Q A ls hx hb hml hown hts hRm hP hK hD hZ hA hl hret
  subst hRm
  have hown : s.vm.findClass RX5 = some mi.cls := hown
  have hS : va_S A s.heap s.heap [] := va_S.rf
  have hl : lv_has ls 11 [(0, .ref (ad b)), (1, .ref (ad (b + 1 + 1))), (2, .int (nI j)), (3, .int (nI c))] := hl
  have hf : fr b st st := fr.rf
  have hinX5 : ∀ w ∈ wsX50, w ∈ wsX5_addsBar := by decide +kernel
  refine lv_iload_n hx hb dX5_addsBar_0 rfl (lv_at hl 3 rfl) ?_
  refine lv_bipush (v := 6) hx hb dX5_addsBar_1 (by decide) ?_
  refine lv_irem hx hb dX5_addsBar_3 (by decide) ?_
  refine lv_iload_n hx hb dX5_addsBar_4 rfl (lv_at hl 2 rfl) ?_
  refine lv_bipush (v := 6) hx hb dX5_addsBar_5 (by decide) ?_
  refine lv_irem hx hb dX5_addsBar_7 (by decide) ?_
  refine lv_isub hx hb dX5_addsBar_8 ?_
  refine lv_topi (fun x4_9 ex4_9 => ?_)
  have ex4_9 : x4_9 = ((nI c) - (nI c) / 6 * 6) - ((nI j) - (nI j) / 6 * 6) := ex4_9
  refine lv_istore (lv' := [(4, .int x4_9), (0, .ref (ad b)), (1, .ref (ad (b + 1 + 1))), (2, .int (nI j)), (3, .int (nI c))]) hx hb dX5_addsBar_9 hl (by decide) rfl (fun ls hl => ?_)
  refine lv_iload_n hx hb dX5_addsBar_11 rfl (lv_at hl 4 rfl) ?_
  refine lv_bipush (v := 6) hx hb dX5_addsBar_12 (by decide) ?_
  refine lv_idiv hx hb dX5_addsBar_14 (by decide) ?_
  refine lv_iload_n hx hb dX5_addsBar_15 rfl (lv_at hl 3 rfl) ?_
  refine lv_bipush (v := 6) hx hb dX5_addsBar_16 (by decide) ?_
  refine lv_idiv hx hb dX5_addsBar_18 (by decide) ?_
  refine lv_isub hx hb dX5_addsBar_19 ?_
  refine lv_topi (fun x5_20 ex5_20 => ?_)
  have ex5_20 : x5_20 = ((nI c) / 6) - ((nI j) / 6) := ex5_20
  refine lv_istore (lv' := [(5, .int x5_20), (4, .int x4_9), (0, .ref (ad b)), (1, .ref (ad (b + 1 + 1))), (2, .int (nI j)), (3, .int (nI c))]) hx hb dX5_addsBar_20 hl (by decide) rfl (fun ls hl => ?_)
  refine lv_iload hx hb dX5_addsBar_22 (lv_at hl 1 rfl) ?_
  refine lv_iload hx hb dX5_addsBar_24 (lv_at hl 1 rfl) ?_
  refine lv_imul hx hb dX5_addsBar_26 ?_
  refine lv_iload hx hb dX5_addsBar_27 (lv_at hl 0 rfl) ?_
  refine lv_iload hx hb dX5_addsBar_29 (lv_at hl 0 rfl) ?_
  refine lv_imul hx hb dX5_addsBar_31 ?_
  refine lv_iadd hx hb dX5_addsBar_32 ?_
  refine lv_topi (fun x6_33 ex6_33 => ?_)
  have ex6_33 : x6_33 = (x4_9 * x4_9) + (x5_20 * x5_20) := ex6_33
  refine lv_istore (lv' := [(6, .int x6_33), (5, .int x5_20), (4, .int x4_9), (0, .ref (ad b)), (1, .ref (ad (b + 1 + 1))), (2, .int (nI j)), (3, .int (nI c))]) hx hb dX5_addsBar_33 hl (by decide) rfl (fun ls hl => ?_)
  refine lv_aload_n hx hb dX5_addsBar_35 rfl (lv_at hl 4 rfl) ?_
  refine lv_bipush (v := 114) hx hb dX5_addsBar_36 (by decide) ?_
  refine lv_iload_n hx hb dX5_addsBar_38 rfl (lv_at hl 5 rfl) ?_
  refine lv_iadd hx hb dX5_addsBar_39 ?_
  rw [show 114 + nI j = nI (114 + j) from nI_add 114 j]
  refine ra (j := (114 + j)) (n := 186) hx hb hK hP hM 1 rfl (by omega) (by decide) dX5_addsBar_40 ?_
  refine nS_i (As := [.int (G 1 (114 + j))]) (rest := _) hx hb hml hown hts hP hK hD hZ hA hS ⟨Nat.zero_le _, Nat.zero_le _⟩ (m_xOf l E ad st (G 1 (114 + j))) (va_cwS 1 hts gX5_addsBar_X5_xOf rfl rfl rfl (by decide +kernel) ⟨Nat.le_of_ble_eq_true rfl, Nat.le_of_ble_eq_true rfl⟩) hl.1 rfl (Nat.le_of_ble_eq_true rfl) dX5_addsBar_41 (fun r_1 s_2 H locs hq hP hD hS => ?_)
  obtain ⟨rfl, rfl⟩ := hq
  refine lv_topi (fun x7_44 ex7_44 => ?_)
  have ex7_44 : x7_44 = xO (G 1 (114 + j)) := ex7_44
  refine lv_istore (lv' := [(7, .int x7_44), (6, .int x6_33), (5, .int x5_20), (4, .int x4_9), (0, .ref (ad b)), (1, .ref (ad (b + 1 + 1))), (2, .int (nI j)), (3, .int (nI c))]) hx hb dX5_addsBar_44 hl (by decide) rfl (fun ls hl => ?_)
  refine lv_aload_n hx hb dX5_addsBar_46 rfl (lv_at hl 5 rfl) ?_
  refine lv_bipush (v := 114) hx hb dX5_addsBar_47 (by decide) ?_
  refine lv_iload_n hx hb dX5_addsBar_49 rfl (lv_at hl 6 rfl) ?_
  refine lv_iadd hx hb dX5_addsBar_50 ?_
  rw [show 114 + nI j = nI (114 + j) from nI_add 114 j]
  refine ra (j := (114 + j)) (n := 186) hx hb hK hP hM 1 rfl (by omega) (by decide) dX5_addsBar_51 ?_
  refine nS_i (As := [.int (G 1 (114 + j))]) (rest := _) hx hb hml hown hts hP hK hD hZ hA hS ⟨Nat.zero_le _, Nat.zero_le _⟩ (m_yOf l E ad st (G 1 (114 + j))) (va_cwS 1 hts gX5_addsBar_X5_yOf rfl rfl rfl (by decide +kernel) ⟨Nat.le_of_ble_eq_true rfl, Nat.le_of_ble_eq_true rfl⟩) hl.1 rfl (Nat.le_of_ble_eq_true rfl) dX5_addsBar_52 (fun r_3 s_4 H locs hq hP hD hS => ?_)
  obtain ⟨rfl, rfl⟩ := hq
  refine lv_topi (fun x8_55 ex8_55 => ?_)
  have ex8_55 : x8_55 = yO (G 1 (114 + j)) := ex8_55
  refine lv_istore (lv' := [(8, .int x8_55), (7, .int x7_44), (6, .int x6_33), (5, .int x5_20), (4, .int x4_9), (0, .ref (ad b)), (1, .ref (ad (b + 1 + 1))), (2, .int (nI j)), (3, .int (nI c))]) hx hb dX5_addsBar_55 hl (by decide) rfl (fun ls hl => ?_)
  refine lv_iload hx hb dX5_addsBar_57 (lv_at hl 4 rfl) ?_
  refine lv_iload hx hb dX5_addsBar_59 (lv_at hl 1 rfl) ?_
  refine lv_imul hx hb dX5_addsBar_61 ?_
  refine lv_iload hx hb dX5_addsBar_62 (lv_at hl 3 rfl) ?_
  refine lv_iload hx hb dX5_addsBar_64 (lv_at hl 0 rfl) ?_
  refine lv_imul hx hb dX5_addsBar_66 ?_
  refine lv_iadd hx hb dX5_addsBar_67 ?_
  refine lv_topi (fun x9_68 ex9_68 => ?_)
  have ex9_68 : x9_68 = (x4_9 * x7_44) + (x5_20 * x8_55) := ex9_68
  refine lv_istore (lv' := [(9, .int x9_68), (8, .int x8_55), (7, .int x7_44), (6, .int x6_33), (5, .int x5_20), (4, .int x4_9), (0, .ref (ad b)), (1, .ref (ad (b + 1 + 1))), (2, .int (nI j)), (3, .int (nI c))]) hx hb dX5_addsBar_68 hl (by decide) rfl (fun ls hl => ?_)
  refine lv_aload_n hx hb dX5_addsBar_70 rfl (lv_at hl 7 rfl) ?_
  refine lv_sipush (v := 150) hx hb dX5_addsBar_71 (by decide) ?_
  refine lv_iload_n hx hb dX5_addsBar_74 rfl (lv_at hl 8 rfl) ?_
  refine lv_iadd hx hb dX5_addsBar_75 ?_
  rw [show 150 + nI j = nI (150 + j) from nI_add 150 j]
  refine ra (j := (150 + j)) (n := 186) hx hb hK hP hM 1 rfl (by omega) (by decide) dX5_addsBar_76 ?_
  refine lv_bipush (v := 100) hx hb dX5_addsBar_77 (by decide) ?_
  refine lv_imul hx hb dX5_addsBar_79 ?_
  refine lv_iload hx hb dX5_addsBar_80 (lv_at hl 3 rfl) ?_
  refine lv_idiv hx hb dX5_addsBar_82 (by subst ex6_33 ex5_20 ex4_9; exact hn) ?_
  refine lv_topi (fun x10_83 ex10_83 => ?_)
  have ex10_83 : x10_83 = ((G 1 (150 + j)) * 100) / x6_33 := ex10_83
  refine lv_istore (lv' := [(10, .int x10_83), (9, .int x9_68), (8, .int x8_55), (7, .int x7_44), (6, .int x6_33), (5, .int x5_20), (4, .int x4_9), (0, .ref (ad b)), (1, .ref (ad (b + 1 + 1))), (2, .int (nI j)), (3, .int (nI c))]) hx hb dX5_addsBar_83 hl (by decide) rfl (fun ls hl => ?_)
  refine lv_aload_n hx hb dX5_addsBar_85 rfl (lv_at hl 7 rfl) ?_
  refine lv_aload_n hx hb dX5_addsBar_86 rfl (lv_at hl 8 rfl) ?_
  refine lv_bipush (v := 114) hx hb dX5_addsBar_87 (by decide) ?_
  refine lv_iload_n hx hb dX5_addsBar_89 rfl (lv_at hl 9 rfl) ?_
  refine lv_iadd hx hb dX5_addsBar_90 ?_
  rw [show 114 + nI j = nI (114 + j) from nI_add 114 j]
  refine ra (j := (114 + j)) (n := 186) hx hb hK hP hM 1 rfl (by omega) (by decide) dX5_addsBar_91 ?_
  refine lv_iconst (v := 2) hx hb dX5_addsBar_92 (by decide) ?_
  refine lv_iload hx hb dX5_addsBar_93 (lv_at hl 1 rfl) ?_
  refine lv_imul hx hb dX5_addsBar_95 ?_
  refine lv_iload hx hb dX5_addsBar_96 (lv_at hl 1 rfl) ?_
  refine lv_imul hx hb dX5_addsBar_98 ?_
  refine lv_iload hx hb dX5_addsBar_99 (lv_at hl 4 rfl) ?_
  refine lv_iload hx hb dX5_addsBar_101 (lv_at hl 3 rfl) ?_
  refine lv_iload hx hb dX5_addsBar_103 (lv_at hl 3 rfl) ?_
  refine lv_imul hx hb dX5_addsBar_105 ?_
  refine lv_iload hx hb dX5_addsBar_106 (lv_at hl 2 rfl) ?_
  refine lv_iload hx hb dX5_addsBar_108 (lv_at hl 2 rfl) ?_
  refine lv_imul hx hb dX5_addsBar_110 ?_
  refine lv_iadd hx hb dX5_addsBar_111 ?_
  refine lv_imul hx hb dX5_addsBar_112 ?_
  refine lv_icmp_lt (tgt := 121) hx hb dX5_addsBar_113 (by decide) (fun c113_4 => ?_) (fun c113_4 => ?_)
  · have c113_4 : ((2 * x9_68) * x9_68) < (x6_33 * ((x7_44 * x7_44) + (x8_55 * x8_55))) := c113_4
    refine lv_iload hx hb dX5_addsBar_121 (lv_at hl 0 rfl) ?_
    refine lv_iconst (v := 2) hx hb dX5_addsBar_123 (by decide) ?_
    refine lv_idiv hx hb dX5_addsBar_124 (by decide) ?_
    refine lv_ineg hx hb dX5_addsBar_125 ?_
    refine nVv (As := [.int (G 1 (114 + j)), .int (-(x10_83 / 2))]) (rest := _) hx hb hml hown hts hP hK hD hZ hA hS ⟨Nat.zero_le _, Nat.zero_le _⟩ hM.1 rfl (m_adds l E ad st b G hM (G 1 (114 + j)) (-(x10_83 / 2))) (cwV 2 hts gX5_addsBar_X5_adds rfl rfl rfl (by decide +kernel) ⟨Nat.le_of_ble_eq_true rfl, Nat.le_of_ble_eq_true rfl⟩) hl.1 rfl (Nat.le_of_ble_eq_true rfl) dX5_addsBar_126 (fun s_8 H locs hq hP hD hS => ?_)
    obtain ⟨hM, hf_7⟩ := hq
    have hf := hf.tr hf_7
    have hp : pull (nI j) (G 1 (114 + j)) (G 1 (150 + j)) (nI c) = -(x10_83 / 2) := by
      subst ex4_9 ex5_20 ex6_33 ex7_44 ex8_55 ex9_68 ex10_83
      unfold pull
      have hn9 := hn
      have h8 : pAl (nI j) (G 1 (114 + j)) (nI c) = (nI c - nI c / 6 * 6 - (nI j - nI j / 6 * 6)) * xO (G 1 (114 + j)) + (nI c / 6 - nI j / 6) * yO (G 1 (114 + j)) := by rw [(hdB j hj).1, (hdB j hj).2]; rfl
      rw [if_neg hn, h8, ← (hdB j hj).1, ← (hdB j hj).2]
      delta pSq pP pQ rm6
      simp only [if_pos c113_4]
    rw [← hp] at hM
    exact hret _ _ _ _ _ hP hD hS (⟨hM, hf⟩) dX5_addsBar_129
  · have c113_4 : ¬ ((2 * x9_68) * x9_68) < (x6_33 * ((x7_44 * x7_44) + (x8_55 * x8_55))) := c113_4
    refine lv_iload hx hb dX5_addsBar_116 (lv_at hl 0 rfl) ?_
    refine lv_goto (tgt := 126) hx hb dX5_addsBar_118 (by decide) ?_
    refine nVv (As := [.int (G 1 (114 + j)), .int x10_83]) (rest := _) hx hb hml hown hts hP hK hD hZ hA hS ⟨Nat.zero_le _, Nat.zero_le _⟩ hM.1 rfl (m_adds l E ad st b G hM (G 1 (114 + j)) x10_83) (cwV 2 hts gX5_addsBar_X5_adds rfl rfl rfl (by decide +kernel) ⟨Nat.le_of_ble_eq_true rfl, Nat.le_of_ble_eq_true rfl⟩) hl.1 rfl (Nat.le_of_ble_eq_true rfl) dX5_addsBar_126 (fun s_11 H locs hq hP hD hS => ?_)
    obtain ⟨hM, hf_10⟩ := hq
    have hf := hf.tr hf_10
    have hp : pull (nI j) (G 1 (114 + j)) (G 1 (150 + j)) (nI c) = x10_83 := by
      subst ex4_9 ex5_20 ex6_33 ex7_44 ex8_55 ex9_68 ex10_83
      unfold pull
      have hn9 := hn
      have h8 : pAl (nI j) (G 1 (114 + j)) (nI c) = (nI c - nI c / 6 * 6 - (nI j - nI j / 6 * 6)) * xO (G 1 (114 + j)) + (nI c / 6 - nI j / 6) * yO (G 1 (114 + j)) := by rw [(hdB j hj).1, (hdB j hj).2]; rfl
      rw [if_neg hn, h8, ← (hdB j hj).1, ← (hdB j hj).2]
      delta pSq pP pQ rm6
      simp only [if_neg c113_4]
    rw [← hp] at hM
    exact hret _ _ _ _ _ hP hD hS (⟨hM, hf⟩) dX5_addsBar_129

set_option maxHeartbeats 4000000 in
set_option maxRecDepth 100000 in
theorem m_lays0 (l : Launch) (E : NE) (ad : Nat → Nat) (st : NW) (b : Nat) (G : Nat → Nat → Int32) (hM : isR E ad st b sM G) (c : Nat) (hc : c < 36) (hdB : okB (G 0)) : nMv l yX5_lays wsX5_lays (nRm 4 94) E ad st [.ref (ad b), .ref (ad (b + 1 + 0)), .int (nI c)] (fun s1 => isR E ad s1 b sM (gu (gu G 12 (fun _ => LX (G 0) c)) 13 (fun _ => LY (G 0) c)) ∧ fr b st s1) := by
  refine nSv (cc := cX5_lays) (maxL := 5) (by decide) rfl (Nat.le_of_ble_eq_true rfl) ?_
  intro pg en s mi ar bw mth cd R Q A ls hx hb hml hown hts hRm hP hK hD hZ hA hl hret
  subst hRm
  have hown : s.vm.findClass RX5 = some mi.cls := hown
  have hS : va_S A s.heap s.heap [] := va_S.rf
  have hl : lv_has ls 5 [(0, .ref (ad b)), (1, .ref (ad (b + 1 + 0))), (2, .int (nI c))] := hl
  have hf : fr b st st := fr.rf
  have hinX5 : ∀ w ∈ wsX50, w ∈ wsX5_lays := by decide +kernel
  refine lv_aload_n hx hb dX5_lays_0 rfl (lv_at hl 0 rfl) ?_
  refine lv_iconst (v := 0) hx hb dX5_lays_1 (by decide) ?_
  refine rp (v := 0) (ty := .int) (T := TX5) (N := 14) (C := RX5) hx hb hts hinX5 tyX5 tyX5_ok nmX5 hown hK hP hD hS hM rfl 12 (by decide) (hts (.fieldLink RX5 47 "NeedleGridModel" "fx" "I") (by decide +kernel)) rfl rfl (by decide +kernel) rfl rfl dX5_lays_2 (fun s_1 H locs hM hf_2 hP hD hS => ?_)
  have hf := hf.tr hf_2
  refine lv_aload_n hx hb dX5_lays_5 rfl (lv_at hl 0 rfl) ?_
  refine lv_aload_n hx hb dX5_lays_6 rfl (lv_at hl 1 rfl) ?_
  refine lv_iconst (v := 0) hx hb dX5_lays_7 (by decide) ?_
  refine ra (j := 0) (n := 186) hx hb hK hP hM 0 rfl (by omega) (by decide) dX5_lays_8 ?_
  refine lv_ineg hx hb dX5_lays_9 ?_
  refine rp (v := -(G 0 0)) (ty := .int) (T := TX5) (N := 14) (C := RX5) hx hb hts hinX5 tyX5 tyX5_ok nmX5 hown hK hP hD hS hM rfl 13 (by decide) (hts (.fieldLink RX5 53 "NeedleGridModel" "fy" "I") (by decide +kernel)) rfl rfl (by decide +kernel) rfl rfl dX5_lays_10 (fun s_3 H locs hM hf_4 hP hD hS => ?_)
  have hf := hf.tr hf_4
  refine lv_aload_n hx hb dX5_lays_13 rfl (lv_at hl 0 rfl) ?_
  refine lv_aload_n hx hb dX5_lays_14 rfl (lv_at hl 1 rfl) ?_
  refine lv_iconst (v := 5) hx hb dX5_lays_15 (by decide) ?_
  refine ra (j := 5) (n := 186) hx hb hK hP hM 0 rfl (by omega) (by decide) dX5_lays_16 ?_
  refine lv_aload_n hx hb dX5_lays_17 rfl (lv_at hl 1 rfl) ?_
  refine lv_iconst (v := 1) hx hb dX5_lays_18 (by decide) ?_
  refine ra (j := 1) (n := 186) hx hb hK hP hM 0 rfl (by omega) (by decide) dX5_lays_19 ?_
  refine lv_aload_n hx hb dX5_lays_20 rfl (lv_at hl 1 rfl) ?_
  refine lv_iconst (v := 4) hx hb dX5_lays_21 (by decide) ?_
  refine ra (j := 4) (n := 186) hx hb hK hP hM 0 rfl (by omega) (by decide) dX5_lays_22 ?_
  refine lv_imul hx hb dX5_lays_23 ?_
  refine nVv (As := [.int (G 0 5), .int ((G 0 1) * (G 0 4))]) (rest := _) hx hb hml hown hts hP hK hD hZ hA hS ⟨Nat.zero_le _, Nat.zero_le _⟩ hM.1 rfl (m_adds l E ad s_3 b (gu (gu G 12 (fun _ => 0)) 13 (fun _ => -(G 0 0))) hM (G 0 5) ((G 0 1) * (G 0 4))) (cwV 2 hts gX5_lays_X5_adds rfl rfl rfl (by decide +kernel) ⟨Nat.le_of_ble_eq_true rfl, Nat.le_of_ble_eq_true rfl⟩) hl.1 rfl (Nat.le_of_ble_eq_true rfl) dX5_lays_24 (fun s_7 H locs hq hP hD hS => ?_)
  obtain ⟨hM, hf_6⟩ := hq
  have hf := hf.tr hf_6
  have hM : isR E ad s_7 b sM (gu (gu G 12 (fun _ => 0 + ((G 0 1) * (G 0 4)) * xO (G 0 5))) 13 (fun _ => (-(G 0 0)) + ((G 0 1) * (G 0 4)) * yO (G 0 5))) := hM.eq (all14 rfl rfl rfl rfl rfl rfl rfl rfl rfl rfl rfl rfl rfl rfl)
  refine lv_iconst (v := 0) hx hb dX5_lays_27 (by decide) ?_
  refine lv_istore_n (lv' := [(3, .int 0), (0, .ref (ad b)), (1, .ref (ad (b + 1 + 0))), (2, .int (nI c))]) hx hb dX5_lays_28 rfl hl (by decide) rfl (fun ls hl => ?_)
  have LP_8 : ∀ (k9 i : Nat), i ≤ 36 → 36 - i < k9 → ∀ (sL_9 : NW) (H : Heap) (locs : List Loc) (ls : Array Slot), isR E ad sL_9 b sM (gu (gu G 12 (fun _ => mX (G 0) c i)) 13 (fun _ => mY (G 0) c i)) → fr b st sL_9 → nP E ad sL_9 H → nD A ad sL_9 → va_S A s.heap H locs → lv_has ls 5 [(3, .int (nI i)), (0, .ref (ad b)), (1, .ref (ad (b + 1 + 0))), (2, .int (nI c))] → W pg l en (nRm 4 94) s mi ar bw mth cd H locs 0 0 Q (F0 mi 29 ls []) := by
    intro k9
    induction k9 with
    | zero => intro i _ h9; exact absurd h9 (Nat.not_lt_zero _)
    | succ k9 ih29 =>
      intro i hi hk9 sL_9 H locs ls hM hf hP hD hS hl
      refine lv_iload_n hx hb dX5_lays_29 rfl (lv_at hl 0 rfl) ?_
      refine lv_bipush (v := 36) hx hb dX5_lays_30 (by decide) ?_
      refine lv_icmp_ge (tgt := 113) hx hb dX5_lays_32 (by decide) (fun c32_9 => ?_) (fun c32_9 => ?_)
      · have h36 : 36 ≤ i := (nI_geL (n := 36) rfl (by decide) (by omega)).mp c32_9
        obtain rfl : i = 36 := by omega
        exact hret _ _ _ _ _ hP hD hS (⟨hM.eq (all14 rfl rfl rfl rfl rfl rfl rfl rfl rfl rfl rfl rfl rfl rfl), hf⟩) dX5_lays_113
      · have hlt : i < 36 := by have := mt (nI_geL (n := 36) (i := i) rfl (by decide) (by omega)).mpr c32_9; omega
        refine lv_aload_n hx hb dX5_lays_35 rfl (lv_at hl 2 rfl) ?_
        refine lv_sipush (v := 150) hx hb dX5_lays_36 (by decide) ?_
        refine lv_iload_n hx hb dX5_lays_39 rfl (lv_at hl 0 rfl) ?_
        refine lv_iadd hx hb dX5_lays_40 ?_
        rw [show 150 + nI i = nI (150 + i) from nI_add 150 i]
        refine ra (j := (150 + i)) (n := 186) hx hb hK hP hM 0 rfl (by omega) (by decide) dX5_lays_41 ?_
        refine lv_if_le (tgt := 57) hx hb dX5_lays_42 (by decide) (fun c42_10 => ?_) (fun c42_10 => ?_)
        · have c42_10 : (G 0 (150 + i)) ≤ 0 := c42_10
          refine lv_iload_n hx hb dX5_lays_57 rfl (lv_at hl 0 rfl) ?_
          refine lv_bipush (v := 6) hx hb dX5_lays_58 (by decide) ?_
          refine lv_irem hx hb dX5_lays_60 (by decide) ?_
          refine lv_iload_n hx hb dX5_lays_61 rfl (lv_at hl 3 rfl) ?_
          refine lv_bipush (v := 6) hx hb dX5_lays_62 (by decide) ?_
          refine lv_irem hx hb dX5_lays_64 (by decide) ?_
          refine lv_isub hx hb dX5_lays_65 ?_
          refine nS_i (As := [.int (((nI i) - (nI i) / 6 * 6) - ((nI c) - (nI c) / 6 * 6))]) (rest := _) hx hb hml hown hts hP hK hD hZ hA hS ⟨Nat.zero_le _, Nat.zero_le _⟩ (m_size l E ad sL_9 (((nI i) - (nI i) / 6 * 6) - ((nI c) - (nI c) / 6 * 6))) (va_cwS 1 hts gX5_lays_X5_size rfl rfl rfl (by decide +kernel) ⟨Nat.le_of_ble_eq_true rfl, Nat.le_of_ble_eq_true rfl⟩) hl.1 rfl (Nat.le_of_ble_eq_true rfl) dX5_lays_66 (fun r_12 s_13 H locs hq hP hD hS => ?_)
          obtain ⟨rfl, rfl⟩ := hq
          refine lv_iload_n hx hb dX5_lays_69 rfl (lv_at hl 0 rfl) ?_
          refine lv_bipush (v := 6) hx hb dX5_lays_70 (by decide) ?_
          refine lv_idiv hx hb dX5_lays_72 (by decide) ?_
          refine lv_iload_n hx hb dX5_lays_73 rfl (lv_at hl 3 rfl) ?_
          refine lv_bipush (v := 6) hx hb dX5_lays_74 (by decide) ?_
          refine lv_idiv hx hb dX5_lays_76 (by decide) ?_
          refine lv_isub hx hb dX5_lays_77 ?_
          refine nS_i (As := [.int (((nI i) / 6) - ((nI c) / 6))]) (rest := _) hx hb hml hown hts hP hK hD hZ hA hS ⟨Nat.zero_le _, Nat.zero_le _⟩ (m_size l E ad sL_9 (((nI i) / 6) - ((nI c) / 6))) (va_cwS 1 hts gX5_lays_X5_size rfl rfl rfl (by decide +kernel) ⟨Nat.le_of_ble_eq_true rfl, Nat.le_of_ble_eq_true rfl⟩) hl.1 rfl (Nat.le_of_ble_eq_true rfl) dX5_lays_78 (fun r_14 s_15 H locs hq hP hD hS => ?_)
          obtain ⟨rfl, rfl⟩ := hq
          refine lv_iadd hx hb dX5_lays_81 ?_
          refine lv_topi (fun x4_82 ex4_82 => ?_)
          have ex4_82 : x4_82 = (ab (((nI i) - (nI i) / 6 * 6) - ((nI c) - (nI c) / 6 * 6))) + (ab (((nI i) / 6) - ((nI c) / 6))) := ex4_82
          refine lv_istore (lv' := [(4, .int x4_82), (3, .int (nI i)), (0, .ref (ad b)), (1, .ref (ad (b + 1 + 0))), (2, .int (nI c))]) hx hb dX5_lays_82 hl (by decide) rfl (fun ls hl => ?_)
          refine lv_aload_n hx hb dX5_lays_84 rfl (lv_at hl 2 rfl) ?_
          refine lv_aload_n hx hb dX5_lays_85 rfl (lv_at hl 3 rfl) ?_
          refine lv_bipush (v := 6) hx hb dX5_lays_86 (by decide) ?_
          refine lv_iload_n hx hb dX5_lays_88 rfl (lv_at hl 1 rfl) ?_
          refine lv_iadd hx hb dX5_lays_89 ?_
          rw [show 6 + nI i = nI (6 + i) from nI_add 6 i]
          refine ra (j := (6 + i)) (n := 186) hx hb hK hP hM 0 rfl (by omega) (by decide) dX5_lays_90 ?_
          refine lv_iload hx hb dX5_lays_91 (lv_at hl 0 rfl) ?_
          refine lv_iconst (v := 1) hx hb dX5_lays_93 (by decide) ?_
          refine lv_icmp_ne (tgt := 103) hx hb dX5_lays_94 (by decide) (fun c94_15 => ?_) (fun c94_15 => ?_)
          · have hfar : ¬ farI (nI i) (nI c) = 1 := by rw [ex4_82] at c94_15; exact c94_15
            refine lv_iconst (v := 0) hx hb dX5_lays_103 (by decide) ?_
            refine nVv (As := [.int (G 0 (6 + i)), .int 0]) (rest := _) hx hb hml hown hts hP hK hD hZ hA hS ⟨Nat.zero_le _, Nat.zero_le _⟩ hM.1 rfl (m_adds l E ad sL_9 b (gu (gu G 12 (fun _ => mX (G 0) c i)) 13 (fun _ => mY (G 0) c i)) hM (G 0 (6 + i)) 0) (cwV 2 hts gX5_lays_X5_adds rfl rfl rfl (by decide +kernel) ⟨Nat.le_of_ble_eq_true rfl, Nat.le_of_ble_eq_true rfl⟩) hl.1 rfl (Nat.le_of_ble_eq_true rfl) dX5_lays_104 (fun s_19 H locs hq hP hD hS => ?_)
            obtain ⟨hM, hf_18⟩ := hq
            have hf := hf.tr hf_18
            have hM : isR E ad s_19 b sM (gu (gu G 12 (fun _ => (mX (G 0) c i) + 0 * xO (G 0 (6 + i)))) 13 (fun _ => (mY (G 0) c i) + 0 * yO (G 0 (6 + i)))) := hM.eq (all14 rfl rfl rfl rfl rfl rfl rfl rfl rfl rfl rfl rfl rfl rfl)
            refine lv_iinc (v := nI (i + 1)) (lv' := [(3, .int (nI (i + 1))), (4, .int x4_82), (0, .ref (ad b)), (1, .ref (ad (b + 1 + 0))), (2, .int (nI c))]) hx hb dX5_lays_107 hl (k := 1) rfl (nI_1 _) (by decide) rfl (fun ls hl => ?_)
            refine lv_goto (tgt := 29) hx hb dX5_lays_110 (by decide) ?_
            exact ih29 (i + 1) (by omega) (by omega) _ _ _ _ (hM.eq (all14 rfl rfl rfl rfl rfl rfl rfl rfl rfl rfl rfl rfl (funext fun _ => mX_f (S := (G 0)) (c := c) (i := i) (mBX_0 c42_10) (mNX_0 hfar)) (funext fun _ => mY_f (S := (G 0)) (c := c) (i := i) (mBY_0 c42_10) (mNY_0 hfar)))) hf hP hD hS (lv_sub hl [0, 2, 3, 4] rfl)
          · have hfar : farI (nI i) (nI c) = 1 := by rw [ex4_82] at c94_15; exact c94_15
            refine lv_aload_n hx hb dX5_lays_97 rfl (lv_at hl 3 rfl) ?_
            refine lv_iconst (v := 2) hx hb dX5_lays_98 (by decide) ?_
            refine ra (j := 2) (n := 186) hx hb hK hP hM 0 rfl (by omega) (by decide) dX5_lays_99 ?_
            refine lv_goto (tgt := 104) hx hb dX5_lays_100 (by decide) ?_
            refine nVv (As := [.int (G 0 (6 + i)), .int (G 0 2)]) (rest := _) hx hb hml hown hts hP hK hD hZ hA hS ⟨Nat.zero_le _, Nat.zero_le _⟩ hM.1 rfl (m_adds l E ad sL_9 b (gu (gu G 12 (fun _ => mX (G 0) c i)) 13 (fun _ => mY (G 0) c i)) hM (G 0 (6 + i)) (G 0 2)) (cwV 2 hts gX5_lays_X5_adds rfl rfl rfl (by decide +kernel) ⟨Nat.le_of_ble_eq_true rfl, Nat.le_of_ble_eq_true rfl⟩) hl.1 rfl (Nat.le_of_ble_eq_true rfl) dX5_lays_104 (fun s_23 H locs hq hP hD hS => ?_)
            obtain ⟨hM, hf_22⟩ := hq
            have hf := hf.tr hf_22
            have hM : isR E ad s_23 b sM (gu (gu G 12 (fun _ => (mX (G 0) c i) + (G 0 2) * xO (G 0 (6 + i)))) 13 (fun _ => (mY (G 0) c i) + (G 0 2) * yO (G 0 (6 + i)))) := hM.eq (all14 rfl rfl rfl rfl rfl rfl rfl rfl rfl rfl rfl rfl rfl rfl)
            refine lv_iinc (v := nI (i + 1)) (lv' := [(3, .int (nI (i + 1))), (4, .int x4_82), (0, .ref (ad b)), (1, .ref (ad (b + 1 + 0))), (2, .int (nI c))]) hx hb dX5_lays_107 hl (k := 1) rfl (nI_1 _) (by decide) rfl (fun ls hl => ?_)
            refine lv_goto (tgt := 29) hx hb dX5_lays_110 (by decide) ?_
            exact ih29 (i + 1) (by omega) (by omega) _ _ _ _ (hM.eq (all14 rfl rfl rfl rfl rfl rfl rfl rfl rfl rfl rfl rfl (funext fun _ => mX_f (S := (G 0)) (c := c) (i := i) (mBX_0 c42_10) (mNX_1 hfar)) (funext fun _ => mY_f (S := (G 0)) (c := c) (i := i) (mBY_0 c42_10) (mNY_1 hfar)))) hf hP hD hS (lv_sub hl [0, 2, 3, 4] rfl)
        · have c42_10 : ¬ (G 0 (150 + i)) ≤ 0 := c42_10
          refine lv_iload_n hx hb dX5_lays_45 rfl (lv_at hl 0 rfl) ?_
          refine lv_iload_n hx hb dX5_lays_46 rfl (lv_at hl 3 rfl) ?_
          refine lv_icmp_eq (tgt := 57) hx hb dX5_lays_47 (by decide) (fun c47_24 => ?_) (fun c47_24 => ?_)
          · have hic : i = c := (nI_eq (by omega) (by omega)).mp c47_24
            refine lv_iload_n hx hb dX5_lays_57 rfl (lv_at hl 0 rfl) ?_
            refine lv_bipush (v := 6) hx hb dX5_lays_58 (by decide) ?_
            refine lv_irem hx hb dX5_lays_60 (by decide) ?_
            refine lv_iload_n hx hb dX5_lays_61 rfl (lv_at hl 3 rfl) ?_
            refine lv_bipush (v := 6) hx hb dX5_lays_62 (by decide) ?_
            refine lv_irem hx hb dX5_lays_64 (by decide) ?_
            refine lv_isub hx hb dX5_lays_65 ?_
            refine nS_i (As := [.int (((nI i) - (nI i) / 6 * 6) - ((nI c) - (nI c) / 6 * 6))]) (rest := _) hx hb hml hown hts hP hK hD hZ hA hS ⟨Nat.zero_le _, Nat.zero_le _⟩ (m_size l E ad sL_9 (((nI i) - (nI i) / 6 * 6) - ((nI c) - (nI c) / 6 * 6))) (va_cwS 1 hts gX5_lays_X5_size rfl rfl rfl (by decide +kernel) ⟨Nat.le_of_ble_eq_true rfl, Nat.le_of_ble_eq_true rfl⟩) hl.1 rfl (Nat.le_of_ble_eq_true rfl) dX5_lays_66 (fun r_26 s_27 H locs hq hP hD hS => ?_)
            obtain ⟨rfl, rfl⟩ := hq
            refine lv_iload_n hx hb dX5_lays_69 rfl (lv_at hl 0 rfl) ?_
            refine lv_bipush (v := 6) hx hb dX5_lays_70 (by decide) ?_
            refine lv_idiv hx hb dX5_lays_72 (by decide) ?_
            refine lv_iload_n hx hb dX5_lays_73 rfl (lv_at hl 3 rfl) ?_
            refine lv_bipush (v := 6) hx hb dX5_lays_74 (by decide) ?_
            refine lv_idiv hx hb dX5_lays_76 (by decide) ?_
            refine lv_isub hx hb dX5_lays_77 ?_
            refine nS_i (As := [.int (((nI i) / 6) - ((nI c) / 6))]) (rest := _) hx hb hml hown hts hP hK hD hZ hA hS ⟨Nat.zero_le _, Nat.zero_le _⟩ (m_size l E ad sL_9 (((nI i) / 6) - ((nI c) / 6))) (va_cwS 1 hts gX5_lays_X5_size rfl rfl rfl (by decide +kernel) ⟨Nat.le_of_ble_eq_true rfl, Nat.le_of_ble_eq_true rfl⟩) hl.1 rfl (Nat.le_of_ble_eq_true rfl) dX5_lays_78 (fun r_28 s_29 H locs hq hP hD hS => ?_)
            obtain ⟨rfl, rfl⟩ := hq
            refine lv_iadd hx hb dX5_lays_81 ?_
            refine lv_topi (fun x4_82 ex4_82 => ?_)
            have ex4_82 : x4_82 = (ab (((nI i) - (nI i) / 6 * 6) - ((nI c) - (nI c) / 6 * 6))) + (ab (((nI i) / 6) - ((nI c) / 6))) := ex4_82
            refine lv_istore (lv' := [(4, .int x4_82), (3, .int (nI i)), (0, .ref (ad b)), (1, .ref (ad (b + 1 + 0))), (2, .int (nI c))]) hx hb dX5_lays_82 hl (by decide) rfl (fun ls hl => ?_)
            refine lv_aload_n hx hb dX5_lays_84 rfl (lv_at hl 2 rfl) ?_
            refine lv_aload_n hx hb dX5_lays_85 rfl (lv_at hl 3 rfl) ?_
            refine lv_bipush (v := 6) hx hb dX5_lays_86 (by decide) ?_
            refine lv_iload_n hx hb dX5_lays_88 rfl (lv_at hl 1 rfl) ?_
            refine lv_iadd hx hb dX5_lays_89 ?_
            rw [show 6 + nI i = nI (6 + i) from nI_add 6 i]
            refine ra (j := (6 + i)) (n := 186) hx hb hK hP hM 0 rfl (by omega) (by decide) dX5_lays_90 ?_
            refine lv_iload hx hb dX5_lays_91 (lv_at hl 0 rfl) ?_
            refine lv_iconst (v := 1) hx hb dX5_lays_93 (by decide) ?_
            refine lv_icmp_ne (tgt := 103) hx hb dX5_lays_94 (by decide) (fun c94_29 => ?_) (fun c94_29 => ?_)
            · have hfar : ¬ farI (nI i) (nI c) = 1 := by rw [ex4_82] at c94_29; exact c94_29
              refine lv_iconst (v := 0) hx hb dX5_lays_103 (by decide) ?_
              refine nVv (As := [.int (G 0 (6 + i)), .int 0]) (rest := _) hx hb hml hown hts hP hK hD hZ hA hS ⟨Nat.zero_le _, Nat.zero_le _⟩ hM.1 rfl (m_adds l E ad sL_9 b (gu (gu G 12 (fun _ => mX (G 0) c i)) 13 (fun _ => mY (G 0) c i)) hM (G 0 (6 + i)) 0) (cwV 2 hts gX5_lays_X5_adds rfl rfl rfl (by decide +kernel) ⟨Nat.le_of_ble_eq_true rfl, Nat.le_of_ble_eq_true rfl⟩) hl.1 rfl (Nat.le_of_ble_eq_true rfl) dX5_lays_104 (fun s_33 H locs hq hP hD hS => ?_)
              obtain ⟨hM, hf_32⟩ := hq
              have hf := hf.tr hf_32
              have hM : isR E ad s_33 b sM (gu (gu G 12 (fun _ => (mX (G 0) c i) + 0 * xO (G 0 (6 + i)))) 13 (fun _ => (mY (G 0) c i) + 0 * yO (G 0 (6 + i)))) := hM.eq (all14 rfl rfl rfl rfl rfl rfl rfl rfl rfl rfl rfl rfl rfl rfl)
              refine lv_iinc (v := nI (i + 1)) (lv' := [(3, .int (nI (i + 1))), (4, .int x4_82), (0, .ref (ad b)), (1, .ref (ad (b + 1 + 0))), (2, .int (nI c))]) hx hb dX5_lays_107 hl (k := 1) rfl (nI_1 _) (by decide) rfl (fun ls hl => ?_)
              refine lv_goto (tgt := 29) hx hb dX5_lays_110 (by decide) ?_
              exact ih29 (i + 1) (by omega) (by omega) _ _ _ _ (hM.eq (all14 rfl rfl rfl rfl rfl rfl rfl rfl rfl rfl rfl rfl (funext fun _ => mX_f (S := (G 0)) (c := c) (i := i) (mBX_s hic) (mNX_0 hfar)) (funext fun _ => mY_f (S := (G 0)) (c := c) (i := i) (mBY_s hic) (mNY_0 hfar)))) hf hP hD hS (lv_sub hl [0, 2, 3, 4] rfl)
            · have hfar : farI (nI i) (nI c) = 1 := by rw [ex4_82] at c94_29; exact c94_29
              refine lv_aload_n hx hb dX5_lays_97 rfl (lv_at hl 3 rfl) ?_
              refine lv_iconst (v := 2) hx hb dX5_lays_98 (by decide) ?_
              refine ra (j := 2) (n := 186) hx hb hK hP hM 0 rfl (by omega) (by decide) dX5_lays_99 ?_
              refine lv_goto (tgt := 104) hx hb dX5_lays_100 (by decide) ?_
              refine nVv (As := [.int (G 0 (6 + i)), .int (G 0 2)]) (rest := _) hx hb hml hown hts hP hK hD hZ hA hS ⟨Nat.zero_le _, Nat.zero_le _⟩ hM.1 rfl (m_adds l E ad sL_9 b (gu (gu G 12 (fun _ => mX (G 0) c i)) 13 (fun _ => mY (G 0) c i)) hM (G 0 (6 + i)) (G 0 2)) (cwV 2 hts gX5_lays_X5_adds rfl rfl rfl (by decide +kernel) ⟨Nat.le_of_ble_eq_true rfl, Nat.le_of_ble_eq_true rfl⟩) hl.1 rfl (Nat.le_of_ble_eq_true rfl) dX5_lays_104 (fun s_37 H locs hq hP hD hS => ?_)
              obtain ⟨hM, hf_36⟩ := hq
              have hf := hf.tr hf_36
              have hM : isR E ad s_37 b sM (gu (gu G 12 (fun _ => (mX (G 0) c i) + (G 0 2) * xO (G 0 (6 + i)))) 13 (fun _ => (mY (G 0) c i) + (G 0 2) * yO (G 0 (6 + i)))) := hM.eq (all14 rfl rfl rfl rfl rfl rfl rfl rfl rfl rfl rfl rfl rfl rfl)
              refine lv_iinc (v := nI (i + 1)) (lv' := [(3, .int (nI (i + 1))), (4, .int x4_82), (0, .ref (ad b)), (1, .ref (ad (b + 1 + 0))), (2, .int (nI c))]) hx hb dX5_lays_107 hl (k := 1) rfl (nI_1 _) (by decide) rfl (fun ls hl => ?_)
              refine lv_goto (tgt := 29) hx hb dX5_lays_110 (by decide) ?_
              exact ih29 (i + 1) (by omega) (by omega) _ _ _ _ (hM.eq (all14 rfl rfl rfl rfl rfl rfl rfl rfl rfl rfl rfl rfl (funext fun _ => mX_f (S := (G 0)) (c := c) (i := i) (mBX_s hic) (mNX_1 hfar)) (funext fun _ => mY_f (S := (G 0)) (c := c) (i := i) (mBY_s hic) (mNY_1 hfar)))) hf hP hD hS (lv_sub hl [0, 2, 3, 4] rfl)
          · have hic : ¬ i = c := fun h9 => c47_24 (by rw [h9])
            refine lv_aload_n hx hb dX5_lays_50 rfl (lv_at hl 1 rfl) ?_
            refine lv_aload_n hx hb dX5_lays_51 rfl (lv_at hl 2 rfl) ?_
            refine lv_iload_n hx hb dX5_lays_52 rfl (lv_at hl 0 rfl) ?_
            refine lv_iload_n hx hb dX5_lays_53 rfl (lv_at hl 3 rfl) ?_
            refine nVv (As := [.ref (ad (b + 1 + 0)), .int (nI i), .int (nI c)]) (rest := _) hx hb hml hown hts hP hK hD hZ hA hS ⟨Nat.zero_le _, Nat.zero_le _⟩ hM.1 rfl (m_addsBar0 l E ad sL_9 b (gu (gu G 12 (fun _ => mX (G 0) c i)) 13 (fun _ => mY (G 0) c i)) hM i c (by omega) (by omega) hdB (pSq0 (by omega) (by omega) hic)) (cwV 3 hts gX5_lays_X5_addsBar rfl rfl rfl (by decide +kernel) ⟨Nat.le_of_ble_eq_true rfl, Nat.le_of_ble_eq_true rfl⟩) hl.1 rfl (Nat.le_of_ble_eq_true rfl) dX5_lays_54 (fun s_41 H locs hq hP hD hS => ?_)
            obtain ⟨hM, hf_40⟩ := hq
            have hf := hf.tr hf_40
            have hM : isR E ad s_41 b sM (gu (gu G 12 (fun _ => (mX (G 0) c i) + pull (nI i) (G 0 (114 + i)) (G 0 (150 + i)) (nI c) * xO (G 0 (114 + i)))) 13 (fun _ => (mY (G 0) c i) + pull (nI i) (G 0 (114 + i)) (G 0 (150 + i)) (nI c) * yO (G 0 (114 + i)))) := hM.eq (all14 rfl rfl rfl rfl rfl rfl rfl rfl rfl rfl rfl rfl rfl rfl)
            refine lv_iload_n hx hb dX5_lays_57 rfl (lv_at hl 0 rfl) ?_
            refine lv_bipush (v := 6) hx hb dX5_lays_58 (by decide) ?_
            refine lv_irem hx hb dX5_lays_60 (by decide) ?_
            refine lv_iload_n hx hb dX5_lays_61 rfl (lv_at hl 3 rfl) ?_
            refine lv_bipush (v := 6) hx hb dX5_lays_62 (by decide) ?_
            refine lv_irem hx hb dX5_lays_64 (by decide) ?_
            refine lv_isub hx hb dX5_lays_65 ?_
            refine nS_i (As := [.int (((nI i) - (nI i) / 6 * 6) - ((nI c) - (nI c) / 6 * 6))]) (rest := _) hx hb hml hown hts hP hK hD hZ hA hS ⟨Nat.zero_le _, Nat.zero_le _⟩ (m_size l E ad s_41 (((nI i) - (nI i) / 6 * 6) - ((nI c) - (nI c) / 6 * 6))) (va_cwS 1 hts gX5_lays_X5_size rfl rfl rfl (by decide +kernel) ⟨Nat.le_of_ble_eq_true rfl, Nat.le_of_ble_eq_true rfl⟩) hl.1 rfl (Nat.le_of_ble_eq_true rfl) dX5_lays_66 (fun r_42 s_43 H locs hq hP hD hS => ?_)
            obtain ⟨rfl, rfl⟩ := hq
            refine lv_iload_n hx hb dX5_lays_69 rfl (lv_at hl 0 rfl) ?_
            refine lv_bipush (v := 6) hx hb dX5_lays_70 (by decide) ?_
            refine lv_idiv hx hb dX5_lays_72 (by decide) ?_
            refine lv_iload_n hx hb dX5_lays_73 rfl (lv_at hl 3 rfl) ?_
            refine lv_bipush (v := 6) hx hb dX5_lays_74 (by decide) ?_
            refine lv_idiv hx hb dX5_lays_76 (by decide) ?_
            refine lv_isub hx hb dX5_lays_77 ?_
            refine nS_i (As := [.int (((nI i) / 6) - ((nI c) / 6))]) (rest := _) hx hb hml hown hts hP hK hD hZ hA hS ⟨Nat.zero_le _, Nat.zero_le _⟩ (m_size l E ad s_41 (((nI i) / 6) - ((nI c) / 6))) (va_cwS 1 hts gX5_lays_X5_size rfl rfl rfl (by decide +kernel) ⟨Nat.le_of_ble_eq_true rfl, Nat.le_of_ble_eq_true rfl⟩) hl.1 rfl (Nat.le_of_ble_eq_true rfl) dX5_lays_78 (fun r_44 s_45 H locs hq hP hD hS => ?_)
            obtain ⟨rfl, rfl⟩ := hq
            refine lv_iadd hx hb dX5_lays_81 ?_
            refine lv_topi (fun x4_82 ex4_82 => ?_)
            have ex4_82 : x4_82 = (ab (((nI i) - (nI i) / 6 * 6) - ((nI c) - (nI c) / 6 * 6))) + (ab (((nI i) / 6) - ((nI c) / 6))) := ex4_82
            refine lv_istore (lv' := [(4, .int x4_82), (3, .int (nI i)), (0, .ref (ad b)), (1, .ref (ad (b + 1 + 0))), (2, .int (nI c))]) hx hb dX5_lays_82 hl (by decide) rfl (fun ls hl => ?_)
            refine lv_aload_n hx hb dX5_lays_84 rfl (lv_at hl 2 rfl) ?_
            refine lv_aload_n hx hb dX5_lays_85 rfl (lv_at hl 3 rfl) ?_
            refine lv_bipush (v := 6) hx hb dX5_lays_86 (by decide) ?_
            refine lv_iload_n hx hb dX5_lays_88 rfl (lv_at hl 1 rfl) ?_
            refine lv_iadd hx hb dX5_lays_89 ?_
            rw [show 6 + nI i = nI (6 + i) from nI_add 6 i]
            refine ra (j := (6 + i)) (n := 186) hx hb hK hP hM 0 rfl (by omega) (by decide) dX5_lays_90 ?_
            refine lv_iload hx hb dX5_lays_91 (lv_at hl 0 rfl) ?_
            refine lv_iconst (v := 1) hx hb dX5_lays_93 (by decide) ?_
            refine lv_icmp_ne (tgt := 103) hx hb dX5_lays_94 (by decide) (fun c94_45 => ?_) (fun c94_45 => ?_)
            · have hfar : ¬ farI (nI i) (nI c) = 1 := by rw [ex4_82] at c94_45; exact c94_45
              refine lv_iconst (v := 0) hx hb dX5_lays_103 (by decide) ?_
              refine nVv (As := [.int (G 0 (6 + i)), .int 0]) (rest := _) hx hb hml hown hts hP hK hD hZ hA hS ⟨Nat.zero_le _, Nat.zero_le _⟩ hM.1 rfl (m_adds l E ad s_41 b (gu (gu G 12 (fun _ => (mX (G 0) c i) + pull (nI i) (G 0 (114 + i)) (G 0 (150 + i)) (nI c) * xO (G 0 (114 + i)))) 13 (fun _ => (mY (G 0) c i) + pull (nI i) (G 0 (114 + i)) (G 0 (150 + i)) (nI c) * yO (G 0 (114 + i)))) hM (G 0 (6 + i)) 0) (cwV 2 hts gX5_lays_X5_adds rfl rfl rfl (by decide +kernel) ⟨Nat.le_of_ble_eq_true rfl, Nat.le_of_ble_eq_true rfl⟩) hl.1 rfl (Nat.le_of_ble_eq_true rfl) dX5_lays_104 (fun s_49 H locs hq hP hD hS => ?_)
              obtain ⟨hM, hf_48⟩ := hq
              have hf := hf.tr hf_48
              have hM : isR E ad s_49 b sM (gu (gu G 12 (fun _ => ((mX (G 0) c i) + pull (nI i) (G 0 (114 + i)) (G 0 (150 + i)) (nI c) * xO (G 0 (114 + i))) + 0 * xO (G 0 (6 + i)))) 13 (fun _ => ((mY (G 0) c i) + pull (nI i) (G 0 (114 + i)) (G 0 (150 + i)) (nI c) * yO (G 0 (114 + i))) + 0 * yO (G 0 (6 + i)))) := hM.eq (all14 rfl rfl rfl rfl rfl rfl rfl rfl rfl rfl rfl rfl rfl rfl)
              refine lv_iinc (v := nI (i + 1)) (lv' := [(3, .int (nI (i + 1))), (4, .int x4_82), (0, .ref (ad b)), (1, .ref (ad (b + 1 + 0))), (2, .int (nI c))]) hx hb dX5_lays_107 hl (k := 1) rfl (nI_1 _) (by decide) rfl (fun ls hl => ?_)
              refine lv_goto (tgt := 29) hx hb dX5_lays_110 (by decide) ?_
              exact ih29 (i + 1) (by omega) (by omega) _ _ _ _ (hM.eq (all14 rfl rfl rfl rfl rfl rfl rfl rfl rfl rfl rfl rfl (funext fun _ => mX_t (S := (G 0)) (c := c) (i := i) (mBX_b c42_10 hic) (mNX_0 hfar)) (funext fun _ => mY_t (S := (G 0)) (c := c) (i := i) (mBY_b c42_10 hic) (mNY_0 hfar)))) hf hP hD hS (lv_sub hl [0, 2, 3, 4] rfl)
            · have hfar : farI (nI i) (nI c) = 1 := by rw [ex4_82] at c94_45; exact c94_45
              refine lv_aload_n hx hb dX5_lays_97 rfl (lv_at hl 3 rfl) ?_
              refine lv_iconst (v := 2) hx hb dX5_lays_98 (by decide) ?_
              refine ra (j := 2) (n := 186) hx hb hK hP hM 0 rfl (by omega) (by decide) dX5_lays_99 ?_
              refine lv_goto (tgt := 104) hx hb dX5_lays_100 (by decide) ?_
              refine nVv (As := [.int (G 0 (6 + i)), .int (G 0 2)]) (rest := _) hx hb hml hown hts hP hK hD hZ hA hS ⟨Nat.zero_le _, Nat.zero_le _⟩ hM.1 rfl (m_adds l E ad s_41 b (gu (gu G 12 (fun _ => (mX (G 0) c i) + pull (nI i) (G 0 (114 + i)) (G 0 (150 + i)) (nI c) * xO (G 0 (114 + i)))) 13 (fun _ => (mY (G 0) c i) + pull (nI i) (G 0 (114 + i)) (G 0 (150 + i)) (nI c) * yO (G 0 (114 + i)))) hM (G 0 (6 + i)) (G 0 2)) (cwV 2 hts gX5_lays_X5_adds rfl rfl rfl (by decide +kernel) ⟨Nat.le_of_ble_eq_true rfl, Nat.le_of_ble_eq_true rfl⟩) hl.1 rfl (Nat.le_of_ble_eq_true rfl) dX5_lays_104 (fun s_53 H locs hq hP hD hS => ?_)
              obtain ⟨hM, hf_52⟩ := hq
              have hf := hf.tr hf_52
              have hM : isR E ad s_53 b sM (gu (gu G 12 (fun _ => ((mX (G 0) c i) + pull (nI i) (G 0 (114 + i)) (G 0 (150 + i)) (nI c) * xO (G 0 (114 + i))) + (G 0 2) * xO (G 0 (6 + i)))) 13 (fun _ => ((mY (G 0) c i) + pull (nI i) (G 0 (114 + i)) (G 0 (150 + i)) (nI c) * yO (G 0 (114 + i))) + (G 0 2) * yO (G 0 (6 + i)))) := hM.eq (all14 rfl rfl rfl rfl rfl rfl rfl rfl rfl rfl rfl rfl rfl rfl)
              refine lv_iinc (v := nI (i + 1)) (lv' := [(3, .int (nI (i + 1))), (4, .int x4_82), (0, .ref (ad b)), (1, .ref (ad (b + 1 + 0))), (2, .int (nI c))]) hx hb dX5_lays_107 hl (k := 1) rfl (nI_1 _) (by decide) rfl (fun ls hl => ?_)
              refine lv_goto (tgt := 29) hx hb dX5_lays_110 (by decide) ?_
              exact ih29 (i + 1) (by omega) (by omega) _ _ _ _ (hM.eq (all14 rfl rfl rfl rfl rfl rfl rfl rfl rfl rfl rfl rfl (funext fun _ => mX_t (S := (G 0)) (c := c) (i := i) (mBX_b c42_10 hic) (mNX_1 hfar)) (funext fun _ => mY_t (S := (G 0)) (c := c) (i := i) (mBY_b c42_10 hic) (mNY_1 hfar)))) hf hP hD hS (lv_sub hl [0, 2, 3, 4] rfl)
  exact LP_8 (36 + 1) 0 (Nat.zero_le _) (by omega) _ _ _ _ (hM.eq (all14 rfl rfl rfl rfl rfl rfl rfl rfl rfl rfl rfl rfl rfl rfl)) hf hP hD hS (lv_sub hl [0, 1, 2, 3] rfl)

set_option maxHeartbeats 4000000 in
set_option maxRecDepth 100000 in
theorem m_lays1 (l : Launch) (E : NE) (ad : Nat → Nat) (st : NW) (b : Nat) (G : Nat → Nat → Int32) (hM : isR E ad st b sM G) (c : Nat) (hc : c < 36) (hdB : okB (G 1)) : nMv l yX5_lays wsX5_lays (nRm 4 94) E ad st [.ref (ad b), .ref (ad (b + 1 + 1)), .int (nI c)] (fun s1 => isR E ad s1 b sM (gu (gu G 12 (fun _ => LX (G 1) c)) 13 (fun _ => LY (G 1) c)) ∧ fr b st s1) := by
  refine nSv (cc := cX5_lays) (maxL := 5) (by decide) rfl (Nat.le_of_ble_eq_true rfl) ?_
  intro pg en s mi ar bw mth cd R Q A ls hx hb hml hown hts hRm hP hK hD hZ hA hl hret
  subst hRm
  have hown : s.vm.findClass RX5 = some mi.cls := hown
  have hS : va_S A s.heap s.heap [] := va_S.rf
  have hl : lv_has ls 5 [(0, .ref (ad b)), (1, .ref (ad (b + 1 + 1))), (2, .int (nI c))] := hl
  have hf : fr b st st := fr.rf
  have hinX5 : ∀ w ∈ wsX50, w ∈ wsX5_lays := by decide +kernel
  refine lv_aload_n hx hb dX5_lays_0 rfl (lv_at hl 0 rfl) ?_
  refine lv_iconst (v := 0) hx hb dX5_lays_1 (by decide) ?_
  refine rp (v := 0) (ty := .int) (T := TX5) (N := 14) (C := RX5) hx hb hts hinX5 tyX5 tyX5_ok nmX5 hown hK hP hD hS hM rfl 12 (by decide) (hts (.fieldLink RX5 47 "NeedleGridModel" "fx" "I") (by decide +kernel)) rfl rfl (by decide +kernel) rfl rfl dX5_lays_2 (fun s_1 H locs hM hf_2 hP hD hS => ?_)
  have hf := hf.tr hf_2
  refine lv_aload_n hx hb dX5_lays_5 rfl (lv_at hl 0 rfl) ?_
  refine lv_aload_n hx hb dX5_lays_6 rfl (lv_at hl 1 rfl) ?_
  refine lv_iconst (v := 0) hx hb dX5_lays_7 (by decide) ?_
  refine ra (j := 0) (n := 186) hx hb hK hP hM 1 rfl (by omega) (by decide) dX5_lays_8 ?_
  refine lv_ineg hx hb dX5_lays_9 ?_
  refine rp (v := -(G 1 0)) (ty := .int) (T := TX5) (N := 14) (C := RX5) hx hb hts hinX5 tyX5 tyX5_ok nmX5 hown hK hP hD hS hM rfl 13 (by decide) (hts (.fieldLink RX5 53 "NeedleGridModel" "fy" "I") (by decide +kernel)) rfl rfl (by decide +kernel) rfl rfl dX5_lays_10 (fun s_3 H locs hM hf_4 hP hD hS => ?_)
  have hf := hf.tr hf_4
  refine lv_aload_n hx hb dX5_lays_13 rfl (lv_at hl 0 rfl) ?_
  refine lv_aload_n hx hb dX5_lays_14 rfl (lv_at hl 1 rfl) ?_
  refine lv_iconst (v := 5) hx hb dX5_lays_15 (by decide) ?_
  refine ra (j := 5) (n := 186) hx hb hK hP hM 1 rfl (by omega) (by decide) dX5_lays_16 ?_
  refine lv_aload_n hx hb dX5_lays_17 rfl (lv_at hl 1 rfl) ?_
  refine lv_iconst (v := 1) hx hb dX5_lays_18 (by decide) ?_
  refine ra (j := 1) (n := 186) hx hb hK hP hM 1 rfl (by omega) (by decide) dX5_lays_19 ?_
  refine lv_aload_n hx hb dX5_lays_20 rfl (lv_at hl 1 rfl) ?_
  refine lv_iconst (v := 4) hx hb dX5_lays_21 (by decide) ?_
  refine ra (j := 4) (n := 186) hx hb hK hP hM 1 rfl (by omega) (by decide) dX5_lays_22 ?_
  refine lv_imul hx hb dX5_lays_23 ?_
  refine nVv (As := [.int (G 1 5), .int ((G 1 1) * (G 1 4))]) (rest := _) hx hb hml hown hts hP hK hD hZ hA hS ⟨Nat.zero_le _, Nat.zero_le _⟩ hM.1 rfl (m_adds l E ad s_3 b (gu (gu G 12 (fun _ => 0)) 13 (fun _ => -(G 1 0))) hM (G 1 5) ((G 1 1) * (G 1 4))) (cwV 2 hts gX5_lays_X5_adds rfl rfl rfl (by decide +kernel) ⟨Nat.le_of_ble_eq_true rfl, Nat.le_of_ble_eq_true rfl⟩) hl.1 rfl (Nat.le_of_ble_eq_true rfl) dX5_lays_24 (fun s_7 H locs hq hP hD hS => ?_)
  obtain ⟨hM, hf_6⟩ := hq
  have hf := hf.tr hf_6
  have hM : isR E ad s_7 b sM (gu (gu G 12 (fun _ => 0 + ((G 1 1) * (G 1 4)) * xO (G 1 5))) 13 (fun _ => (-(G 1 0)) + ((G 1 1) * (G 1 4)) * yO (G 1 5))) := hM.eq (all14 rfl rfl rfl rfl rfl rfl rfl rfl rfl rfl rfl rfl rfl rfl)
  refine lv_iconst (v := 0) hx hb dX5_lays_27 (by decide) ?_
  refine lv_istore_n (lv' := [(3, .int 0), (0, .ref (ad b)), (1, .ref (ad (b + 1 + 1))), (2, .int (nI c))]) hx hb dX5_lays_28 rfl hl (by decide) rfl (fun ls hl => ?_)
  have LP_8 : ∀ (k9 i : Nat), i ≤ 36 → 36 - i < k9 → ∀ (sL_9 : NW) (H : Heap) (locs : List Loc) (ls : Array Slot), isR E ad sL_9 b sM (gu (gu G 12 (fun _ => mX (G 1) c i)) 13 (fun _ => mY (G 1) c i)) → fr b st sL_9 → nP E ad sL_9 H → nD A ad sL_9 → va_S A s.heap H locs → lv_has ls 5 [(3, .int (nI i)), (0, .ref (ad b)), (1, .ref (ad (b + 1 + 1))), (2, .int (nI c))] → W pg l en (nRm 4 94) s mi ar bw mth cd H locs 0 0 Q (F0 mi 29 ls []) := by
    intro k9
    induction k9 with
    | zero => intro i _ h9; exact absurd h9 (Nat.not_lt_zero _)
    | succ k9 ih29 =>
      intro i hi hk9 sL_9 H locs ls hM hf hP hD hS hl
      refine lv_iload_n hx hb dX5_lays_29 rfl (lv_at hl 0 rfl) ?_
      refine lv_bipush (v := 36) hx hb dX5_lays_30 (by decide) ?_
      refine lv_icmp_ge (tgt := 113) hx hb dX5_lays_32 (by decide) (fun c32_9 => ?_) (fun c32_9 => ?_)
      · have h36 : 36 ≤ i := (nI_geL (n := 36) rfl (by decide) (by omega)).mp c32_9
        obtain rfl : i = 36 := by omega
        exact hret _ _ _ _ _ hP hD hS (⟨hM.eq (all14 rfl rfl rfl rfl rfl rfl rfl rfl rfl rfl rfl rfl rfl rfl), hf⟩) dX5_lays_113
      · have hlt : i < 36 := by have := mt (nI_geL (n := 36) (i := i) rfl (by decide) (by omega)).mpr c32_9; omega
        refine lv_aload_n hx hb dX5_lays_35 rfl (lv_at hl 2 rfl) ?_
        refine lv_sipush (v := 150) hx hb dX5_lays_36 (by decide) ?_
        refine lv_iload_n hx hb dX5_lays_39 rfl (lv_at hl 0 rfl) ?_
        refine lv_iadd hx hb dX5_lays_40 ?_
        rw [show 150 + nI i = nI (150 + i) from nI_add 150 i]
        refine ra (j := (150 + i)) (n := 186) hx hb hK hP hM 1 rfl (by omega) (by decide) dX5_lays_41 ?_
        refine lv_if_le (tgt := 57) hx hb dX5_lays_42 (by decide) (fun c42_10 => ?_) (fun c42_10 => ?_)
        · have c42_10 : (G 1 (150 + i)) ≤ 0 := c42_10
          refine lv_iload_n hx hb dX5_lays_57 rfl (lv_at hl 0 rfl) ?_
          refine lv_bipush (v := 6) hx hb dX5_lays_58 (by decide) ?_
          refine lv_irem hx hb dX5_lays_60 (by decide) ?_
          refine lv_iload_n hx hb dX5_lays_61 rfl (lv_at hl 3 rfl) ?_
          refine lv_bipush (v := 6) hx hb dX5_lays_62 (by decide) ?_
          refine lv_irem hx hb dX5_lays_64 (by decide) ?_
          refine lv_isub hx hb dX5_lays_65 ?_
          refine nS_i (As := [.int (((nI i) - (nI i) / 6 * 6) - ((nI c) - (nI c) / 6 * 6))]) (rest := _) hx hb hml hown hts hP hK hD hZ hA hS ⟨Nat.zero_le _, Nat.zero_le _⟩ (m_size l E ad sL_9 (((nI i) - (nI i) / 6 * 6) - ((nI c) - (nI c) / 6 * 6))) (va_cwS 1 hts gX5_lays_X5_size rfl rfl rfl (by decide +kernel) ⟨Nat.le_of_ble_eq_true rfl, Nat.le_of_ble_eq_true rfl⟩) hl.1 rfl (Nat.le_of_ble_eq_true rfl) dX5_lays_66 (fun r_12 s_13 H locs hq hP hD hS => ?_)
          obtain ⟨rfl, rfl⟩ := hq
          refine lv_iload_n hx hb dX5_lays_69 rfl (lv_at hl 0 rfl) ?_
          refine lv_bipush (v := 6) hx hb dX5_lays_70 (by decide) ?_
          refine lv_idiv hx hb dX5_lays_72 (by decide) ?_
          refine lv_iload_n hx hb dX5_lays_73 rfl (lv_at hl 3 rfl) ?_
          refine lv_bipush (v := 6) hx hb dX5_lays_74 (by decide) ?_
          refine lv_idiv hx hb dX5_lays_76 (by decide) ?_
          refine lv_isub hx hb dX5_lays_77 ?_
          refine nS_i (As := [.int (((nI i) / 6) - ((nI c) / 6))]) (rest := _) hx hb hml hown hts hP hK hD hZ hA hS ⟨Nat.zero_le _, Nat.zero_le _⟩ (m_size l E ad sL_9 (((nI i) / 6) - ((nI c) / 6))) (va_cwS 1 hts gX5_lays_X5_size rfl rfl rfl (by decide +kernel) ⟨Nat.le_of_ble_eq_true rfl, Nat.le_of_ble_eq_true rfl⟩) hl.1 rfl (Nat.le_of_ble_eq_true rfl) dX5_lays_78 (fun r_14 s_15 H locs hq hP hD hS => ?_)
          obtain ⟨rfl, rfl⟩ := hq
          refine lv_iadd hx hb dX5_lays_81 ?_
          refine lv_topi (fun x4_82 ex4_82 => ?_)
          have ex4_82 : x4_82 = (ab (((nI i) - (nI i) / 6 * 6) - ((nI c) - (nI c) / 6 * 6))) + (ab (((nI i) / 6) - ((nI c) / 6))) := ex4_82
          refine lv_istore (lv' := [(4, .int x4_82), (3, .int (nI i)), (0, .ref (ad b)), (1, .ref (ad (b + 1 + 1))), (2, .int (nI c))]) hx hb dX5_lays_82 hl (by decide) rfl (fun ls hl => ?_)
          refine lv_aload_n hx hb dX5_lays_84 rfl (lv_at hl 2 rfl) ?_
          refine lv_aload_n hx hb dX5_lays_85 rfl (lv_at hl 3 rfl) ?_
          refine lv_bipush (v := 6) hx hb dX5_lays_86 (by decide) ?_
          refine lv_iload_n hx hb dX5_lays_88 rfl (lv_at hl 1 rfl) ?_
          refine lv_iadd hx hb dX5_lays_89 ?_
          rw [show 6 + nI i = nI (6 + i) from nI_add 6 i]
          refine ra (j := (6 + i)) (n := 186) hx hb hK hP hM 1 rfl (by omega) (by decide) dX5_lays_90 ?_
          refine lv_iload hx hb dX5_lays_91 (lv_at hl 0 rfl) ?_
          refine lv_iconst (v := 1) hx hb dX5_lays_93 (by decide) ?_
          refine lv_icmp_ne (tgt := 103) hx hb dX5_lays_94 (by decide) (fun c94_15 => ?_) (fun c94_15 => ?_)
          · have hfar : ¬ farI (nI i) (nI c) = 1 := by rw [ex4_82] at c94_15; exact c94_15
            refine lv_iconst (v := 0) hx hb dX5_lays_103 (by decide) ?_
            refine nVv (As := [.int (G 1 (6 + i)), .int 0]) (rest := _) hx hb hml hown hts hP hK hD hZ hA hS ⟨Nat.zero_le _, Nat.zero_le _⟩ hM.1 rfl (m_adds l E ad sL_9 b (gu (gu G 12 (fun _ => mX (G 1) c i)) 13 (fun _ => mY (G 1) c i)) hM (G 1 (6 + i)) 0) (cwV 2 hts gX5_lays_X5_adds rfl rfl rfl (by decide +kernel) ⟨Nat.le_of_ble_eq_true rfl, Nat.le_of_ble_eq_true rfl⟩) hl.1 rfl (Nat.le_of_ble_eq_true rfl) dX5_lays_104 (fun s_19 H locs hq hP hD hS => ?_)
            obtain ⟨hM, hf_18⟩ := hq
            have hf := hf.tr hf_18
            have hM : isR E ad s_19 b sM (gu (gu G 12 (fun _ => (mX (G 1) c i) + 0 * xO (G 1 (6 + i)))) 13 (fun _ => (mY (G 1) c i) + 0 * yO (G 1 (6 + i)))) := hM.eq (all14 rfl rfl rfl rfl rfl rfl rfl rfl rfl rfl rfl rfl rfl rfl)
            refine lv_iinc (v := nI (i + 1)) (lv' := [(3, .int (nI (i + 1))), (4, .int x4_82), (0, .ref (ad b)), (1, .ref (ad (b + 1 + 1))), (2, .int (nI c))]) hx hb dX5_lays_107 hl (k := 1) rfl (nI_1 _) (by decide) rfl (fun ls hl => ?_)
            refine lv_goto (tgt := 29) hx hb dX5_lays_110 (by decide) ?_
            exact ih29 (i + 1) (by omega) (by omega) _ _ _ _ (hM.eq (all14 rfl rfl rfl rfl rfl rfl rfl rfl rfl rfl rfl rfl (funext fun _ => mX_f (S := (G 1)) (c := c) (i := i) (mBX_0 c42_10) (mNX_0 hfar)) (funext fun _ => mY_f (S := (G 1)) (c := c) (i := i) (mBY_0 c42_10) (mNY_0 hfar)))) hf hP hD hS (lv_sub hl [0, 2, 3, 4] rfl)
          · have hfar : farI (nI i) (nI c) = 1 := by rw [ex4_82] at c94_15; exact c94_15
            refine lv_aload_n hx hb dX5_lays_97 rfl (lv_at hl 3 rfl) ?_
            refine lv_iconst (v := 2) hx hb dX5_lays_98 (by decide) ?_
            refine ra (j := 2) (n := 186) hx hb hK hP hM 1 rfl (by omega) (by decide) dX5_lays_99 ?_
            refine lv_goto (tgt := 104) hx hb dX5_lays_100 (by decide) ?_
            refine nVv (As := [.int (G 1 (6 + i)), .int (G 1 2)]) (rest := _) hx hb hml hown hts hP hK hD hZ hA hS ⟨Nat.zero_le _, Nat.zero_le _⟩ hM.1 rfl (m_adds l E ad sL_9 b (gu (gu G 12 (fun _ => mX (G 1) c i)) 13 (fun _ => mY (G 1) c i)) hM (G 1 (6 + i)) (G 1 2)) (cwV 2 hts gX5_lays_X5_adds rfl rfl rfl (by decide +kernel) ⟨Nat.le_of_ble_eq_true rfl, Nat.le_of_ble_eq_true rfl⟩) hl.1 rfl (Nat.le_of_ble_eq_true rfl) dX5_lays_104 (fun s_23 H locs hq hP hD hS => ?_)
            obtain ⟨hM, hf_22⟩ := hq
            have hf := hf.tr hf_22
            have hM : isR E ad s_23 b sM (gu (gu G 12 (fun _ => (mX (G 1) c i) + (G 1 2) * xO (G 1 (6 + i)))) 13 (fun _ => (mY (G 1) c i) + (G 1 2) * yO (G 1 (6 + i)))) := hM.eq (all14 rfl rfl rfl rfl rfl rfl rfl rfl rfl rfl rfl rfl rfl rfl)
            refine lv_iinc (v := nI (i + 1)) (lv' := [(3, .int (nI (i + 1))), (4, .int x4_82), (0, .ref (ad b)), (1, .ref (ad (b + 1 + 1))), (2, .int (nI c))]) hx hb dX5_lays_107 hl (k := 1) rfl (nI_1 _) (by decide) rfl (fun ls hl => ?_)
            refine lv_goto (tgt := 29) hx hb dX5_lays_110 (by decide) ?_
            exact ih29 (i + 1) (by omega) (by omega) _ _ _ _ (hM.eq (all14 rfl rfl rfl rfl rfl rfl rfl rfl rfl rfl rfl rfl (funext fun _ => mX_f (S := (G 1)) (c := c) (i := i) (mBX_0 c42_10) (mNX_1 hfar)) (funext fun _ => mY_f (S := (G 1)) (c := c) (i := i) (mBY_0 c42_10) (mNY_1 hfar)))) hf hP hD hS (lv_sub hl [0, 2, 3, 4] rfl)
        · have c42_10 : ¬ (G 1 (150 + i)) ≤ 0 := c42_10
          refine lv_iload_n hx hb dX5_lays_45 rfl (lv_at hl 0 rfl) ?_
          refine lv_iload_n hx hb dX5_lays_46 rfl (lv_at hl 3 rfl) ?_
          refine lv_icmp_eq (tgt := 57) hx hb dX5_lays_47 (by decide) (fun c47_24 => ?_) (fun c47_24 => ?_)
          · have hic : i = c := (nI_eq (by omega) (by omega)).mp c47_24
            refine lv_iload_n hx hb dX5_lays_57 rfl (lv_at hl 0 rfl) ?_
            refine lv_bipush (v := 6) hx hb dX5_lays_58 (by decide) ?_
            refine lv_irem hx hb dX5_lays_60 (by decide) ?_
            refine lv_iload_n hx hb dX5_lays_61 rfl (lv_at hl 3 rfl) ?_
            refine lv_bipush (v := 6) hx hb dX5_lays_62 (by decide) ?_
            refine lv_irem hx hb dX5_lays_64 (by decide) ?_
            refine lv_isub hx hb dX5_lays_65 ?_
            refine nS_i (As := [.int (((nI i) - (nI i) / 6 * 6) - ((nI c) - (nI c) / 6 * 6))]) (rest := _) hx hb hml hown hts hP hK hD hZ hA hS ⟨Nat.zero_le _, Nat.zero_le _⟩ (m_size l E ad sL_9 (((nI i) - (nI i) / 6 * 6) - ((nI c) - (nI c) / 6 * 6))) (va_cwS 1 hts gX5_lays_X5_size rfl rfl rfl (by decide +kernel) ⟨Nat.le_of_ble_eq_true rfl, Nat.le_of_ble_eq_true rfl⟩) hl.1 rfl (Nat.le_of_ble_eq_true rfl) dX5_lays_66 (fun r_26 s_27 H locs hq hP hD hS => ?_)
            obtain ⟨rfl, rfl⟩ := hq
            refine lv_iload_n hx hb dX5_lays_69 rfl (lv_at hl 0 rfl) ?_
            refine lv_bipush (v := 6) hx hb dX5_lays_70 (by decide) ?_
            refine lv_idiv hx hb dX5_lays_72 (by decide) ?_
            refine lv_iload_n hx hb dX5_lays_73 rfl (lv_at hl 3 rfl) ?_
            refine lv_bipush (v := 6) hx hb dX5_lays_74 (by decide) ?_
            refine lv_idiv hx hb dX5_lays_76 (by decide) ?_
            refine lv_isub hx hb dX5_lays_77 ?_
            refine nS_i (As := [.int (((nI i) / 6) - ((nI c) / 6))]) (rest := _) hx hb hml hown hts hP hK hD hZ hA hS ⟨Nat.zero_le _, Nat.zero_le _⟩ (m_size l E ad sL_9 (((nI i) / 6) - ((nI c) / 6))) (va_cwS 1 hts gX5_lays_X5_size rfl rfl rfl (by decide +kernel) ⟨Nat.le_of_ble_eq_true rfl, Nat.le_of_ble_eq_true rfl⟩) hl.1 rfl (Nat.le_of_ble_eq_true rfl) dX5_lays_78 (fun r_28 s_29 H locs hq hP hD hS => ?_)
            obtain ⟨rfl, rfl⟩ := hq
            refine lv_iadd hx hb dX5_lays_81 ?_
            refine lv_topi (fun x4_82 ex4_82 => ?_)
            have ex4_82 : x4_82 = (ab (((nI i) - (nI i) / 6 * 6) - ((nI c) - (nI c) / 6 * 6))) + (ab (((nI i) / 6) - ((nI c) / 6))) := ex4_82
            refine lv_istore (lv' := [(4, .int x4_82), (3, .int (nI i)), (0, .ref (ad b)), (1, .ref (ad (b + 1 + 1))), (2, .int (nI c))]) hx hb dX5_lays_82 hl (by decide) rfl (fun ls hl => ?_)
            refine lv_aload_n hx hb dX5_lays_84 rfl (lv_at hl 2 rfl) ?_
            refine lv_aload_n hx hb dX5_lays_85 rfl (lv_at hl 3 rfl) ?_
            refine lv_bipush (v := 6) hx hb dX5_lays_86 (by decide) ?_
            refine lv_iload_n hx hb dX5_lays_88 rfl (lv_at hl 1 rfl) ?_
            refine lv_iadd hx hb dX5_lays_89 ?_
            rw [show 6 + nI i = nI (6 + i) from nI_add 6 i]
            refine ra (j := (6 + i)) (n := 186) hx hb hK hP hM 1 rfl (by omega) (by decide) dX5_lays_90 ?_
            refine lv_iload hx hb dX5_lays_91 (lv_at hl 0 rfl) ?_
            refine lv_iconst (v := 1) hx hb dX5_lays_93 (by decide) ?_
            refine lv_icmp_ne (tgt := 103) hx hb dX5_lays_94 (by decide) (fun c94_29 => ?_) (fun c94_29 => ?_)
            · have hfar : ¬ farI (nI i) (nI c) = 1 := by rw [ex4_82] at c94_29; exact c94_29
              refine lv_iconst (v := 0) hx hb dX5_lays_103 (by decide) ?_
              refine nVv (As := [.int (G 1 (6 + i)), .int 0]) (rest := _) hx hb hml hown hts hP hK hD hZ hA hS ⟨Nat.zero_le _, Nat.zero_le _⟩ hM.1 rfl (m_adds l E ad sL_9 b (gu (gu G 12 (fun _ => mX (G 1) c i)) 13 (fun _ => mY (G 1) c i)) hM (G 1 (6 + i)) 0) (cwV 2 hts gX5_lays_X5_adds rfl rfl rfl (by decide +kernel) ⟨Nat.le_of_ble_eq_true rfl, Nat.le_of_ble_eq_true rfl⟩) hl.1 rfl (Nat.le_of_ble_eq_true rfl) dX5_lays_104 (fun s_33 H locs hq hP hD hS => ?_)
              obtain ⟨hM, hf_32⟩ := hq
              have hf := hf.tr hf_32
              have hM : isR E ad s_33 b sM (gu (gu G 12 (fun _ => (mX (G 1) c i) + 0 * xO (G 1 (6 + i)))) 13 (fun _ => (mY (G 1) c i) + 0 * yO (G 1 (6 + i)))) := hM.eq (all14 rfl rfl rfl rfl rfl rfl rfl rfl rfl rfl rfl rfl rfl rfl)
              refine lv_iinc (v := nI (i + 1)) (lv' := [(3, .int (nI (i + 1))), (4, .int x4_82), (0, .ref (ad b)), (1, .ref (ad (b + 1 + 1))), (2, .int (nI c))]) hx hb dX5_lays_107 hl (k := 1) rfl (nI_1 _) (by decide) rfl (fun ls hl => ?_)
              refine lv_goto (tgt := 29) hx hb dX5_lays_110 (by decide) ?_
              exact ih29 (i + 1) (by omega) (by omega) _ _ _ _ (hM.eq (all14 rfl rfl rfl rfl rfl rfl rfl rfl rfl rfl rfl rfl (funext fun _ => mX_f (S := (G 1)) (c := c) (i := i) (mBX_s hic) (mNX_0 hfar)) (funext fun _ => mY_f (S := (G 1)) (c := c) (i := i) (mBY_s hic) (mNY_0 hfar)))) hf hP hD hS (lv_sub hl [0, 2, 3, 4] rfl)
            · have hfar : farI (nI i) (nI c) = 1 := by rw [ex4_82] at c94_29; exact c94_29
              refine lv_aload_n hx hb dX5_lays_97 rfl (lv_at hl 3 rfl) ?_
              refine lv_iconst (v := 2) hx hb dX5_lays_98 (by decide) ?_
              refine ra (j := 2) (n := 186) hx hb hK hP hM 1 rfl (by omega) (by decide) dX5_lays_99 ?_
              refine lv_goto (tgt := 104) hx hb dX5_lays_100 (by decide) ?_
              refine nVv (As := [.int (G 1 (6 + i)), .int (G 1 2)]) (rest := _) hx hb hml hown hts hP hK hD hZ hA hS ⟨Nat.zero_le _, Nat.zero_le _⟩ hM.1 rfl (m_adds l E ad sL_9 b (gu (gu G 12 (fun _ => mX (G 1) c i)) 13 (fun _ => mY (G 1) c i)) hM (G 1 (6 + i)) (G 1 2)) (cwV 2 hts gX5_lays_X5_adds rfl rfl rfl (by decide +kernel) ⟨Nat.le_of_ble_eq_true rfl, Nat.le_of_ble_eq_true rfl⟩) hl.1 rfl (Nat.le_of_ble_eq_true rfl) dX5_lays_104 (fun s_37 H locs hq hP hD hS => ?_)
              obtain ⟨hM, hf_36⟩ := hq
              have hf := hf.tr hf_36
              have hM : isR E ad s_37 b sM (gu (gu G 12 (fun _ => (mX (G 1) c i) + (G 1 2) * xO (G 1 (6 + i)))) 13 (fun _ => (mY (G 1) c i) + (G 1 2) * yO (G 1 (6 + i)))) := hM.eq (all14 rfl rfl rfl rfl rfl rfl rfl rfl rfl rfl rfl rfl rfl rfl)
              refine lv_iinc (v := nI (i + 1)) (lv' := [(3, .int (nI (i + 1))), (4, .int x4_82), (0, .ref (ad b)), (1, .ref (ad (b + 1 + 1))), (2, .int (nI c))]) hx hb dX5_lays_107 hl (k := 1) rfl (nI_1 _) (by decide) rfl (fun ls hl => ?_)
              refine lv_goto (tgt := 29) hx hb dX5_lays_110 (by decide) ?_
              exact ih29 (i + 1) (by omega) (by omega) _ _ _ _ (hM.eq (all14 rfl rfl rfl rfl rfl rfl rfl rfl rfl rfl rfl rfl (funext fun _ => mX_f (S := (G 1)) (c := c) (i := i) (mBX_s hic) (mNX_1 hfar)) (funext fun _ => mY_f (S := (G 1)) (c := c) (i := i) (mBY_s hic) (mNY_1 hfar)))) hf hP hD hS (lv_sub hl [0, 2, 3, 4] rfl)
          · have hic : ¬ i = c := fun h9 => c47_24 (by rw [h9])
            refine lv_aload_n hx hb dX5_lays_50 rfl (lv_at hl 1 rfl) ?_
            refine lv_aload_n hx hb dX5_lays_51 rfl (lv_at hl 2 rfl) ?_
            refine lv_iload_n hx hb dX5_lays_52 rfl (lv_at hl 0 rfl) ?_
            refine lv_iload_n hx hb dX5_lays_53 rfl (lv_at hl 3 rfl) ?_
            refine nVv (As := [.ref (ad (b + 1 + 1)), .int (nI i), .int (nI c)]) (rest := _) hx hb hml hown hts hP hK hD hZ hA hS ⟨Nat.zero_le _, Nat.zero_le _⟩ hM.1 rfl (m_addsBar1 l E ad sL_9 b (gu (gu G 12 (fun _ => mX (G 1) c i)) 13 (fun _ => mY (G 1) c i)) hM i c (by omega) (by omega) hdB (pSq0 (by omega) (by omega) hic)) (cwV 3 hts gX5_lays_X5_addsBar rfl rfl rfl (by decide +kernel) ⟨Nat.le_of_ble_eq_true rfl, Nat.le_of_ble_eq_true rfl⟩) hl.1 rfl (Nat.le_of_ble_eq_true rfl) dX5_lays_54 (fun s_41 H locs hq hP hD hS => ?_)
            obtain ⟨hM, hf_40⟩ := hq
            have hf := hf.tr hf_40
            have hM : isR E ad s_41 b sM (gu (gu G 12 (fun _ => (mX (G 1) c i) + pull (nI i) (G 1 (114 + i)) (G 1 (150 + i)) (nI c) * xO (G 1 (114 + i)))) 13 (fun _ => (mY (G 1) c i) + pull (nI i) (G 1 (114 + i)) (G 1 (150 + i)) (nI c) * yO (G 1 (114 + i)))) := hM.eq (all14 rfl rfl rfl rfl rfl rfl rfl rfl rfl rfl rfl rfl rfl rfl)
            refine lv_iload_n hx hb dX5_lays_57 rfl (lv_at hl 0 rfl) ?_
            refine lv_bipush (v := 6) hx hb dX5_lays_58 (by decide) ?_
            refine lv_irem hx hb dX5_lays_60 (by decide) ?_
            refine lv_iload_n hx hb dX5_lays_61 rfl (lv_at hl 3 rfl) ?_
            refine lv_bipush (v := 6) hx hb dX5_lays_62 (by decide) ?_
            refine lv_irem hx hb dX5_lays_64 (by decide) ?_
            refine lv_isub hx hb dX5_lays_65 ?_
            refine nS_i (As := [.int (((nI i) - (nI i) / 6 * 6) - ((nI c) - (nI c) / 6 * 6))]) (rest := _) hx hb hml hown hts hP hK hD hZ hA hS ⟨Nat.zero_le _, Nat.zero_le _⟩ (m_size l E ad s_41 (((nI i) - (nI i) / 6 * 6) - ((nI c) - (nI c) / 6 * 6))) (va_cwS 1 hts gX5_lays_X5_size rfl rfl rfl (by decide +kernel) ⟨Nat.le_of_ble_eq_true rfl, Nat.le_of_ble_eq_true rfl⟩) hl.1 rfl (Nat.le_of_ble_eq_true rfl) dX5_lays_66 (fun r_42 s_43 H locs hq hP hD hS => ?_)
            obtain ⟨rfl, rfl⟩ := hq
            refine lv_iload_n hx hb dX5_lays_69 rfl (lv_at hl 0 rfl) ?_
            refine lv_bipush (v := 6) hx hb dX5_lays_70 (by decide) ?_
            refine lv_idiv hx hb dX5_lays_72 (by decide) ?_
            refine lv_iload_n hx hb dX5_lays_73 rfl (lv_at hl 3 rfl) ?_
            refine lv_bipush (v := 6) hx hb dX5_lays_74 (by decide) ?_
            refine lv_idiv hx hb dX5_lays_76 (by decide) ?_
            refine lv_isub hx hb dX5_lays_77 ?_
            refine nS_i (As := [.int (((nI i) / 6) - ((nI c) / 6))]) (rest := _) hx hb hml hown hts hP hK hD hZ hA hS ⟨Nat.zero_le _, Nat.zero_le _⟩ (m_size l E ad s_41 (((nI i) / 6) - ((nI c) / 6))) (va_cwS 1 hts gX5_lays_X5_size rfl rfl rfl (by decide +kernel) ⟨Nat.le_of_ble_eq_true rfl, Nat.le_of_ble_eq_true rfl⟩) hl.1 rfl (Nat.le_of_ble_eq_true rfl) dX5_lays_78 (fun r_44 s_45 H locs hq hP hD hS => ?_)
            obtain ⟨rfl, rfl⟩ := hq
            refine lv_iadd hx hb dX5_lays_81 ?_
            refine lv_topi (fun x4_82 ex4_82 => ?_)
            have ex4_82 : x4_82 = (ab (((nI i) - (nI i) / 6 * 6) - ((nI c) - (nI c) / 6 * 6))) + (ab (((nI i) / 6) - ((nI c) / 6))) := ex4_82
            refine lv_istore (lv' := [(4, .int x4_82), (3, .int (nI i)), (0, .ref (ad b)), (1, .ref (ad (b + 1 + 1))), (2, .int (nI c))]) hx hb dX5_lays_82 hl (by decide) rfl (fun ls hl => ?_)
            refine lv_aload_n hx hb dX5_lays_84 rfl (lv_at hl 2 rfl) ?_
            refine lv_aload_n hx hb dX5_lays_85 rfl (lv_at hl 3 rfl) ?_
            refine lv_bipush (v := 6) hx hb dX5_lays_86 (by decide) ?_
            refine lv_iload_n hx hb dX5_lays_88 rfl (lv_at hl 1 rfl) ?_
            refine lv_iadd hx hb dX5_lays_89 ?_
            rw [show 6 + nI i = nI (6 + i) from nI_add 6 i]
            refine ra (j := (6 + i)) (n := 186) hx hb hK hP hM 1 rfl (by omega) (by decide) dX5_lays_90 ?_
            refine lv_iload hx hb dX5_lays_91 (lv_at hl 0 rfl) ?_
            refine lv_iconst (v := 1) hx hb dX5_lays_93 (by decide) ?_
            refine lv_icmp_ne (tgt := 103) hx hb dX5_lays_94 (by decide) (fun c94_45 => ?_) (fun c94_45 => ?_)
            · have hfar : ¬ farI (nI i) (nI c) = 1 := by rw [ex4_82] at c94_45; exact c94_45
              refine lv_iconst (v := 0) hx hb dX5_lays_103 (by decide) ?_
              refine nVv (As := [.int (G 1 (6 + i)), .int 0]) (rest := _) hx hb hml hown hts hP hK hD hZ hA hS ⟨Nat.zero_le _, Nat.zero_le _⟩ hM.1 rfl (m_adds l E ad s_41 b (gu (gu G 12 (fun _ => (mX (G 1) c i) + pull (nI i) (G 1 (114 + i)) (G 1 (150 + i)) (nI c) * xO (G 1 (114 + i)))) 13 (fun _ => (mY (G 1) c i) + pull (nI i) (G 1 (114 + i)) (G 1 (150 + i)) (nI c) * yO (G 1 (114 + i)))) hM (G 1 (6 + i)) 0) (cwV 2 hts gX5_lays_X5_adds rfl rfl rfl (by decide +kernel) ⟨Nat.le_of_ble_eq_true rfl, Nat.le_of_ble_eq_true rfl⟩) hl.1 rfl (Nat.le_of_ble_eq_true rfl) dX5_lays_104 (fun s_49 H locs hq hP hD hS => ?_)
              obtain ⟨hM, hf_48⟩ := hq
              have hf := hf.tr hf_48
              have hM : isR E ad s_49 b sM (gu (gu G 12 (fun _ => ((mX (G 1) c i) + pull (nI i) (G 1 (114 + i)) (G 1 (150 + i)) (nI c) * xO (G 1 (114 + i))) + 0 * xO (G 1 (6 + i)))) 13 (fun _ => ((mY (G 1) c i) + pull (nI i) (G 1 (114 + i)) (G 1 (150 + i)) (nI c) * yO (G 1 (114 + i))) + 0 * yO (G 1 (6 + i)))) := hM.eq (all14 rfl rfl rfl rfl rfl rfl rfl rfl rfl rfl rfl rfl rfl rfl)
              refine lv_iinc (v := nI (i + 1)) (lv' := [(3, .int (nI (i + 1))), (4, .int x4_82), (0, .ref (ad b)), (1, .ref (ad (b + 1 + 1))), (2, .int (nI c))]) hx hb dX5_lays_107 hl (k := 1) rfl (nI_1 _) (by decide) rfl (fun ls hl => ?_)
              refine lv_goto (tgt := 29) hx hb dX5_lays_110 (by decide) ?_
              exact ih29 (i + 1) (by omega) (by omega) _ _ _ _ (hM.eq (all14 rfl rfl rfl rfl rfl rfl rfl rfl rfl rfl rfl rfl (funext fun _ => mX_t (S := (G 1)) (c := c) (i := i) (mBX_b c42_10 hic) (mNX_0 hfar)) (funext fun _ => mY_t (S := (G 1)) (c := c) (i := i) (mBY_b c42_10 hic) (mNY_0 hfar)))) hf hP hD hS (lv_sub hl [0, 2, 3, 4] rfl)
            · have hfar : farI (nI i) (nI c) = 1 := by rw [ex4_82] at c94_45; exact c94_45
              refine lv_aload_n hx hb dX5_lays_97 rfl (lv_at hl 3 rfl) ?_
              refine lv_iconst (v := 2) hx hb dX5_lays_98 (by decide) ?_
              refine ra (j := 2) (n := 186) hx hb hK hP hM 1 rfl (by omega) (by decide) dX5_lays_99 ?_
              refine lv_goto (tgt := 104) hx hb dX5_lays_100 (by decide) ?_
              refine nVv (As := [.int (G 1 (6 + i)), .int (G 1 2)]) (rest := _) hx hb hml hown hts hP hK hD hZ hA hS ⟨Nat.zero_le _, Nat.zero_le _⟩ hM.1 rfl (m_adds l E ad s_41 b (gu (gu G 12 (fun _ => (mX (G 1) c i) + pull (nI i) (G 1 (114 + i)) (G 1 (150 + i)) (nI c) * xO (G 1 (114 + i)))) 13 (fun _ => (mY (G 1) c i) + pull (nI i) (G 1 (114 + i)) (G 1 (150 + i)) (nI c) * yO (G 1 (114 + i)))) hM (G 1 (6 + i)) (G 1 2)) (cwV 2 hts gX5_lays_X5_adds rfl rfl rfl (by decide +kernel) ⟨Nat.le_of_ble_eq_true rfl, Nat.le_of_ble_eq_true rfl⟩) hl.1 rfl (Nat.le_of_ble_eq_true rfl) dX5_lays_104 (fun s_53 H locs hq hP hD hS => ?_)
              obtain ⟨hM, hf_52⟩ := hq
              have hf := hf.tr hf_52
              have hM : isR E ad s_53 b sM (gu (gu G 12 (fun _ => ((mX (G 1) c i) + pull (nI i) (G 1 (114 + i)) (G 1 (150 + i)) (nI c) * xO (G 1 (114 + i))) + (G 1 2) * xO (G 1 (6 + i)))) 13 (fun _ => ((mY (G 1) c i) + pull (nI i) (G 1 (114 + i)) (G 1 (150 + i)) (nI c) * yO (G 1 (114 + i))) + (G 1 2) * yO (G 1 (6 + i)))) := hM.eq (all14 rfl rfl rfl rfl rfl rfl rfl rfl rfl rfl rfl rfl rfl rfl)
              refine lv_iinc (v := nI (i + 1)) (lv' := [(3, .int (nI (i + 1))), (4, .int x4_82), (0, .ref (ad b)), (1, .ref (ad (b + 1 + 1))), (2, .int (nI c))]) hx hb dX5_lays_107 hl (k := 1) rfl (nI_1 _) (by decide) rfl (fun ls hl => ?_)
              refine lv_goto (tgt := 29) hx hb dX5_lays_110 (by decide) ?_
              exact ih29 (i + 1) (by omega) (by omega) _ _ _ _ (hM.eq (all14 rfl rfl rfl rfl rfl rfl rfl rfl rfl rfl rfl rfl (funext fun _ => mX_t (S := (G 1)) (c := c) (i := i) (mBX_b c42_10 hic) (mNX_1 hfar)) (funext fun _ => mY_t (S := (G 1)) (c := c) (i := i) (mBY_b c42_10 hic) (mNY_1 hfar)))) hf hP hD hS (lv_sub hl [0, 2, 3, 4] rfl)
  exact LP_8 (36 + 1) 0 (Nat.zero_le _) (by omega) _ _ _ _ (hM.eq (all14 rfl rfl rfl rfl rfl rfl rfl rfl rfl rfl rfl rfl rfl rfl)) hf hP hD hS (lv_sub hl [0, 1, 2, 3] rfl)

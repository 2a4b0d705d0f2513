set_option maxHeartbeats 4000000 in
set_option maxRecDepth 100000 in
theorem x_requireCell (l : Launch) (hlt : l.stackTraces = false) (E : NE) (ad : Nat → Nat) (st : NW) (v : Int32) (h : ¬ v < 0 → ¬ v < 36) : nX l yX4_requireCell wsX4_requireCell (nRx 6 82) E ad st [.int v] "java/lang/IndexOutOfBoundsException" (fun s1 => st = s1) := by
  refine nSx (cc := cX4_requireCell) (maxL := 1) (by decide) rfl (Nat.le_of_ble_eq_true rfl) ?_
  intro pg en s mi ar bw mth cd R A ls hx hb hml hown hts hRm hP hK hD hZ hA hl hlocks htab
  subst hRm
  have hown : s.vm.findClass RX4 = some mi.cls := hown
  have hS : va_S A s.heap s.heap [] := va_S.rf
  have hl : lv_has ls 1 [(0, .int v)] := hl
  refine lv_iload_n hx hb dX4_requireCell_0 rfl (lv_at hl 0 rfl) ?_
  refine lv_if_lt (tgt := 10) hx hb dX4_requireCell_1 (by decide) (fun c1_0 => ?_) (fun c1_0 => ?_)
  · obtain ⟨sa, hsa⟩ := hZ.2.2.2.2.1 (277, "there is no such cell") (List.mem_of_getElem? (i := 2) rfl)
    exact nThrW (Ec := "java/lang/IndexOutOfBoundsException") (text := "there is no such cell") (ik := 275) (is := 277) (ic := 279) (own := RX4) hx hb hlt hown (by decide +kernel) (hts (.classLink RX4 275 "java/lang/IndexOutOfBoundsException") (by decide +kernel)) (hts (.initialized "java/lang/IndexOutOfBoundsException") (by decide +kernel)) hsa (vx_hat (fun w9 h9 => hts w9 ((by decide +kernel : ∀ w8 ∈ (vx_atS RX4 279 "java/lang/IndexOutOfBoundsException" nEx).filter goodWord, w8 ∈ wsX4_requireCell) w9 h9)) (by decide +kernel) (nXB hZ.2.2.2.2.2.1.1 hZ.2.2.2.2.2)) (by decide +kernel) hP hK hD hZ hS (hl.1.trans hml.symm) dX4_requireCell_10 dX4_requireCell_13 dX4_requireCell_14 dX4_requireCell_17 dX4_requireCell_20 htab rfl (by decide) (Nat.le_of_ble_eq_true rfl) hlocks rfl
  · refine lv_iload_n hx hb dX4_requireCell_4 rfl (lv_at hl 0 rfl) ?_
    refine lv_bipush (v := 36) hx hb dX4_requireCell_5 (by decide) ?_
    refine lv_icmp_lt (tgt := 21) hx hb dX4_requireCell_7 (by decide) (fun c7_1 => absurd c7_1 (h c1_0)) (fun c7_1 => ?_)
    obtain ⟨sa, hsa⟩ := hZ.2.2.2.2.1 (277, "there is no such cell") (List.mem_of_getElem? (i := 2) rfl)
    exact nThrW (Ec := "java/lang/IndexOutOfBoundsException") (text := "there is no such cell") (ik := 275) (is := 277) (ic := 279) (own := RX4) hx hb hlt hown (by decide +kernel) (hts (.classLink RX4 275 "java/lang/IndexOutOfBoundsException") (by decide +kernel)) (hts (.initialized "java/lang/IndexOutOfBoundsException") (by decide +kernel)) hsa (vx_hat (fun w9 h9 => hts w9 ((by decide +kernel : ∀ w8 ∈ (vx_atS RX4 279 "java/lang/IndexOutOfBoundsException" nEx).filter goodWord, w8 ∈ wsX4_requireCell) w9 h9)) (by decide +kernel) (nXB hZ.2.2.2.2.2.1.1 hZ.2.2.2.2.2)) (by decide +kernel) hP hK hD hZ hS (hl.1.trans hml.symm) dX4_requireCell_10 dX4_requireCell_13 dX4_requireCell_14 dX4_requireCell_17 dX4_requireCell_20 htab rfl (by decide) (Nat.le_of_ble_eq_true rfl) hlocks rfl

set_option maxHeartbeats 4000000 in
set_option maxRecDepth 100000 in
theorem x_requireSetting (l : Launch) (hlt : l.stackTraces = false) (E : NE) (ad : Nat → Nat) (st : NW) (v : Int32) (h : ¬ v < 0 → ¬ v < 3) : nX l yX4_requireSetting wsX4_requireSetting (nRx 6 82) E ad st [.int v] "java/lang/IndexOutOfBoundsException" (fun s1 => st = s1) := by
  refine nSx (cc := cX4_requireSetting) (maxL := 1) (by decide) rfl (Nat.le_of_ble_eq_true rfl) ?_
  intro pg en s mi ar bw mth cd R A ls hx hb hml hown hts hRm hP hK hD hZ hA hl hlocks htab
  subst hRm
  have hown : s.vm.findClass RX4 = some mi.cls := hown
  have hS : va_S A s.heap s.heap [] := va_S.rf
  have hl : lv_has ls 1 [(0, .int v)] := hl
  refine lv_iload_n hx hb dX4_requireSetting_0 rfl (lv_at hl 0 rfl) ?_
  refine lv_if_lt (tgt := 9) hx hb dX4_requireSetting_1 (by decide) (fun c1_0 => ?_) (fun c1_0 => ?_)
  · obtain ⟨sa, hsa⟩ := hZ.2.2.2.2.1 (280, "there is no such setting") (List.mem_of_getElem? (i := 1) rfl)
    exact nThrW (Ec := "java/lang/IndexOutOfBoundsException") (text := "there is no such setting") (ik := 275) (is := 280) (ic := 279) (own := RX4) hx hb hlt hown (by decide +kernel) (hts (.classLink RX4 275 "java/lang/IndexOutOfBoundsException") (by decide +kernel)) (hts (.initialized "java/lang/IndexOutOfBoundsException") (by decide +kernel)) hsa (vx_hat (fun w9 h9 => hts w9 ((by decide +kernel : ∀ w8 ∈ (vx_atS RX4 279 "java/lang/IndexOutOfBoundsException" nEx).filter goodWord, w8 ∈ wsX4_requireSetting) w9 h9)) (by decide +kernel) (nXB hZ.2.2.2.2.2.1.1 hZ.2.2.2.2.2)) (by decide +kernel) hP hK hD hZ hS (hl.1.trans hml.symm) dX4_requireSetting_9 dX4_requireSetting_12 dX4_requireSetting_13 dX4_requireSetting_16 dX4_requireSetting_19 htab rfl (by decide) (Nat.le_of_ble_eq_true rfl) hlocks rfl
  · refine lv_iload_n hx hb dX4_requireSetting_4 rfl (lv_at hl 0 rfl) ?_
    refine lv_iconst (v := 3) hx hb dX4_requireSetting_5 (by decide) ?_
    refine lv_icmp_lt (tgt := 20) hx hb dX4_requireSetting_6 (by decide) (fun c6_1 => absurd c6_1 (h c1_0)) (fun c6_1 => ?_)
    obtain ⟨sa, hsa⟩ := hZ.2.2.2.2.1 (280, "there is no such setting") (List.mem_of_getElem? (i := 1) rfl)
    exact nThrW (Ec := "java/lang/IndexOutOfBoundsException") (text := "there is no such setting") (ik := 275) (is := 280) (ic := 279) (own := RX4) hx hb hlt hown (by decide +kernel) (hts (.classLink RX4 275 "java/lang/IndexOutOfBoundsException") (by decide +kernel)) (hts (.initialized "java/lang/IndexOutOfBoundsException") (by decide +kernel)) hsa (vx_hat (fun w9 h9 => hts w9 ((by decide +kernel : ∀ w8 ∈ (vx_atS RX4 279 "java/lang/IndexOutOfBoundsException" nEx).filter goodWord, w8 ∈ wsX4_requireSetting) w9 h9)) (by decide +kernel) (nXB hZ.2.2.2.2.2.1.1 hZ.2.2.2.2.2)) (by decide +kernel) hP hK hD hZ hS (hl.1.trans hml.symm) dX4_requireSetting_9 dX4_requireSetting_12 dX4_requireSetting_13 dX4_requireSetting_16 dX4_requireSetting_19 htab rfl (by decide) (Nat.le_of_ble_eq_true rfl) hlocks rfl

set_option maxHeartbeats 4000000 in
set_option maxRecDepth 100000 in
theorem x_requireBetween (l : Launch) (hlt : l.stackTraces = false) (E : NE) (ad : Nat → Nat) (st : NW) (v a b : Int32) (h : ¬ v < a → ¬ v ≤ b) : nX l yX4_requireBetween wsX4_requireBetween (nRx 6 82) E ad st [.int v, .int a, .int b] "java/lang/IllegalArgumentException" (fun s1 => st = s1) := by
  refine nSx (cc := cX4_requireBetween) (maxL := 3) (by decide) rfl (Nat.le_of_ble_eq_true rfl) ?_
  intro pg en s mi ar bw mth cd R A ls hx hb hml hown hts hRm hP hK hD hZ hA hl hlocks htab
  subst hRm
  have hown : s.vm.findClass RX4 = some mi.cls := hown
  have hS : va_S A s.heap s.heap [] := va_S.rf
  have hl : lv_has ls 3 [(0, .int v), (1, .int a), (2, .int b)] := hl
  refine lv_iload_n hx hb dX4_requireBetween_0 rfl (lv_at hl 0 rfl) ?_
  refine lv_iload_n hx hb dX4_requireBetween_1 rfl (lv_at hl 1 rfl) ?_
  refine lv_icmp_lt (tgt := 10) hx hb dX4_requireBetween_2 (by decide) (fun c2_0 => ?_) (fun c2_0 => ?_)
  · obtain ⟨sa, hsa⟩ := hZ.2.2.2.2.1 (282, "a number is out of range") (List.mem_of_getElem? (i := 5) rfl)
    exact nThrW (Ec := "java/lang/IllegalArgumentException") (text := "a number is out of range") (ik := 127) (is := 282) (ic := 131) (own := RX4) hx hb hlt hown (by decide +kernel) (hts (.classLink RX4 127 "java/lang/IllegalArgumentException") (by decide +kernel)) (hts (.initialized "java/lang/IllegalArgumentException") (by decide +kernel)) hsa (vx_hat (fun w9 h9 => hts w9 ((by decide +kernel : ∀ w8 ∈ (vx_atS RX4 131 "java/lang/IllegalArgumentException" nEx).filter goodWord, w8 ∈ wsX4_requireBetween) w9 h9)) (by decide +kernel) (nXB hZ.2.2.2.2.2.1.2.1 hZ.2.2.2.2.2)) (by decide +kernel) hP hK hD hZ hS (hl.1.trans hml.symm) dX4_requireBetween_10 dX4_requireBetween_13 dX4_requireBetween_14 dX4_requireBetween_17 dX4_requireBetween_20 htab rfl (by decide) (Nat.le_of_ble_eq_true rfl) hlocks rfl
  · refine lv_iload_n hx hb dX4_requireBetween_5 rfl (lv_at hl 0 rfl) ?_
    refine lv_iload_n hx hb dX4_requireBetween_6 rfl (lv_at hl 2 rfl) ?_
    refine lv_icmp_le (tgt := 21) hx hb dX4_requireBetween_7 (by decide) (fun c7_1 => absurd c7_1 (h c2_0)) (fun c7_1 => ?_)
    obtain ⟨sa, hsa⟩ := hZ.2.2.2.2.1 (282, "a number is out of range") (List.mem_of_getElem? (i := 5) rfl)
    exact nThrW (Ec := "java/lang/IllegalArgumentException") (text := "a number is out of range") (ik := 127) (is := 282) (ic := 131) (own := RX4) hx hb hlt hown (by decide +kernel) (hts (.classLink RX4 127 "java/lang/IllegalArgumentException") (by decide +kernel)) (hts (.initialized "java/lang/IllegalArgumentException") (by decide +kernel)) hsa (vx_hat (fun w9 h9 => hts w9 ((by decide +kernel : ∀ w8 ∈ (vx_atS RX4 131 "java/lang/IllegalArgumentException" nEx).filter goodWord, w8 ∈ wsX4_requireBetween) w9 h9)) (by decide +kernel) (nXB hZ.2.2.2.2.2.1.2.1 hZ.2.2.2.2.2)) (by decide +kernel) hP hK hD hZ hS (hl.1.trans hml.symm) dX4_requireBetween_10 dX4_requireBetween_13 dX4_requireBetween_14 dX4_requireBetween_17 dX4_requireBetween_20 htab rfl (by decide) (Nat.le_of_ble_eq_true rfl) hlocks rfl

set_option maxHeartbeats 4000000 in
set_option maxRecDepth 100000 in
theorem x_requireDirection (l : Launch) (hlt : l.stackTraces = false) (E : NE) (ad : Nat → Nat) (st : NW) (v : Int32) (h : ¬ v < 0 → ¬ v ≤ 7) : nX l yX4_requireDirection wsX4_requireDirection (nRx 7 104) E ad st [.int v] "java/lang/IllegalArgumentException" (fun s1 => st = s1) := by
  refine nSx (cc := cX4_requireDirection) (maxL := 1) (by decide) rfl (Nat.le_of_ble_eq_true rfl) ?_
  intro pg en s mi ar bw mth cd R A ls hx hb hml hown hts hRm hP hK hD hZ hA hl hlocks htab
  subst hRm
  have hown : s.vm.findClass RX4 = some mi.cls := hown
  have hS : va_S A s.heap s.heap [] := va_S.rf
  have hl : lv_has ls 1 [(0, .int v)] := hl
  refine lv_iload_n hx hb dX4_requireDirection_0 rfl (lv_at hl 0 rfl) ?_
  refine lv_iconst (v := 0) hx hb dX4_requireDirection_1 (by decide) ?_
  refine lv_bipush (v := 7) hx hb dX4_requireDirection_2 (by decide) ?_
  refine nTS (As := [.int v, .int 0, .int 7]) (rest := _) hx hb hml hown hts hP hK hD hZ hA hS ⟨Nat.le_of_ble_eq_true rfl, Nat.le_of_ble_eq_true rfl⟩ (x_requireBetween l hlt E ad st v 0 7 h) (va_cwS 3 hts gX4_requireDirection_X4_requireBetween rfl rfl rfl (by decide +kernel) ⟨Nat.le_of_ble_eq_true rfl, Nat.le_of_ble_eq_true rfl⟩) hl.1 rfl (Nat.le_of_ble_eq_true rfl) dX4_requireDirection_4 (fun q ce st1 H1 locs1 hq hP hD hS hc hv hcl => ?_)
  exact nOut htab hlocks hK hq hP hD hS hc hv hcl

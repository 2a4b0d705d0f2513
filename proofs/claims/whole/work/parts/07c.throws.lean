theorem cm0 {C : Nat → Int32} {n : Nat} {r : Int32} (h : ¬ cmpl C n) (hr : r = if fErr C n = n then (if rdS r00 C n 0 = 4 then 1 else 0) else 0) : r = 0 := by
  by_cases h1 : fErr C n = n
  · rw [hr, if_pos h1, if_neg (fun h2 => h ⟨h1, h2⟩)]
  · rw [hr, if_neg h1]

set_option maxHeartbeats 4000000 in
set_option maxRecDepth 100000 in
theorem x_needle_c (l : Launch) (hlt : l.stackTraces = false) (E : NE) (ad : Nat → Nat) (st : NW) (N : Nat → Int32) (Rs : Nat → Nat → Int32) (a x : Nat) (C : Nat → Int32) (n : Nat) (ha : a ≤ 6) (hxx : x < 6) (hn : n ≤ 60) (hO : okH N) (hW : cW E ad st N Rs a x C n) (v : Int32) (hbad : ¬ v < 0 → ¬ v < 36) (d : Int32) : nX l yX4_needle wsX4_needle (nRx 8 124) E ad st [.ref (ad 0), .int v, .int d] "java/lang/IndexOutOfBoundsException" (fun s1 => st = s1) := by
  refine nSx (cc := cX4_needle) (maxL := 4) (by decide) rfl (Nat.le_of_ble_eq_true rfl) ?_
  intro pg en s mi ar bw mth cd R A ls hx hb hml hown hts hRm hP hK hD hZ hA hl hlocks htab
  subst hRm
  have hown : s.vm.findClass RX4 = some mi.cls := hown
  have hS : va_S A s.heap s.heap [] := va_S.rf
  have hl : lv_has ls 4 [(0, .ref (ad 0)), (1, .int v), (2, .int d)] := hl
  obtain ⟨hN, hH, hQr, hT, ⟨R0, hB⟩, hR, ⟨Tr, hTr⟩, hRg⟩ := hW
  obtain ⟨G9, hGN⟩ : ∃ G9, G9 = gN N := ⟨_, rfl⟩
  rw [← hGN] at hR
  have hf : frX 0 208 st st := frX.rf
  have hinX2 : ∀ w ∈ wsX20, w ∈ wsX4_needle := by decide +kernel
  have hinX3 : ∀ w ∈ wsX30, w ∈ wsX4_needle := by decide +kernel
  have hinX4 : ∀ w ∈ wsX40, w ∈ wsX4_needle := by decide +kernel
  refine lv_iload_n hx hb dX4_needle_0 rfl (lv_at hl 1 rfl) ?_
  refine nTS (As := [.int v]) (rest := _) hx hb hml hown hts hP hK hD hZ hA hS ⟨Nat.le_of_ble_eq_true rfl, Nat.le_of_ble_eq_true rfl⟩ (x_requireCell l hlt E ad st v hbad) (va_cwS 1 hts gX4_needle_X4_requireCell rfl rfl rfl (by decide +kernel) ⟨Nat.le_of_ble_eq_true rfl, Nat.le_of_ble_eq_true rfl⟩) hl.1 rfl (Nat.le_of_ble_eq_true rfl) dX4_needle_1 (fun q ce st1 H1 locs1 hq hP hD hS hc hv hcl => ?_)
  exact nOut htab hlocks hK hq hP hD hS hc hv hcl

set_option maxHeartbeats 4000000 in
set_option maxRecDepth 100000 in
theorem x_friction_c (l : Launch) (hlt : l.stackTraces = false) (E : NE) (ad : Nat → Nat) (st : NW) (N : Nat → Int32) (Rs : Nat → Nat → Int32) (a x : Nat) (C : Nat → Int32) (n : Nat) (ha : a ≤ 6) (hxx : x < 6) (hn : n ≤ 60) (hO : okH N) (hW : cW E ad st N Rs a x C n) (v : Int32) (hbad : ¬ v < 0 → ¬ v < 36) (d : Int32) : nX l yX4_friction wsX4_friction (nRx 8 124) E ad st [.ref (ad 0), .int v, .int d] "java/lang/IndexOutOfBoundsException" (fun s1 => st = s1) := by
  refine nSx (cc := cX4_friction) (maxL := 4) (by decide) rfl (Nat.le_of_ble_eq_true rfl) ?_
  intro pg en s mi ar bw mth cd R A ls hx hb hml hown hts hRm hP hK hD hZ hA hl hlocks htab
  subst hRm
  have hown : s.vm.findClass RX4 = some mi.cls := hown
  have hS : va_S A s.heap s.heap [] := va_S.rf
  have hl : lv_has ls 4 [(0, .ref (ad 0)), (1, .int v), (2, .int d)] := hl
  obtain ⟨hN, hH, hQr, hT, ⟨R0, hB⟩, hR, ⟨Tr, hTr⟩, hRg⟩ := hW
  obtain ⟨G9, hGN⟩ : ∃ G9, G9 = gN N := ⟨_, rfl⟩
  rw [← hGN] at hR
  have hf : frX 0 208 st st := frX.rf
  have hinX2 : ∀ w ∈ wsX20, w ∈ wsX4_friction := by decide +kernel
  have hinX3 : ∀ w ∈ wsX30, w ∈ wsX4_friction := by decide +kernel
  have hinX4 : ∀ w ∈ wsX40, w ∈ wsX4_friction := by decide +kernel
  refine lv_iload_n hx hb dX4_friction_0 rfl (lv_at hl 1 rfl) ?_
  refine nTS (As := [.int v]) (rest := _) hx hb hml hown hts hP hK hD hZ hA hS ⟨Nat.le_of_ble_eq_true rfl, Nat.le_of_ble_eq_true rfl⟩ (x_requireCell l hlt E ad st v hbad) (va_cwS 1 hts gX4_friction_X4_requireCell rfl rfl rfl (by decide +kernel) ⟨Nat.le_of_ble_eq_true rfl, Nat.le_of_ble_eq_true rfl⟩) hl.1 rfl (Nat.le_of_ble_eq_true rfl) dX4_friction_1 (fun q ce st1 H1 locs1 hq hP hD hS hc hv hcl => ?_)
  exact nOut htab hlocks hK hq hP hD hS hc hv hcl

set_option maxHeartbeats 4000000 in
set_option maxRecDepth 100000 in
theorem x_hold_c (l : Launch) (hlt : l.stackTraces = false) (E : NE) (ad : Nat → Nat) (st : NW) (N : Nat → Int32) (Rs : Nat → Nat → Int32) (a x : Nat) (C : Nat → Int32) (n : Nat) (ha : a ≤ 6) (hxx : x < 6) (hn : n ≤ 60) (hO : okH N) (hW : cW E ad st N Rs a x C n) (v : Int32) (hbad : ¬ v < 0 → ¬ v < 36) (d : Int32) : nX l yX4_hold wsX4_hold (nRx 8 124) E ad st [.ref (ad 0), .int v, .int d] "java/lang/IndexOutOfBoundsException" (fun s1 => st = s1) := by
  refine nSx (cc := cX4_hold) (maxL := 4) (by decide) rfl (Nat.le_of_ble_eq_true rfl) ?_
  intro pg en s mi ar bw mth cd R A ls hx hb hml hown hts hRm hP hK hD hZ hA hl hlocks htab
  subst hRm
  have hown : s.vm.findClass RX4 = some mi.cls := hown
  have hS : va_S A s.heap s.heap [] := va_S.rf
  have hl : lv_has ls 4 [(0, .ref (ad 0)), (1, .int v), (2, .int d)] := hl
  obtain ⟨hN, hH, hQr, hT, ⟨R0, hB⟩, hR, ⟨Tr, hTr⟩, hRg⟩ := hW
  obtain ⟨G9, hGN⟩ : ∃ G9, G9 = gN N := ⟨_, rfl⟩
  rw [← hGN] at hR
  have hf : frX 0 208 st st := frX.rf
  have hinX2 : ∀ w ∈ wsX20, w ∈ wsX4_hold := by decide +kernel
  have hinX3 : ∀ w ∈ wsX30, w ∈ wsX4_hold := by decide +kernel
  have hinX4 : ∀ w ∈ wsX40, w ∈ wsX4_hold := by decide +kernel
  refine lv_iload_n hx hb dX4_hold_0 rfl (lv_at hl 1 rfl) ?_
  refine nTS (As := [.int v]) (rest := _) hx hb hml hown hts hP hK hD hZ hA hS ⟨Nat.le_of_ble_eq_true rfl, Nat.le_of_ble_eq_true rfl⟩ (x_requireCell l hlt E ad st v hbad) (va_cwS 1 hts gX4_hold_X4_requireCell rfl rfl rfl (by decide +kernel) ⟨Nat.le_of_ble_eq_true rfl, Nat.le_of_ble_eq_true rfl⟩) hl.1 rfl (Nat.le_of_ble_eq_true rfl) dX4_hold_1 (fun q ce st1 H1 locs1 hq hP hD hS hc hv hcl => ?_)
  exact nOut htab hlocks hK hq hP hD hS hc hv hcl

set_option maxHeartbeats 4000000 in
set_option maxRecDepth 100000 in
theorem x_swap_c (l : Launch) (hlt : l.stackTraces = false) (E : NE) (ad : Nat → Nat) (st : NW) (N : Nat → Int32) (Rs : Nat → Nat → Int32) (a x : Nat) (C : Nat → Int32) (n : Nat) (ha : a ≤ 6) (hxx : x < 6) (hn : n ≤ 60) (hO : okH N) (hW : cW E ad st N Rs a x C n) (v : Int32) (hbad : ¬ v < 0 → ¬ v < 36) (d : Int32) : nX l yX4_swap wsX4_swap (nRx 8 124) E ad st [.ref (ad 0), .int v, .int d] "java/lang/IndexOutOfBoundsException" (fun s1 => st = s1) := by
  refine nSx (cc := cX4_swap) (maxL := 3) (by decide) rfl (Nat.le_of_ble_eq_true rfl) ?_
  intro pg en s mi ar bw mth cd R A ls hx hb hml hown hts hRm hP hK hD hZ hA hl hlocks htab
  subst hRm
  have hown : s.vm.findClass RX4 = some mi.cls := hown
  have hS : va_S A s.heap s.heap [] := va_S.rf
  have hl : lv_has ls 3 [(0, .ref (ad 0)), (1, .int v), (2, .int d)] := hl
  obtain ⟨hN, hH, hQr, hT, ⟨R0, hB⟩, hR, ⟨Tr, hTr⟩, hRg⟩ := hW
  obtain ⟨G9, hGN⟩ : ∃ G9, G9 = gN N := ⟨_, rfl⟩
  rw [← hGN] at hR
  have hf : frX 0 208 st st := frX.rf
  have hinX2 : ∀ w ∈ wsX20, w ∈ wsX4_swap := by decide +kernel
  have hinX3 : ∀ w ∈ wsX30, w ∈ wsX4_swap := by decide +kernel
  have hinX4 : ∀ w ∈ wsX40, w ∈ wsX4_swap := by decide +kernel
  refine lv_iload_n hx hb dX4_swap_0 rfl (lv_at hl 1 rfl) ?_
  refine nTS (As := [.int v]) (rest := _) hx hb hml hown hts hP hK hD hZ hA hS ⟨Nat.le_of_ble_eq_true rfl, Nat.le_of_ble_eq_true rfl⟩ (x_requireCell l hlt E ad st v hbad) (va_cwS 1 hts gX4_swap_X4_requireCell rfl rfl rfl (by decide +kernel) ⟨Nat.le_of_ble_eq_true rfl, Nat.le_of_ble_eq_true rfl⟩) hl.1 rfl (Nat.le_of_ble_eq_true rfl) dX4_swap_1 (fun q ce st1 H1 locs1 hq hP hD hS hc hv hcl => ?_)
  exact nOut htab hlocks hK hq hP hD hS hc hv hcl

set_option maxHeartbeats 4000000 in
set_option maxRecDepth 100000 in
theorem x_bar_c (l : Launch) (hlt : l.stackTraces = false) (E : NE) (ad : Nat → Nat) (st : NW) (N : Nat → Int32) (Rs : Nat → Nat → Int32) (a x : Nat) (C : Nat → Int32) (n : Nat) (ha : a ≤ 6) (hxx : x < 6) (hn : n ≤ 60) (hO : okH N) (hW : cW E ad st N Rs a x C n) (v : Int32) (hbad : ¬ v < 0 → ¬ v < 36) (d t : Int32) : nX l yX4_bar wsX4_bar (nRx 8 124) E ad st [.ref (ad 0), .int v, .int d, .int t] "java/lang/IndexOutOfBoundsException" (fun s1 => st = s1) := by
  refine nSx (cc := cX4_bar) (maxL := 4) (by decide) rfl (Nat.le_of_ble_eq_true rfl) ?_
  intro pg en s mi ar bw mth cd R A ls hx hb hml hown hts hRm hP hK hD hZ hA hl hlocks htab
  subst hRm
  have hown : s.vm.findClass RX4 = some mi.cls := hown
  have hS : va_S A s.heap s.heap [] := va_S.rf
  have hl : lv_has ls 4 [(0, .ref (ad 0)), (1, .int v), (2, .int d), (3, .int t)] := hl
  obtain ⟨hN, hH, hQr, hT, ⟨R0, hB⟩, hR, ⟨Tr, hTr⟩, hRg⟩ := hW
  obtain ⟨G9, hGN⟩ : ∃ G9, G9 = gN N := ⟨_, rfl⟩
  rw [← hGN] at hR
  have hf : frX 0 208 st st := frX.rf
  have hinX2 : ∀ w ∈ wsX20, w ∈ wsX4_bar := by decide +kernel
  have hinX3 : ∀ w ∈ wsX30, w ∈ wsX4_bar := by decide +kernel
  have hinX4 : ∀ w ∈ wsX40, w ∈ wsX4_bar := by decide +kernel
  refine lv_iload_n hx hb dX4_bar_0 rfl (lv_at hl 1 rfl) ?_
  refine nTS (As := [.int v]) (rest := _) hx hb hml hown hts hP hK hD hZ hA hS ⟨Nat.le_of_ble_eq_true rfl, Nat.le_of_ble_eq_true rfl⟩ (x_requireCell l hlt E ad st v hbad) (va_cwS 1 hts gX4_bar_X4_requireCell rfl rfl rfl (by decide +kernel) ⟨Nat.le_of_ble_eq_true rfl, Nat.le_of_ble_eq_true rfl⟩) hl.1 rfl (Nat.le_of_ble_eq_true rfl) dX4_bar_1 (fun q ce st1 H1 locs1 hq hP hD hS hc hv hcl => ?_)
  exact nOut htab hlocks hK hq hP hD hS hc hv hcl

set_option maxHeartbeats 4000000 in
set_option maxRecDepth 100000 in
theorem x_unbar_c (l : Launch) (hlt : l.stackTraces = false) (E : NE) (ad : Nat → Nat) (st : NW) (N : Nat → Int32) (Rs : Nat → Nat → Int32) (a x : Nat) (C : Nat → Int32) (n : Nat) (ha : a ≤ 6) (hxx : x < 6) (hn : n ≤ 60) (hO : okH N) (hW : cW E ad st N Rs a x C n) (v : Int32) (hbad : ¬ v < 0 → ¬ v < 36)  : nX l yX4_unbar wsX4_unbar (nRx 8 124) E ad st [.ref (ad 0), .int v] "java/lang/IndexOutOfBoundsException" (fun s1 => st = s1) := by
  refine nSx (cc := cX4_unbar) (maxL := 2) (by decide) rfl (Nat.le_of_ble_eq_true rfl) ?_
  intro pg en s mi ar bw mth cd R A ls hx hb hml hown hts hRm hP hK hD hZ hA hl hlocks htab
  subst hRm
  have hown : s.vm.findClass RX4 = some mi.cls := hown
  have hS : va_S A s.heap s.heap [] := va_S.rf
  have hl : lv_has ls 2 [(0, .ref (ad 0)), (1, .int v)] := hl
  obtain ⟨hN, hH, hQr, hT, ⟨R0, hB⟩, hR, ⟨Tr, hTr⟩, hRg⟩ := hW
  obtain ⟨G9, hGN⟩ : ∃ G9, G9 = gN N := ⟨_, rfl⟩
  rw [← hGN] at hR
  have hf : frX 0 208 st st := frX.rf
  have hinX2 : ∀ w ∈ wsX20, w ∈ wsX4_unbar := by decide +kernel
  have hinX3 : ∀ w ∈ wsX30, w ∈ wsX4_unbar := by decide +kernel
  have hinX4 : ∀ w ∈ wsX40, w ∈ wsX4_unbar := by decide +kernel
  refine lv_iload_n hx hb dX4_unbar_0 rfl (lv_at hl 1 rfl) ?_
  refine nTS (As := [.int v]) (rest := _) hx hb hml hown hts hP hK hD hZ hA hS ⟨Nat.le_of_ble_eq_true rfl, Nat.le_of_ble_eq_true rfl⟩ (x_requireCell l hlt E ad st v hbad) (va_cwS 1 hts gX4_unbar_X4_requireCell rfl rfl rfl (by decide +kernel) ⟨Nat.le_of_ble_eq_true rfl, Nat.le_of_ble_eq_true rfl⟩) hl.1 rfl (Nat.le_of_ble_eq_true rfl) dX4_unbar_1 (fun q ce st1 H1 locs1 hq hP hD hS hc hv hcl => ?_)
  exact nOut htab hlocks hK hq hP hD hS hc hv hcl

set_option maxHeartbeats 4000000 in
set_option maxRecDepth 100000 in
theorem x_cell_c (l : Launch) (hlt : l.stackTraces = false) (E : NE) (ad : Nat → Nat) (st : NW) (N : Nat → Int32) (Rs : Nat → Nat → Int32) (a x : Nat) (C : Nat → Int32) (n : Nat) (ha : a ≤ 6) (hxx : x < 6) (hn : n ≤ 60) (hO : okH N) (hW : cW E ad st N Rs a x C n) (v : Int32) (hbad : ¬ v < 0 → ¬ v < 36) (d : Int32) : nX l yX4_cell wsX4_cell (nRx 8 124) E ad st [.ref (ad 0), .int v, .int d] "java/lang/IndexOutOfBoundsException" (fun s1 => st = s1) := by
  refine nSx (cc := cX4_cell) (maxL := 3) (by decide) rfl (Nat.le_of_ble_eq_true rfl) ?_
  intro pg en s mi ar bw mth cd R A ls hx hb hml hown hts hRm hP hK hD hZ hA hl hlocks htab
  subst hRm
  have hown : s.vm.findClass RX4 = some mi.cls := hown
  have hS : va_S A s.heap s.heap [] := va_S.rf
  have hl : lv_has ls 3 [(0, .ref (ad 0)), (1, .int v), (2, .int d)] := hl
  obtain ⟨hN, hH, hQr, hT, ⟨R0, hB⟩, hR, ⟨Tr, hTr⟩, hRg⟩ := hW
  obtain ⟨G9, hGN⟩ : ∃ G9, G9 = gN N := ⟨_, rfl⟩
  rw [← hGN] at hR
  have hf : frX 0 208 st st := frX.rf
  have hinX2 : ∀ w ∈ wsX20, w ∈ wsX4_cell := by decide +kernel
  have hinX4 : ∀ w ∈ wsX40, w ∈ wsX4_cell := by decide +kernel
  refine lv_iload_n hx hb dX4_cell_0 rfl (lv_at hl 1 rfl) ?_
  refine nTS (As := [.int v]) (rest := _) hx hb hml hown hts hP hK hD hZ hA hS ⟨Nat.le_of_ble_eq_true rfl, Nat.le_of_ble_eq_true rfl⟩ (x_requireCell l hlt E ad st v hbad) (va_cwS 1 hts gX4_cell_X4_requireCell rfl rfl rfl (by decide +kernel) ⟨Nat.le_of_ble_eq_true rfl, Nat.le_of_ble_eq_true rfl⟩) hl.1 rfl (Nat.le_of_ble_eq_true rfl) dX4_cell_1 (fun q ce st1 H1 locs1 hq hP hD hS hc hv hcl => ?_)
  exact nOut htab hlocks hK hq hP hD hS hc hv hcl

set_option maxHeartbeats 4000000 in
set_option maxRecDepth 100000 in
theorem x_points_c (l : Launch) (hlt : l.stackTraces = false) (E : NE) (ad : Nat → Nat) (st : NW) (N : Nat → Int32) (Rs : Nat → Nat → Int32) (a x : Nat) (C : Nat → Int32) (n : Nat) (ha : a ≤ 6) (hxx : x < 6) (hn : n ≤ 60) (hO : okH N) (hW : cW E ad st N Rs a x C n) (v : Int32) (hbad : ¬ v < 0 → ¬ v < 36) (d : Int32) : nX l yX4_points wsX4_points (nRx 8 124) E ad st [.ref (ad 0), .int v, .int d] "java/lang/IndexOutOfBoundsException" (fun s1 => st = s1) := by
  refine nSx (cc := cX4_points) (maxL := 3) (by decide) rfl (Nat.le_of_ble_eq_true rfl) ?_
  intro pg en s mi ar bw mth cd R A ls hx hb hml hown hts hRm hP hK hD hZ hA hl hlocks htab
  subst hRm
  have hown : s.vm.findClass RX4 = some mi.cls := hown
  have hS : va_S A s.heap s.heap [] := va_S.rf
  have hl : lv_has ls 3 [(0, .ref (ad 0)), (1, .int v), (2, .int d)] := hl
  obtain ⟨hN, hH, hQr, hT, ⟨R0, hB⟩, hR, ⟨Tr, hTr⟩, hRg⟩ := hW
  obtain ⟨G9, hGN⟩ : ∃ G9, G9 = gN N := ⟨_, rfl⟩
  rw [← hGN] at hR
  have hf : frX 0 208 st st := frX.rf
  have hinX2 : ∀ w ∈ wsX20, w ∈ wsX4_points := by decide +kernel
  have hinX4 : ∀ w ∈ wsX40, w ∈ wsX4_points := by decide +kernel
  refine lv_iload_n hx hb dX4_points_0 rfl (lv_at hl 1 rfl) ?_
  refine nTS (As := [.int v]) (rest := _) hx hb hml hown hts hP hK hD hZ hA hS ⟨Nat.le_of_ble_eq_true rfl, Nat.le_of_ble_eq_true rfl⟩ (x_requireCell l hlt E ad st v hbad) (va_cwS 1 hts gX4_points_X4_requireCell rfl rfl rfl (by decide +kernel) ⟨Nat.le_of_ble_eq_true rfl, Nat.le_of_ble_eq_true rfl⟩) hl.1 rfl (Nat.le_of_ble_eq_true rfl) dX4_points_1 (fun q ce st1 H1 locs1 hq hP hD hS hc hv hcl => ?_)
  exact nOut htab hlocks hK hq hP hD hS hc hv hcl

set_option maxHeartbeats 4000000 in
set_option maxRecDepth 100000 in
theorem x_ifBar_c (l : Launch) (hlt : l.stackTraces = false) (E : NE) (ad : Nat → Nat) (st : NW) (N : Nat → Int32) (Rs : Nat → Nat → Int32) (a x : Nat) (C : Nat → Int32) (n : Nat) (ha : a ≤ 6) (hxx : x < 6) (hn : n ≤ 60) (hO : okH N) (hW : cW E ad st N Rs a x C n) (v : Int32) (hbad : ¬ v < 0 → ¬ v < 36) (d t : Int32) : nX l yX4_ifBar wsX4_ifBar (nRx 8 124) E ad st [.ref (ad 0), .int v, .int d, .int t] "java/lang/IndexOutOfBoundsException" (fun s1 => st = s1) := by
  refine nSx (cc := cX4_ifBar) (maxL := 6) (by decide) rfl (Nat.le_of_ble_eq_true rfl) ?_
  intro pg en s mi ar bw mth cd R A ls hx hb hml hown hts hRm hP hK hD hZ hA hl hlocks htab
  subst hRm
  have hown : s.vm.findClass RX4 = some mi.cls := hown
  have hS : va_S A s.heap s.heap [] := va_S.rf
  have hl : lv_has ls 6 [(0, .ref (ad 0)), (1, .int v), (2, .int d), (3, .int t)] := hl
  obtain ⟨hN, hH, hQr, hT, ⟨R0, hB⟩, hR, ⟨Tr, hTr⟩, hRg⟩ := hW
  obtain ⟨G9, hGN⟩ : ∃ G9, G9 = gN N := ⟨_, rfl⟩
  rw [← hGN] at hR
  have hf : frX 0 208 st st := frX.rf
  have hinX2 : ∀ w ∈ wsX20, w ∈ wsX4_ifBar := by decide +kernel
  have hinX4 : ∀ w ∈ wsX40, w ∈ wsX4_ifBar := by decide +kernel
  refine lv_iload_n hx hb dX4_ifBar_0 rfl (lv_at hl 1 rfl) ?_
  refine nTS (As := [.int v]) (rest := _) hx hb hml hown hts hP hK hD hZ hA hS ⟨Nat.le_of_ble_eq_true rfl, Nat.le_of_ble_eq_true rfl⟩ (x_requireCell l hlt E ad st v hbad) (va_cwS 1 hts gX4_ifBar_X4_requireCell rfl rfl rfl (by decide +kernel) ⟨Nat.le_of_ble_eq_true rfl, Nat.le_of_ble_eq_true rfl⟩) hl.1 rfl (Nat.le_of_ble_eq_true rfl) dX4_ifBar_1 (fun q ce st1 H1 locs1 hq hP hD hS hc hv hcl => ?_)
  exact nOut htab hlocks hK hq hP hD hS hc hv hcl

set_option maxHeartbeats 4000000 in
set_option maxRecDepth 100000 in
theorem x_bestBar_c (l : Launch) (hlt : l.stackTraces = false) (E : NE) (ad : Nat → Nat) (st : NW) (N : Nat → Int32) (Rs : Nat → Nat → Int32) (a x : Nat) (C : Nat → Int32) (n : Nat) (ha : a ≤ 6) (hxx : x < 6) (hn : n ≤ 60) (hO : okH N) (hW : cW E ad st N Rs a x C n) (v : Int32) (hbad : ¬ v < 0 → ¬ v < 36) (d t : Int32) : nX l yX4_bestBar wsX4_bestBar (nRx 8 124) E ad st [.ref (ad 0), .int v, .int d, .int t] "java/lang/IndexOutOfBoundsException" (fun s1 => st = s1) := by
  refine nSx (cc := cX4_bestBar) (maxL := 6) (by decide) rfl (Nat.le_of_ble_eq_true rfl) ?_
  intro pg en s mi ar bw mth cd R A ls hx hb hml hown hts hRm hP hK hD hZ hA hl hlocks htab
  subst hRm
  have hown : s.vm.findClass RX4 = some mi.cls := hown
  have hS : va_S A s.heap s.heap [] := va_S.rf
  have hl : lv_has ls 6 [(0, .ref (ad 0)), (1, .int v), (2, .int d), (3, .int t)] := hl
  obtain ⟨hN, hH, hQr, hT, ⟨R0, hB⟩, hR, ⟨Tr, hTr⟩, hRg⟩ := hW
  obtain ⟨G9, hGN⟩ : ∃ G9, G9 = gN N := ⟨_, rfl⟩
  rw [← hGN] at hR
  have hf : frX 0 208 st st := frX.rf
  have hinX2 : ∀ w ∈ wsX20, w ∈ wsX4_bestBar := by decide +kernel
  have hinX4 : ∀ w ∈ wsX40, w ∈ wsX4_bestBar := by decide +kernel
  refine lv_iload_n hx hb dX4_bestBar_0 rfl (lv_at hl 1 rfl) ?_
  refine nTS (As := [.int v]) (rest := _) hx hb hml hown hts hP hK hD hZ hA hS ⟨Nat.le_of_ble_eq_true rfl, Nat.le_of_ble_eq_true rfl⟩ (x_requireCell l hlt E ad st v hbad) (va_cwS 1 hts gX4_bestBar_X4_requireCell rfl rfl rfl (by decide +kernel) ⟨Nat.le_of_ble_eq_true rfl, Nat.le_of_ble_eq_true rfl⟩) hl.1 rfl (Nat.le_of_ble_eq_true rfl) dX4_bestBar_1 (fun q ce st1 H1 locs1 hq hP hD hS hc hv hcl => ?_)
  exact nOut htab hlocks hK hq hP hD hS hc hv hcl

set_option maxHeartbeats 4000000 in
set_option maxRecDepth 100000 in
theorem x_leastTurns_c (l : Launch) (hlt : l.stackTraces = false) (E : NE) (ad : Nat → Nat) (st : NW) (N : Nat → Int32) (Rs : Nat → Nat → Int32) (a x : Nat) (C : Nat → Int32) (n : Nat) (ha : a ≤ 6) (hxx : x < 6) (hn : n ≤ 60) (hO : okH N) (hW : cW E ad st N Rs a x C n) (v : Int32) (hbad : ¬ v < 0 → ¬ v < 36)  : nX l yX4_leastTurns wsX4_leastTurns (nRx 8 124) E ad st [.ref (ad 0), .int v] "java/lang/IndexOutOfBoundsException" (fun s1 => st = s1) := by
  refine nSx (cc := cX4_leastTurns) (maxL := 3) (by decide) rfl (Nat.le_of_ble_eq_true rfl) ?_
  intro pg en s mi ar bw mth cd R A ls hx hb hml hown hts hRm hP hK hD hZ hA hl hlocks htab
  subst hRm
  have hown : s.vm.findClass RX4 = some mi.cls := hown
  have hS : va_S A s.heap s.heap [] := va_S.rf
  have hl : lv_has ls 3 [(0, .ref (ad 0)), (1, .int v)] := hl
  obtain ⟨hN, hH, hQr, hT, ⟨R0, hB⟩, hR, ⟨Tr, hTr⟩, hRg⟩ := hW
  obtain ⟨G9, hGN⟩ : ∃ G9, G9 = gN N := ⟨_, rfl⟩
  rw [← hGN] at hR
  have hf : frX 0 208 st st := frX.rf
  have hinX2 : ∀ w ∈ wsX20, w ∈ wsX4_leastTurns := by decide +kernel
  have hinX4 : ∀ w ∈ wsX40, w ∈ wsX4_leastTurns := by decide +kernel
  refine lv_iload_n hx hb dX4_leastTurns_0 rfl (lv_at hl 1 rfl) ?_
  refine nTS (As := [.int v]) (rest := _) hx hb hml hown hts hP hK hD hZ hA hS ⟨Nat.le_of_ble_eq_true rfl, Nat.le_of_ble_eq_true rfl⟩ (x_requireCell l hlt E ad st v hbad) (va_cwS 1 hts gX4_leastTurns_X4_requireCell rfl rfl rfl (by decide +kernel) ⟨Nat.le_of_ble_eq_true rfl, Nat.le_of_ble_eq_true rfl⟩) hl.1 rfl (Nat.le_of_ble_eq_true rfl) dX4_leastTurns_1 (fun q ce st1 H1 locs1 hq hP hD hS hc hv hcl => ?_)
  exact nOut htab hlocks hK hq hP hD hS hc hv hcl

set_option maxHeartbeats 4000000 in
set_option maxRecDepth 100000 in
theorem x_swap_o (l : Launch) (hlt : l.stackTraces = false) (E : NE) (ad : Nat → Nat) (st : NW) (N : Nat → Int32) (Rs : Nat → Nat → Int32) (a x : Nat) (C : Nat → Int32) (n : Nat) (ha : a ≤ 6) (hxx : x < 6) (hn : n ≤ 60) (hO : okH N) (hW : cW E ad st N Rs a x C n) (c : Nat) (hc : c < 36) (v : Int32) (hbad : ¬ v < 0 → ¬ v < 36) : nX l yX4_swap wsX4_swap (nRx 8 124) E ad st [.ref (ad 0), .int (nI c), .int v] "java/lang/IndexOutOfBoundsException" (fun s1 => st = s1) := by
  refine nSx (cc := cX4_swap) (maxL := 3) (by decide) rfl (Nat.le_of_ble_eq_true rfl) ?_
  intro pg en s mi ar bw mth cd R A ls hx hb hml hown hts hRm hP hK hD hZ hA hl hlocks htab
  subst hRm
  have hown : s.vm.findClass RX4 = some mi.cls := hown
  have hS : va_S A s.heap s.heap [] := va_S.rf
  have hl : lv_has ls 3 [(0, .ref (ad 0)), (1, .int (nI c)), (2, .int v)] := hl
  obtain ⟨hN, hH, hQr, hT, ⟨R0, hB⟩, hR, ⟨Tr, hTr⟩, hRg⟩ := hW
  obtain ⟨G9, hGN⟩ : ∃ G9, G9 = gN N := ⟨_, rfl⟩
  rw [← hGN] at hR
  have hf : frX 0 208 st st := frX.rf
  have hinX2 : ∀ w ∈ wsX20, w ∈ wsX4_swap := by decide +kernel
  have hinX3 : ∀ w ∈ wsX30, w ∈ wsX4_swap := by decide +kernel
  have hinX4 : ∀ w ∈ wsX40, w ∈ wsX4_swap := by decide +kernel
  refine lv_iload_n hx hb dX4_swap_0 rfl (lv_at hl 1 rfl) ?_
  refine nS_v (As := [.int (nI c)]) (rest := _) hx hb hml hown hts hP hK hD hZ hA hS ⟨Nat.zero_le _, Nat.zero_le _⟩ (c_requireCell l E ad st c (by omega)) (va_cwS 1 hts gX4_swap_X4_requireCell rfl rfl rfl (by decide +kernel) ⟨Nat.le_of_ble_eq_true rfl, Nat.le_of_ble_eq_true rfl⟩) hl.1 rfl (Nat.le_of_ble_eq_true rfl) dX4_swap_1 (fun s_1 H locs hq hP hD hS => ?_)
  obtain rfl := hq
  refine lv_iload_n hx hb dX4_swap_4 rfl (lv_at hl 2 rfl) ?_
  refine nTS (As := [.int v]) (rest := _) hx hb hml hown hts hP hK hD hZ hA hS ⟨Nat.le_of_ble_eq_true rfl, Nat.le_of_ble_eq_true rfl⟩ (x_requireCell l hlt E ad st v hbad) (va_cwS 1 hts gX4_swap_X4_requireCell rfl rfl rfl (by decide +kernel) ⟨Nat.le_of_ble_eq_true rfl, Nat.le_of_ble_eq_true rfl⟩) hl.1 rfl (Nat.le_of_ble_eq_true rfl) dX4_swap_5 (fun q ce st1 H1 locs1 hq hP hD hS hc hv hcl => ?_)
  exact nOut htab hlocks hK hq hP hD hS hc hv hcl

set_option maxHeartbeats 4000000 in
set_option maxRecDepth 100000 in
theorem x_needle_d (l : Launch) (hlt : l.stackTraces = false) (E : NE) (ad : Nat → Nat) (st : NW) (N : Nat → Int32) (Rs : Nat → Nat → Int32) (a x : Nat) (C : Nat → Int32) (n : Nat) (ha : a ≤ 6) (hxx : x < 6) (hn : n ≤ 60) (hO : okH N) (hW : cW E ad st N Rs a x C n) (c : Nat) (hc : c < 36) (v : Int32) (hbad : ¬ v < 0 → ¬ v ≤ 7)  : nX l yX4_needle wsX4_needle (nRx 8 124) E ad st [.ref (ad 0), .int (nI c), .int v] "java/lang/IllegalArgumentException" (fun s1 => st = s1) := by
  refine nSx (cc := cX4_needle) (maxL := 4) (by decide) rfl (Nat.le_of_ble_eq_true rfl) ?_
  intro pg en s mi ar bw mth cd R A ls hx hb hml hown hts hRm hP hK hD hZ hA hl hlocks htab
  subst hRm
  have hown : s.vm.findClass RX4 = some mi.cls := hown
  have hS : va_S A s.heap s.heap [] := va_S.rf
  have hl : lv_has ls 4 [(0, .ref (ad 0)), (1, .int (nI c)), (2, .int v)] := hl
  obtain ⟨hN, hH, hQr, hT, ⟨R0, hB⟩, hR, ⟨Tr, hTr⟩, hRg⟩ := hW
  obtain ⟨G9, hGN⟩ : ∃ G9, G9 = gN N := ⟨_, rfl⟩
  rw [← hGN] at hR
  have hf : frX 0 208 st st := frX.rf
  have hinX2 : ∀ w ∈ wsX20, w ∈ wsX4_needle := by decide +kernel
  have hinX3 : ∀ w ∈ wsX30, w ∈ wsX4_needle := by decide +kernel
  have hinX4 : ∀ w ∈ wsX40, w ∈ wsX4_needle := by decide +kernel
  refine lv_iload_n hx hb dX4_needle_0 rfl (lv_at hl 1 rfl) ?_
  refine nS_v (As := [.int (nI c)]) (rest := _) hx hb hml hown hts hP hK hD hZ hA hS ⟨Nat.zero_le _, Nat.zero_le _⟩ (c_requireCell l E ad st c (by omega)) (va_cwS 1 hts gX4_needle_X4_requireCell rfl rfl rfl (by decide +kernel) ⟨Nat.le_of_ble_eq_true rfl, Nat.le_of_ble_eq_true rfl⟩) hl.1 rfl (Nat.le_of_ble_eq_true rfl) dX4_needle_1 (fun s_1 H locs hq hP hD hS => ?_)
  obtain rfl := hq
  refine lv_iload_n hx hb dX4_needle_4 rfl (lv_at hl 2 rfl) ?_
  refine nTS (As := [.int v]) (rest := _) hx hb hml hown hts hP hK hD hZ hA hS ⟨Nat.le_of_ble_eq_true rfl, Nat.le_of_ble_eq_true rfl⟩ (x_requireDirection l hlt E ad st v hbad) (va_cwS 1 hts gX4_needle_X4_requireDirection rfl rfl rfl (by decide +kernel) ⟨Nat.le_of_ble_eq_true rfl, Nat.le_of_ble_eq_true rfl⟩) hl.1 rfl (Nat.le_of_ble_eq_true rfl) dX4_needle_5 (fun q ce st1 H1 locs1 hq hP hD hS hc hv hcl => ?_)
  exact nOut htab hlocks hK hq hP hD hS hc hv hcl

set_option maxHeartbeats 4000000 in
set_option maxRecDepth 100000 in
theorem x_bar_d (l : Launch) (hlt : l.stackTraces = false) (E : NE) (ad : Nat → Nat) (st : NW) (N : Nat → Int32) (Rs : Nat → Nat → Int32) (a x : Nat) (C : Nat → Int32) (n : Nat) (ha : a ≤ 6) (hxx : x < 6) (hn : n ≤ 60) (hO : okH N) (hW : cW E ad st N Rs a x C n) (c : Nat) (hc : c < 36) (v : Int32) (hbad : ¬ v < 0 → ¬ v ≤ 7) (t : Int32) : nX l yX4_bar wsX4_bar (nRx 8 124) E ad st [.ref (ad 0), .int (nI c), .int v, .int t] "java/lang/IllegalArgumentException" (fun s1 => st = s1) := by
  refine nSx (cc := cX4_bar) (maxL := 4) (by decide) rfl (Nat.le_of_ble_eq_true rfl) ?_
  intro pg en s mi ar bw mth cd R A ls hx hb hml hown hts hRm hP hK hD hZ hA hl hlocks htab
  subst hRm
  have hown : s.vm.findClass RX4 = some mi.cls := hown
  have hS : va_S A s.heap s.heap [] := va_S.rf
  have hl : lv_has ls 4 [(0, .ref (ad 0)), (1, .int (nI c)), (2, .int v), (3, .int t)] := hl
  obtain ⟨hN, hH, hQr, hT, ⟨R0, hB⟩, hR, ⟨Tr, hTr⟩, hRg⟩ := hW
  obtain ⟨G9, hGN⟩ : ∃ G9, G9 = gN N := ⟨_, rfl⟩
  rw [← hGN] at hR
  have hf : frX 0 208 st st := frX.rf
  have hinX2 : ∀ w ∈ wsX20, w ∈ wsX4_bar := by decide +kernel
  have hinX3 : ∀ w ∈ wsX30, w ∈ wsX4_bar := by decide +kernel
  have hinX4 : ∀ w ∈ wsX40, w ∈ wsX4_bar := by decide +kernel
  refine lv_iload_n hx hb dX4_bar_0 rfl (lv_at hl 1 rfl) ?_
  refine nS_v (As := [.int (nI c)]) (rest := _) hx hb hml hown hts hP hK hD hZ hA hS ⟨Nat.zero_le _, Nat.zero_le _⟩ (c_requireCell l E ad st c (by omega)) (va_cwS 1 hts gX4_bar_X4_requireCell rfl rfl rfl (by decide +kernel) ⟨Nat.le_of_ble_eq_true rfl, Nat.le_of_ble_eq_true rfl⟩) hl.1 rfl (Nat.le_of_ble_eq_true rfl) dX4_bar_1 (fun s_1 H locs hq hP hD hS => ?_)
  obtain rfl := hq
  refine lv_iload_n hx hb dX4_bar_4 rfl (lv_at hl 2 rfl) ?_
  refine nTS (As := [.int v]) (rest := _) hx hb hml hown hts hP hK hD hZ hA hS ⟨Nat.le_of_ble_eq_true rfl, Nat.le_of_ble_eq_true rfl⟩ (x_requireDirection l hlt E ad st v hbad) (va_cwS 1 hts gX4_bar_X4_requireDirection rfl rfl rfl (by decide +kernel) ⟨Nat.le_of_ble_eq_true rfl, Nat.le_of_ble_eq_true rfl⟩) hl.1 rfl (Nat.le_of_ble_eq_true rfl) dX4_bar_5 (fun q ce st1 H1 locs1 hq hP hD hS hc hv hcl => ?_)
  exact nOut htab hlocks hK hq hP hD hS hc hv hcl

set_option maxHeartbeats 4000000 in
set_option maxRecDepth 100000 in
theorem x_ifBar_d (l : Launch) (hlt : l.stackTraces = false) (E : NE) (ad : Nat → Nat) (st : NW) (N : Nat → Int32) (Rs : Nat → Nat → Int32) (a x : Nat) (C : Nat → Int32) (n : Nat) (ha : a ≤ 6) (hxx : x < 6) (hn : n ≤ 60) (hO : okH N) (hW : cW E ad st N Rs a x C n) (c : Nat) (hc : c < 36) (v : Int32) (hbad : ¬ v < 0 → ¬ v ≤ 7) (t : Int32) : nX l yX4_ifBar wsX4_ifBar (nRx 8 124) E ad st [.ref (ad 0), .int (nI c), .int v, .int t] "java/lang/IllegalArgumentException" (fun s1 => st = s1) := by
  refine nSx (cc := cX4_ifBar) (maxL := 6) (by decide) rfl (Nat.le_of_ble_eq_true rfl) ?_
  intro pg en s mi ar bw mth cd R A ls hx hb hml hown hts hRm hP hK hD hZ hA hl hlocks htab
  subst hRm
  have hown : s.vm.findClass RX4 = some mi.cls := hown
  have hS : va_S A s.heap s.heap [] := va_S.rf
  have hl : lv_has ls 6 [(0, .ref (ad 0)), (1, .int (nI c)), (2, .int v), (3, .int t)] := hl
  obtain ⟨hN, hH, hQr, hT, ⟨R0, hB⟩, hR, ⟨Tr, hTr⟩, hRg⟩ := hW
  obtain ⟨G9, hGN⟩ : ∃ G9, G9 = gN N := ⟨_, rfl⟩
  rw [← hGN] at hR
  have hf : frX 0 208 st st := frX.rf
  have hinX2 : ∀ w ∈ wsX20, w ∈ wsX4_ifBar := by decide +kernel
  have hinX4 : ∀ w ∈ wsX40, w ∈ wsX4_ifBar := by decide +kernel
  refine lv_iload_n hx hb dX4_ifBar_0 rfl (lv_at hl 1 rfl) ?_
  refine nS_v (As := [.int (nI c)]) (rest := _) hx hb hml hown hts hP hK hD hZ hA hS ⟨Nat.zero_le _, Nat.zero_le _⟩ (c_requireCell l E ad st c (by omega)) (va_cwS 1 hts gX4_ifBar_X4_requireCell rfl rfl rfl (by decide +kernel) ⟨Nat.le_of_ble_eq_true rfl, Nat.le_of_ble_eq_true rfl⟩) hl.1 rfl (Nat.le_of_ble_eq_true rfl) dX4_ifBar_1 (fun s_1 H locs hq hP hD hS => ?_)
  obtain rfl := hq
  refine lv_iload_n hx hb dX4_ifBar_4 rfl (lv_at hl 2 rfl) ?_
  refine nTS (As := [.int v]) (rest := _) hx hb hml hown hts hP hK hD hZ hA hS ⟨Nat.le_of_ble_eq_true rfl, Nat.le_of_ble_eq_true rfl⟩ (x_requireDirection l hlt E ad st v hbad) (va_cwS 1 hts gX4_ifBar_X4_requireDirection rfl rfl rfl (by decide +kernel) ⟨Nat.le_of_ble_eq_true rfl, Nat.le_of_ble_eq_true rfl⟩) hl.1 rfl (Nat.le_of_ble_eq_true rfl) dX4_ifBar_5 (fun q ce st1 H1 locs1 hq hP hD hS hc hv hcl => ?_)
  exact nOut htab hlocks hK hq hP hD hS hc hv hcl

set_option maxHeartbeats 4000000 in
set_option maxRecDepth 100000 in
theorem x_bestBar_d (l : Launch) (hlt : l.stackTraces = false) (E : NE) (ad : Nat → Nat) (st : NW) (N : Nat → Int32) (Rs : Nat → Nat → Int32) (a x : Nat) (C : Nat → Int32) (n : Nat) (ha : a ≤ 6) (hxx : x < 6) (hn : n ≤ 60) (hO : okH N) (hW : cW E ad st N Rs a x C n) (c : Nat) (hc : c < 36) (v : Int32) (hbad : ¬ v < 0 → ¬ v ≤ 7) (t : Int32) : nX l yX4_bestBar wsX4_bestBar (nRx 8 124) E ad st [.ref (ad 0), .int (nI c), .int v, .int t] "java/lang/IllegalArgumentException" (fun s1 => st = s1) := by
  refine nSx (cc := cX4_bestBar) (maxL := 6) (by decide) rfl (Nat.le_of_ble_eq_true rfl) ?_
  intro pg en s mi ar bw mth cd R A ls hx hb hml hown hts hRm hP hK hD hZ hA hl hlocks htab
  subst hRm
  have hown : s.vm.findClass RX4 = some mi.cls := hown
  have hS : va_S A s.heap s.heap [] := va_S.rf
  have hl : lv_has ls 6 [(0, .ref (ad 0)), (1, .int (nI c)), (2, .int v), (3, .int t)] := hl
  obtain ⟨hN, hH, hQr, hT, ⟨R0, hB⟩, hR, ⟨Tr, hTr⟩, hRg⟩ := hW
  obtain ⟨G9, hGN⟩ : ∃ G9, G9 = gN N := ⟨_, rfl⟩
  rw [← hGN] at hR
  have hf : frX 0 208 st st := frX.rf
  have hinX2 : ∀ w ∈ wsX20, w ∈ wsX4_bestBar := by decide +kernel
  have hinX4 : ∀ w ∈ wsX40, w ∈ wsX4_bestBar := by decide +kernel
  refine lv_iload_n hx hb dX4_bestBar_0 rfl (lv_at hl 1 rfl) ?_
  refine nS_v (As := [.int (nI c)]) (rest := _) hx hb hml hown hts hP hK hD hZ hA hS ⟨Nat.zero_le _, Nat.zero_le _⟩ (c_requireCell l E ad st c (by omega)) (va_cwS 1 hts gX4_bestBar_X4_requireCell rfl rfl rfl (by decide +kernel) ⟨Nat.le_of_ble_eq_true rfl, Nat.le_of_ble_eq_true rfl⟩) hl.1 rfl (Nat.le_of_ble_eq_true rfl) dX4_bestBar_1 (fun s_1 H locs hq hP hD hS => ?_)
  obtain rfl := hq
  refine lv_iload_n hx hb dX4_bestBar_4 rfl (lv_at hl 2 rfl) ?_
  refine nTS (As := [.int v]) (rest := _) hx hb hml hown hts hP hK hD hZ hA hS ⟨Nat.le_of_ble_eq_true rfl, Nat.le_of_ble_eq_true rfl⟩ (x_requireDirection l hlt E ad st v hbad) (va_cwS 1 hts gX4_bestBar_X4_requireDirection rfl rfl rfl (by decide +kernel) ⟨Nat.le_of_ble_eq_true rfl, Nat.le_of_ble_eq_true rfl⟩) hl.1 rfl (Nat.le_of_ble_eq_true rfl) dX4_bestBar_5 (fun q ce st1 H1 locs1 hq hP hD hS hc hv hcl => ?_)
  exact nOut htab hlocks hK hq hP hD hS hc hv hcl

set_option maxHeartbeats 4000000 in
set_option maxRecDepth 100000 in
theorem x_bar_t (l : Launch) (hlt : l.stackTraces = false) (E : NE) (ad : Nat → Nat) (st : NW) (N : Nat → Int32) (Rs : Nat → Nat → Int32) (a x : Nat) (C : Nat → Int32) (n : Nat) (ha : a ≤ 6) (hxx : x < 6) (hn : n ≤ 60) (hO : okH N) (hW : cW E ad st N Rs a x C n) (c : Nat) (hc : c < 36) (d : Nat) (hd : d < 8) (v : Int32) (hbad : ¬ v < 1 → ¬ v ≤ 50) : nX l yX4_bar wsX4_bar (nRx 8 124) E ad st [.ref (ad 0), .int (nI c), .int (nI d), .int v] "java/lang/IllegalArgumentException" (fun s1 => st = s1) := by
  refine nSx (cc := cX4_bar) (maxL := 4) (by decide) rfl (Nat.le_of_ble_eq_true rfl) ?_
  intro pg en s mi ar bw mth cd R A ls hx hb hml hown hts hRm hP hK hD hZ hA hl hlocks htab
  subst hRm
  have hown : s.vm.findClass RX4 = some mi.cls := hown
  have hS : va_S A s.heap s.heap [] := va_S.rf
  have hl : lv_has ls 4 [(0, .ref (ad 0)), (1, .int (nI c)), (2, .int (nI d)), (3, .int v)] := hl
  obtain ⟨hN, hH, hQr, hT, ⟨R0, hB⟩, hR, ⟨Tr, hTr⟩, hRg⟩ := hW
  obtain ⟨G9, hGN⟩ : ∃ G9, G9 = gN N := ⟨_, rfl⟩
  rw [← hGN] at hR
  have hf : frX 0 208 st st := frX.rf
  have hinX2 : ∀ w ∈ wsX20, w ∈ wsX4_bar := by decide +kernel
  have hinX3 : ∀ w ∈ wsX30, w ∈ wsX4_bar := by decide +kernel
  have hinX4 : ∀ w ∈ wsX40, w ∈ wsX4_bar := by decide +kernel
  refine lv_iload_n hx hb dX4_bar_0 rfl (lv_at hl 1 rfl) ?_
  refine nS_v (As := [.int (nI c)]) (rest := _) hx hb hml hown hts hP hK hD hZ hA hS ⟨Nat.zero_le _, Nat.zero_le _⟩ (c_requireCell l E ad st c (by omega)) (va_cwS 1 hts gX4_bar_X4_requireCell rfl rfl rfl (by decide +kernel) ⟨Nat.le_of_ble_eq_true rfl, Nat.le_of_ble_eq_true rfl⟩) hl.1 rfl (Nat.le_of_ble_eq_true rfl) dX4_bar_1 (fun s_1 H locs hq hP hD hS => ?_)
  obtain rfl := hq
  refine lv_iload_n hx hb dX4_bar_4 rfl (lv_at hl 2 rfl) ?_
  refine nS_v (As := [.int (nI d)]) (rest := _) hx hb hml hown hts hP hK hD hZ hA hS ⟨Nat.zero_le _, Nat.zero_le _⟩ (c_requireDirection l E ad st d (by omega)) (va_cwS 1 hts gX4_bar_X4_requireDirection rfl rfl rfl (by decide +kernel) ⟨Nat.le_of_ble_eq_true rfl, Nat.le_of_ble_eq_true rfl⟩) hl.1 rfl (Nat.le_of_ble_eq_true rfl) dX4_bar_5 (fun s_2 H locs hq hP hD hS => ?_)
  obtain rfl := hq
  refine lv_iload_n hx hb dX4_bar_8 rfl (lv_at hl 3 rfl) ?_
  refine lv_iconst (v := 1) hx hb dX4_bar_9 (by decide) ?_
  refine lv_bipush (v := 50) hx hb dX4_bar_10 (by decide) ?_
  refine nTS (As := [.int v, .int 1, .int 50]) (rest := _) hx hb hml hown hts hP hK hD hZ hA hS ⟨Nat.le_of_ble_eq_true rfl, Nat.le_of_ble_eq_true rfl⟩ (x_requireBetween l hlt E ad st v 1 50 hbad) (va_cwS 3 hts gX4_bar_X4_requireBetween rfl rfl rfl (by decide +kernel) ⟨Nat.le_of_ble_eq_true rfl, Nat.le_of_ble_eq_true rfl⟩) hl.1 rfl (Nat.le_of_ble_eq_true rfl) dX4_bar_12 (fun q ce st1 H1 locs1 hq hP hD hS hc hv hcl => ?_)
  exact nOut htab hlocks hK hq hP hD hS hc hv hcl

set_option maxHeartbeats 4000000 in
set_option maxRecDepth 100000 in
theorem x_ifBar_t (l : Launch) (hlt : l.stackTraces = false) (E : NE) (ad : Nat → Nat) (st : NW) (N : Nat → Int32) (Rs : Nat → Nat → Int32) (a x : Nat) (C : Nat → Int32) (n : Nat) (ha : a ≤ 6) (hxx : x < 6) (hn : n ≤ 60) (hO : okH N) (hW : cW E ad st N Rs a x C n) (c : Nat) (hc : c < 36) (d : Nat) (hd : d < 8) (v : Int32) (hbad : ¬ v < 1 → ¬ v ≤ 50) : nX l yX4_ifBar wsX4_ifBar (nRx 8 124) E ad st [.ref (ad 0), .int (nI c), .int (nI d), .int v] "java/lang/IllegalArgumentException" (fun s1 => st = s1) := by
  refine nSx (cc := cX4_ifBar) (maxL := 6) (by decide) rfl (Nat.le_of_ble_eq_true rfl) ?_
  intro pg en s mi ar bw mth cd R A ls hx hb hml hown hts hRm hP hK hD hZ hA hl hlocks htab
  subst hRm
  have hown : s.vm.findClass RX4 = some mi.cls := hown
  have hS : va_S A s.heap s.heap [] := va_S.rf
  have hl : lv_has ls 6 [(0, .ref (ad 0)), (1, .int (nI c)), (2, .int (nI d)), (3, .int v)] := hl
  obtain ⟨hN, hH, hQr, hT, ⟨R0, hB⟩, hR, ⟨Tr, hTr⟩, hRg⟩ := hW
  obtain ⟨G9, hGN⟩ : ∃ G9, G9 = gN N := ⟨_, rfl⟩
  rw [← hGN] at hR
  have hf : frX 0 208 st st := frX.rf
  have hinX2 : ∀ w ∈ wsX20, w ∈ wsX4_ifBar := by decide +kernel
  have hinX4 : ∀ w ∈ wsX40, w ∈ wsX4_ifBar := by decide +kernel
  refine lv_iload_n hx hb dX4_ifBar_0 rfl (lv_at hl 1 rfl) ?_
  refine nS_v (As := [.int (nI c)]) (rest := _) hx hb hml hown hts hP hK hD hZ hA hS ⟨Nat.zero_le _, Nat.zero_le _⟩ (c_requireCell l E ad st c (by omega)) (va_cwS 1 hts gX4_ifBar_X4_requireCell rfl rfl rfl (by decide +kernel) ⟨Nat.le_of_ble_eq_true rfl, Nat.le_of_ble_eq_true rfl⟩) hl.1 rfl (Nat.le_of_ble_eq_true rfl) dX4_ifBar_1 (fun s_1 H locs hq hP hD hS => ?_)
  obtain rfl := hq
  refine lv_iload_n hx hb dX4_ifBar_4 rfl (lv_at hl 2 rfl) ?_
  refine nS_v (As := [.int (nI d)]) (rest := _) hx hb hml hown hts hP hK hD hZ hA hS ⟨Nat.zero_le _, Nat.zero_le _⟩ (c_requireDirection l E ad st d (by omega)) (va_cwS 1 hts gX4_ifBar_X4_requireDirection rfl rfl rfl (by decide +kernel) ⟨Nat.le_of_ble_eq_true rfl, Nat.le_of_ble_eq_true rfl⟩) hl.1 rfl (Nat.le_of_ble_eq_true rfl) dX4_ifBar_5 (fun s_2 H locs hq hP hD hS => ?_)
  obtain rfl := hq
  refine lv_iload_n hx hb dX4_ifBar_8 rfl (lv_at hl 3 rfl) ?_
  refine lv_iconst (v := 1) hx hb dX4_ifBar_9 (by decide) ?_
  refine lv_bipush (v := 50) hx hb dX4_ifBar_10 (by decide) ?_
  refine nTS (As := [.int v, .int 1, .int 50]) (rest := _) hx hb hml hown hts hP hK hD hZ hA hS ⟨Nat.le_of_ble_eq_true rfl, Nat.le_of_ble_eq_true rfl⟩ (x_requireBetween l hlt E ad st v 1 50 hbad) (va_cwS 3 hts gX4_ifBar_X4_requireBetween rfl rfl rfl (by decide +kernel) ⟨Nat.le_of_ble_eq_true rfl, Nat.le_of_ble_eq_true rfl⟩) hl.1 rfl (Nat.le_of_ble_eq_true rfl) dX4_ifBar_12 (fun q ce st1 H1 locs1 hq hP hD hS hc hv hcl => ?_)
  exact nOut htab hlocks hK hq hP hD hS hc hv hcl

set_option maxHeartbeats 4000000 in
set_option maxRecDepth 100000 in
theorem x_bestBar_t (l : Launch) (hlt : l.stackTraces = false) (E : NE) (ad : Nat → Nat) (st : NW) (N : Nat → Int32) (Rs : Nat → Nat → Int32) (a x : Nat) (C : Nat → Int32) (n : Nat) (ha : a ≤ 6) (hxx : x < 6) (hn : n ≤ 60) (hO : okH N) (hW : cW E ad st N Rs a x C n) (c : Nat) (hc : c < 36) (d : Nat) (hd : d < 8) (v : Int32) (hbad : ¬ v < 1 → ¬ v ≤ 50) : nX l yX4_bestBar wsX4_bestBar (nRx 8 124) E ad st [.ref (ad 0), .int (nI c), .int (nI d), .int v] "java/lang/IllegalArgumentException" (fun s1 => st = s1) := by
  refine nSx (cc := cX4_bestBar) (maxL := 6) (by decide) rfl (Nat.le_of_ble_eq_true rfl) ?_
  intro pg en s mi ar bw mth cd R A ls hx hb hml hown hts hRm hP hK hD hZ hA hl hlocks htab
  subst hRm
  have hown : s.vm.findClass RX4 = some mi.cls := hown
  have hS : va_S A s.heap s.heap [] := va_S.rf
  have hl : lv_has ls 6 [(0, .ref (ad 0)), (1, .int (nI c)), (2, .int (nI d)), (3, .int v)] := hl
  obtain ⟨hN, hH, hQr, hT, ⟨R0, hB⟩, hR, ⟨Tr, hTr⟩, hRg⟩ := hW
  obtain ⟨G9, hGN⟩ : ∃ G9, G9 = gN N := ⟨_, rfl⟩
  rw [← hGN] at hR
  have hf : frX 0 208 st st := frX.rf
  have hinX2 : ∀ w ∈ wsX20, w ∈ wsX4_bestBar := by decide +kernel
  have hinX4 : ∀ w ∈ wsX40, w ∈ wsX4_bestBar := by decide +kernel
  refine lv_iload_n hx hb dX4_bestBar_0 rfl (lv_at hl 1 rfl) ?_
  refine nS_v (As := [.int (nI c)]) (rest := _) hx hb hml hown hts hP hK hD hZ hA hS ⟨Nat.zero_le _, Nat.zero_le _⟩ (c_requireCell l E ad st c (by omega)) (va_cwS 1 hts gX4_bestBar_X4_requireCell rfl rfl rfl (by decide +kernel) ⟨Nat.le_of_ble_eq_true rfl, Nat.le_of_ble_eq_true rfl⟩) hl.1 rfl (Nat.le_of_ble_eq_true rfl) dX4_bestBar_1 (fun s_1 H locs hq hP hD hS => ?_)
  obtain rfl := hq
  refine lv_iload_n hx hb dX4_bestBar_4 rfl (lv_at hl 2 rfl) ?_
  refine nS_v (As := [.int (nI d)]) (rest := _) hx hb hml hown hts hP hK hD hZ hA hS ⟨Nat.zero_le _, Nat.zero_le _⟩ (c_requireDirection l E ad st d (by omega)) (va_cwS 1 hts gX4_bestBar_X4_requireDirection rfl rfl rfl (by decide +kernel) ⟨Nat.le_of_ble_eq_true rfl, Nat.le_of_ble_eq_true rfl⟩) hl.1 rfl (Nat.le_of_ble_eq_true rfl) dX4_bestBar_5 (fun s_2 H locs hq hP hD hS => ?_)
  obtain rfl := hq
  refine lv_iload_n hx hb dX4_bestBar_8 rfl (lv_at hl 3 rfl) ?_
  refine lv_iconst (v := 1) hx hb dX4_bestBar_9 (by decide) ?_
  refine lv_bipush (v := 50) hx hb dX4_bestBar_10 (by decide) ?_
  refine nTS (As := [.int v, .int 1, .int 50]) (rest := _) hx hb hml hown hts hP hK hD hZ hA hS ⟨Nat.le_of_ble_eq_true rfl, Nat.le_of_ble_eq_true rfl⟩ (x_requireBetween l hlt E ad st v 1 50 hbad) (va_cwS 3 hts gX4_bestBar_X4_requireBetween rfl rfl rfl (by decide +kernel) ⟨Nat.le_of_ble_eq_true rfl, Nat.le_of_ble_eq_true rfl⟩) hl.1 rfl (Nat.le_of_ble_eq_true rfl) dX4_bestBar_12 (fun q ce st1 H1 locs1 hq hP hD hS hc hv hcl => ?_)
  exact nOut htab hlocks hK hq hP hD hS hc hv hcl

set_option maxHeartbeats 4000000 in
set_option maxRecDepth 100000 in
theorem x_friction_v (l : Launch) (hlt : l.stackTraces = false) (E : NE) (ad : Nat → Nat) (st : NW) (N : Nat → Int32) (Rs : Nat → Nat → Int32) (a x : Nat) (C : Nat → Int32) (n : Nat) (ha : a ≤ 6) (hxx : x < 6) (hn : n ≤ 60) (hO : okH N) (hW : cW E ad st N Rs a x C n) (c : Nat) (hc : c < 36) (v : Int32) (hbad : ¬ v < 0 → ¬ v ≤ 999) : nX l yX4_friction wsX4_friction (nRx 8 124) E ad st [.ref (ad 0), .int (nI c), .int v] "java/lang/IllegalArgumentException" (fun s1 => st = s1) := by
  refine nSx (cc := cX4_friction) (maxL := 4) (by decide) rfl (Nat.le_of_ble_eq_true rfl) ?_
  intro pg en s mi ar bw mth cd R A ls hx hb hml hown hts hRm hP hK hD hZ hA hl hlocks htab
  subst hRm
  have hown : s.vm.findClass RX4 = some mi.cls := hown
  have hS : va_S A s.heap s.heap [] := va_S.rf
  have hl : lv_has ls 4 [(0, .ref (ad 0)), (1, .int (nI c)), (2, .int v)] := hl
  obtain ⟨hN, hH, hQr, hT, ⟨R0, hB⟩, hR, ⟨Tr, hTr⟩, hRg⟩ := hW
  obtain ⟨G9, hGN⟩ : ∃ G9, G9 = gN N := ⟨_, rfl⟩
  rw [← hGN] at hR
  have hf : frX 0 208 st st := frX.rf
  have hinX2 : ∀ w ∈ wsX20, w ∈ wsX4_friction := by decide +kernel
  have hinX3 : ∀ w ∈ wsX30, w ∈ wsX4_friction := by decide +kernel
  have hinX4 : ∀ w ∈ wsX40, w ∈ wsX4_friction := by decide +kernel
  refine lv_iload_n hx hb dX4_friction_0 rfl (lv_at hl 1 rfl) ?_
  refine nS_v (As := [.int (nI c)]) (rest := _) hx hb hml hown hts hP hK hD hZ hA hS ⟨Nat.zero_le _, Nat.zero_le _⟩ (c_requireCell l E ad st c (by omega)) (va_cwS 1 hts gX4_friction_X4_requireCell rfl rfl rfl (by decide +kernel) ⟨Nat.le_of_ble_eq_true rfl, Nat.le_of_ble_eq_true rfl⟩) hl.1 rfl (Nat.le_of_ble_eq_true rfl) dX4_friction_1 (fun s_1 H locs hq hP hD hS => ?_)
  obtain rfl := hq
  refine lv_iload_n hx hb dX4_friction_4 rfl (lv_at hl 2 rfl) ?_
  refine lv_iconst (v := 0) hx hb dX4_friction_5 (by decide) ?_
  refine lv_sipush (v := 999) hx hb dX4_friction_6 (by decide) ?_
  refine nTS (As := [.int v, .int 0, .int 999]) (rest := _) hx hb hml hown hts hP hK hD hZ hA hS ⟨Nat.le_of_ble_eq_true rfl, Nat.le_of_ble_eq_true rfl⟩ (x_requireBetween l hlt E ad st v 0 999 hbad) (va_cwS 3 hts gX4_friction_X4_requireBetween rfl rfl rfl (by decide +kernel) ⟨Nat.le_of_ble_eq_true rfl, Nat.le_of_ble_eq_true rfl⟩) hl.1 rfl (Nat.le_of_ble_eq_true rfl) dX4_friction_9 (fun q ce st1 H1 locs1 hq hP hD hS hc hv hcl => ?_)
  exact nOut htab hlocks hK hq hP hD hS hc hv hcl

set_option maxHeartbeats 4000000 in
set_option maxRecDepth 100000 in
theorem x_coil_t (l : Launch) (hlt : l.stackTraces = false) (E : NE) (ad : Nat → Nat) (st : NW) (N : Nat → Int32) (Rs : Nat → Nat → Int32) (a x : Nat) (C : Nat → Int32) (n : Nat) (ha : a ≤ 6) (hxx : x < 6) (hn : n ≤ 60) (hO : okH N) (hW : cW E ad st N Rs a x C n) (v d : Int32) (hbad : ¬ v < 0 → ¬ v ≤ 50) : nX l yX4_coil wsX4_coil (nRx 8 124) E ad st [.ref (ad 0), .int v, .int d] "java/lang/IllegalArgumentException" (fun s1 => st = s1) := by
  refine nSx (cc := cX4_coil) (maxL := 4) (by decide) rfl (Nat.le_of_ble_eq_true rfl) ?_
  intro pg en s mi ar bw mth cd R A ls hx hb hml hown hts hRm hP hK hD hZ hA hl hlocks htab
  subst hRm
  have hown : s.vm.findClass RX4 = some mi.cls := hown
  have hS : va_S A s.heap s.heap [] := va_S.rf
  have hl : lv_has ls 4 [(0, .ref (ad 0)), (1, .int v), (2, .int d)] := hl
  obtain ⟨hN, hH, hQr, hT, ⟨R0, hB⟩, hR, ⟨Tr, hTr⟩, hRg⟩ := hW
  obtain ⟨G9, hGN⟩ : ∃ G9, G9 = gN N := ⟨_, rfl⟩
  rw [← hGN] at hR
  have hf : frX 0 208 st st := frX.rf
  have hinX2 : ∀ w ∈ wsX20, w ∈ wsX4_coil := by decide +kernel
  have hinX3 : ∀ w ∈ wsX30, w ∈ wsX4_coil := by decide +kernel
  have hinX4 : ∀ w ∈ wsX40, w ∈ wsX4_coil := by decide +kernel
  refine lv_iload_n hx hb dX4_coil_0 rfl (lv_at hl 1 rfl) ?_
  refine lv_iconst (v := 0) hx hb dX4_coil_1 (by decide) ?_
  refine lv_bipush (v := 50) hx hb dX4_coil_2 (by decide) ?_
  refine nTS (As := [.int v, .int 0, .int 50]) (rest := _) hx hb hml hown hts hP hK hD hZ hA hS ⟨Nat.le_of_ble_eq_true rfl, Nat.le_of_ble_eq_true rfl⟩ (x_requireBetween l hlt E ad st v 0 50 hbad) (va_cwS 3 hts gX4_coil_X4_requireBetween rfl rfl rfl (by decide +kernel) ⟨Nat.le_of_ble_eq_true rfl, Nat.le_of_ble_eq_true rfl⟩) hl.1 rfl (Nat.le_of_ble_eq_true rfl) dX4_coil_4 (fun q ce st1 H1 locs1 hq hP hD hS hc hv hcl => ?_)
  exact nOut htab hlocks hK hq hP hD hS hc hv hcl

set_option maxHeartbeats 4000000 in
set_option maxRecDepth 100000 in
theorem x_coil_d (l : Launch) (hlt : l.stackTraces = false) (E : NE) (ad : Nat → Nat) (st : NW) (N : Nat → Int32) (Rs : Nat → Nat → Int32) (a x : Nat) (C : Nat → Int32) (n : Nat) (ha : a ≤ 6) (hxx : x < 6) (hn : n ≤ 60) (hO : okH N) (hW : cW E ad st N Rs a x C n) (t : Int32) (h1 : ¬ t < 0) (h2 : t ≤ 50) (v : Int32) (hbad : ¬ v < 0 → ¬ v ≤ 7) : nX l yX4_coil wsX4_coil (nRx 8 124) E ad st [.ref (ad 0), .int t, .int v] "java/lang/IllegalArgumentException" (fun s1 => st = s1) := by
  refine nSx (cc := cX4_coil) (maxL := 4) (by decide) rfl (Nat.le_of_ble_eq_true rfl) ?_
  intro pg en s mi ar bw mth cd R A ls hx hb hml hown hts hRm hP hK hD hZ hA hl hlocks htab
  subst hRm
  have hown : s.vm.findClass RX4 = some mi.cls := hown
  have hS : va_S A s.heap s.heap [] := va_S.rf
  have hl : lv_has ls 4 [(0, .ref (ad 0)), (1, .int t), (2, .int v)] := hl
  obtain ⟨hN, hH, hQr, hT, ⟨R0, hB⟩, hR, ⟨Tr, hTr⟩, hRg⟩ := hW
  obtain ⟨G9, hGN⟩ : ∃ G9, G9 = gN N := ⟨_, rfl⟩
  rw [← hGN] at hR
  have hf : frX 0 208 st st := frX.rf
  have hinX2 : ∀ w ∈ wsX20, w ∈ wsX4_coil := by decide +kernel
  have hinX3 : ∀ w ∈ wsX30, w ∈ wsX4_coil := by decide +kernel
  have hinX4 : ∀ w ∈ wsX40, w ∈ wsX4_coil := by decide +kernel
  refine lv_iload_n hx hb dX4_coil_0 rfl (lv_at hl 1 rfl) ?_
  refine lv_iconst (v := 0) hx hb dX4_coil_1 (by decide) ?_
  refine lv_bipush (v := 50) hx hb dX4_coil_2 (by decide) ?_
  refine nS_v (As := [.int t, .int 0, .int 50]) (rest := _) hx hb hml hown hts hP hK hD hZ hA hS ⟨Nat.zero_le _, Nat.zero_le _⟩ (c_requireBetween l E ad st t 0 50 h1 h2) (va_cwS 3 hts gX4_coil_X4_requireBetween rfl rfl rfl (by decide +kernel) ⟨Nat.le_of_ble_eq_true rfl, Nat.le_of_ble_eq_true rfl⟩) hl.1 rfl (Nat.le_of_ble_eq_true rfl) dX4_coil_4 (fun s_1 H locs hq hP hD hS => ?_)
  obtain rfl := hq
  refine lv_iload_n hx hb dX4_coil_7 rfl (lv_at hl 2 rfl) ?_
  refine nTS (As := [.int v]) (rest := _) hx hb hml hown hts hP hK hD hZ hA hS ⟨Nat.le_of_ble_eq_true rfl, Nat.le_of_ble_eq_true rfl⟩ (x_requireDirection l hlt E ad st v hbad) (va_cwS 1 hts gX4_coil_X4_requireDirection rfl rfl rfl (by decide +kernel) ⟨Nat.le_of_ble_eq_true rfl, Nat.le_of_ble_eq_true rfl⟩) hl.1 rfl (Nat.le_of_ble_eq_true rfl) dX4_coil_8 (fun q ce st1 H1 locs1 hq hP hD hS hc hv hcl => ?_)
  exact nOut htab hlocks hK hq hP hD hS hc hv hcl

set_option maxHeartbeats 4000000 in
set_option maxRecDepth 100000 in
theorem x_set_c (l : Launch) (hlt : l.stackTraces = false) (E : NE) (ad : Nat → Nat) (st : NW) (N : Nat → Int32) (Rs : Nat → Nat → Int32) (a x : Nat) (C : Nat → Int32) (n : Nat) (ha : a ≤ 6) (hxx : x < 6) (hn : n ≤ 60) (hO : okH N) (hW : cW E ad st N Rs a x C n) (v d : Int32) (hbad : ¬ v < 0 → ¬ v < 3) : nX l yX4_set wsX4_set (nRx 8 124) E ad st [.ref (ad 0), .int v, .int d] "java/lang/IndexOutOfBoundsException" (fun s1 => st = s1) := by
  refine nSx (cc := cX4_set) (maxL := 4) (by decide) rfl (Nat.le_of_ble_eq_true rfl) ?_
  intro pg en s mi ar bw mth cd R A ls hx hb hml hown hts hRm hP hK hD hZ hA hl hlocks htab
  subst hRm
  have hown : s.vm.findClass RX4 = some mi.cls := hown
  have hS : va_S A s.heap s.heap [] := va_S.rf
  have hl : lv_has ls 4 [(0, .ref (ad 0)), (1, .int v), (2, .int d)] := hl
  obtain ⟨hN, hH, hQr, hT, ⟨R0, hB⟩, hR, ⟨Tr, hTr⟩, hRg⟩ := hW
  obtain ⟨G9, hGN⟩ : ∃ G9, G9 = gN N := ⟨_, rfl⟩
  rw [← hGN] at hR
  have hf : frX 0 208 st st := frX.rf
  have hinX2 : ∀ w ∈ wsX20, w ∈ wsX4_set := by decide +kernel
  have hinX3 : ∀ w ∈ wsX30, w ∈ wsX4_set := by decide +kernel
  have hinX4 : ∀ w ∈ wsX40, w ∈ wsX4_set := by decide +kernel
  refine lv_iload_n hx hb dX4_set_0 rfl (lv_at hl 1 rfl) ?_
  refine nTS (As := [.int v]) (rest := _) hx hb hml hown hts hP hK hD hZ hA hS ⟨Nat.le_of_ble_eq_true rfl, Nat.le_of_ble_eq_true rfl⟩ (x_requireSetting l hlt E ad st v hbad) (va_cwS 1 hts gX4_set_X4_requireSetting rfl rfl rfl (by decide +kernel) ⟨Nat.le_of_ble_eq_true rfl, Nat.le_of_ble_eq_true rfl⟩) hl.1 rfl (Nat.le_of_ble_eq_true rfl) dX4_set_1 (fun q ce st1 H1 locs1 hq hP hD hS hc hv hcl => ?_)
  exact nOut htab hlocks hK hq hP hD hS hc hv hcl

set_option maxHeartbeats 4000000 in
set_option maxRecDepth 100000 in
theorem x_set_v (l : Launch) (hlt : l.stackTraces = false) (E : NE) (ad : Nat → Nat) (st : NW) (N : Nat → Int32) (Rs : Nat → Nat → Int32) (a x : Nat) (C : Nat → Int32) (n : Nat) (ha : a ≤ 6) (hxx : x < 6) (hn : n ≤ 60) (hO : okH N) (hW : cW E ad st N Rs a x C n) (c : Nat) (hc : c < 3) (v : Int32) (hbad : ¬ v < 0 → ¬ v ≤ tM c) : nX l yX4_set wsX4_set (nRx 8 124) E ad st [.ref (ad 0), .int (nI c), .int v] "java/lang/IllegalArgumentException" (fun s1 => st = s1) := by
  refine nSx (cc := cX4_set) (maxL := 4) (by decide) rfl (Nat.le_of_ble_eq_true rfl) ?_
  intro pg en s mi ar bw mth cd R A ls hx hb hml hown hts hRm hP hK hD hZ hA hl hlocks htab
  subst hRm
  have hown : s.vm.findClass RX4 = some mi.cls := hown
  have hS : va_S A s.heap s.heap [] := va_S.rf
  have hl : lv_has ls 4 [(0, .ref (ad 0)), (1, .int (nI c)), (2, .int v)] := hl
  obtain ⟨hN, hH, hQr, hT, ⟨R0, hB⟩, hR, ⟨Tr, hTr⟩, hRg⟩ := hW
  obtain ⟨G9, hGN⟩ : ∃ G9, G9 = gN N := ⟨_, rfl⟩
  rw [← hGN] at hR
  have hf : frX 0 208 st st := frX.rf
  have hinX2 : ∀ w ∈ wsX20, w ∈ wsX4_set := by decide +kernel
  have hinX3 : ∀ w ∈ wsX30, w ∈ wsX4_set := by decide +kernel
  have hinX4 : ∀ w ∈ wsX40, w ∈ wsX4_set := by decide +kernel
  refine lv_iload_n hx hb dX4_set_0 rfl (lv_at hl 1 rfl) ?_
  refine nS_v (As := [.int (nI c)]) (rest := _) hx hb hml hown hts hP hK hD hZ hA hS ⟨Nat.zero_le _, Nat.zero_le _⟩ (c_requireSetting l E ad st c (by omega)) (va_cwS 1 hts gX4_set_X4_requireSetting rfl rfl rfl (by decide +kernel) ⟨Nat.le_of_ble_eq_true rfl, Nat.le_of_ble_eq_true rfl⟩) hl.1 rfl (Nat.le_of_ble_eq_true rfl) dX4_set_1 (fun s_1 H locs hq hP hD hS => ?_)
  obtain rfl := hq
  refine lv_iload_n hx hb dX4_set_4 rfl (lv_at hl 2 rfl) ?_
  refine lv_iconst (v := 0) hx hb dX4_set_5 (by decide) ?_
  refine ngs hx hb hZ.1.2.2 hS hown (hts (.fieldLink RX4 102 "NeedleGrid" "MOST_OF_SETTING" "[I") (by decide +kernel)) dX4_set_6 ?_
  refine lv_iload_n hx hb dX4_set_9 rfl (lv_at hl 1 rfl) ?_
  refine nga hx hb hZ.1.2.2 hS (vp_in_nI hc (by decide)) dX4_set_10 ?_
  refine nTS (As := [.int v, .int 0, .int (tM (nI c).toNatClampNeg)]) (rest := _) hx hb hml hown hts hP hK hD hZ hA hS ⟨Nat.le_of_ble_eq_true rfl, Nat.le_of_ble_eq_true rfl⟩ (x_requireBetween l hlt E ad st v 0 (tM (nI c).toNatClampNeg) (by rw [nI_clamp (by omega)]; exact hbad)) (va_cwS 3 hts gX4_set_X4_requireBetween rfl rfl rfl (by decide +kernel) ⟨Nat.le_of_ble_eq_true rfl, Nat.le_of_ble_eq_true rfl⟩) hl.1 rfl (Nat.le_of_ble_eq_true rfl) dX4_set_11 (fun q ce st1 H1 locs1 hq hP hD hS hc hv hcl => ?_)
  exact nOut htab hlocks hK hq hP hD hS hc hv hcl

set_option maxHeartbeats 4000000 in
set_option maxRecDepth 100000 in
theorem x_step (l : Launch) (hlt : l.stackTraces = false) (E : NE) (ad : Nat → Nat) (st : NW) (N : Nat → Int32) (Rs : Nat → Nat → Int32) (a x : Nat) (C : Nat → Int32) (n : Nat) (ha : a ≤ 6) (hxx : x < 6) (hn : n ≤ 60) (hO : okH N) (hW : cW E ad st N Rs a x C n) (v : Int32) (hbad : ¬ v < 1 → ¬ v ≤ 50) : nX l yX4_step wsX4_step (nRx 8 124) E ad st [.ref (ad 0), .int v] "java/lang/IllegalArgumentException" (fun s1 => st = s1) := by
  refine nSx (cc := cX4_step) (maxL := 2) (by decide) rfl (Nat.le_of_ble_eq_true rfl) ?_
  intro pg en s mi ar bw mth cd R A ls hx hb hml hown hts hRm hP hK hD hZ hA hl hlocks htab
  subst hRm
  have hown : s.vm.findClass RX4 = some mi.cls := hown
  have hS : va_S A s.heap s.heap [] := va_S.rf
  have hl : lv_has ls 2 [(0, .ref (ad 0)), (1, .int v)] := hl
  obtain ⟨hN, hH, hQr, hT, ⟨R0, hB⟩, hR, ⟨Tr, hTr⟩, hRg⟩ := hW
  obtain ⟨G9, hGN⟩ : ∃ G9, G9 = gN N := ⟨_, rfl⟩
  rw [← hGN] at hR
  have hf : frX 0 208 st st := frX.rf
  have hinX2 : ∀ w ∈ wsX20, w ∈ wsX4_step := by decide +kernel
  have hinX3 : ∀ w ∈ wsX30, w ∈ wsX4_step := by decide +kernel
  have hinX4 : ∀ w ∈ wsX40, w ∈ wsX4_step := by decide +kernel
  refine lv_iload_n hx hb dX4_step_0 rfl (lv_at hl 1 rfl) ?_
  refine lv_iconst (v := 1) hx hb dX4_step_1 (by decide) ?_
  refine lv_bipush (v := 50) hx hb dX4_step_2 (by decide) ?_
  refine nTS (As := [.int v, .int 1, .int 50]) (rest := _) hx hb hml hown hts hP hK hD hZ hA hS ⟨Nat.le_of_ble_eq_true rfl, Nat.le_of_ble_eq_true rfl⟩ (x_requireBetween l hlt E ad st v 1 50 hbad) (va_cwS 3 hts gX4_step_X4_requireBetween rfl rfl rfl (by decide +kernel) ⟨Nat.le_of_ble_eq_true rfl, Nat.le_of_ble_eq_true rfl⟩) hl.1 rfl (Nat.le_of_ble_eq_true rfl) dX4_step_4 (fun q ce st1 H1 locs1 hq hP hD hS hc hv hcl => ?_)
  exact nOut htab hlocks hK hq hP hD hS hc hv hcl

set_option maxHeartbeats 4000000 in
set_option maxRecDepth 100000 in
theorem x_append_v (l : Launch) (hlt : l.stackTraces = false) (E : NE) (ad : Nat → Nat) (st : NW) (N : Nat → Int32) (Rs : Nat → Nat → Int32) (a x : Nat) (C : Nat → Int32) (n : Nat) (ha : a ≤ 6) (hxx : x < 6) (hn : n ≤ 60) (hO : okH N) (hW : cW E ad st N Rs a x C n) (v : Int32) (hbad : ¬ v < 33 → ¬ v ≤ 126) : nX l yX4_append wsX4_append (nRx 8 124) E ad st [.ref (ad 0), .int v] "java/lang/IllegalArgumentException" (fun s1 => st = s1) := by
  refine nSx (cc := cX4_append) (maxL := 2) (by decide) rfl (Nat.le_of_ble_eq_true rfl) ?_
  intro pg en s mi ar bw mth cd R A ls hx hb hml hown hts hRm hP hK hD hZ hA hl hlocks htab
  subst hRm
  have hown : s.vm.findClass RX4 = some mi.cls := hown
  have hS : va_S A s.heap s.heap [] := va_S.rf
  have hl : lv_has ls 2 [(0, .ref (ad 0)), (1, .int v)] := hl
  obtain ⟨hN, hH, hQr, hT, ⟨R0, hB⟩, hR, ⟨Tr, hTr⟩, hRg⟩ := hW
  obtain ⟨G9, hGN⟩ : ∃ G9, G9 = gN N := ⟨_, rfl⟩
  rw [← hGN] at hR
  have hf : frX 0 208 st st := frX.rf
  have hinX1 : ∀ w ∈ wsX10, w ∈ wsX4_append := by decide +kernel
  have hinX4 : ∀ w ∈ wsX40, w ∈ wsX4_append := by decide +kernel
  refine lv_iload_n hx hb dX4_append_0 rfl (lv_at hl 1 rfl) ?_
  refine lv_bipush (v := 33) hx hb dX4_append_1 (by decide) ?_
  refine lv_bipush (v := 126) hx hb dX4_append_3 (by decide) ?_
  refine nTS (As := [.int v, .int 33, .int 126]) (rest := _) hx hb hml hown hts hP hK hD hZ hA hS ⟨Nat.le_of_ble_eq_true rfl, Nat.le_of_ble_eq_true rfl⟩ (x_requireBetween l hlt E ad st v 33 126 hbad) (va_cwS 3 hts gX4_append_X4_requireBetween rfl rfl rfl (by decide +kernel) ⟨Nat.le_of_ble_eq_true rfl, Nat.le_of_ble_eq_true rfl⟩) hl.1 rfl (Nat.le_of_ble_eq_true rfl) dX4_append_5 (fun q ce st1 H1 locs1 hq hP hD hS hc hv hcl => ?_)
  exact nOut htab hlocks hK hq hP hD hS hc hv hcl

set_option maxHeartbeats 4000000 in
set_option maxRecDepth 100000 in
theorem x_append_n (l : Launch) (hlt : l.stackTraces = false) (E : NE) (ad : Nat → Nat) (st : NW) (N : Nat → Int32) (Rs : Nat → Nat → Int32) (a x : Nat) (C : Nat → Int32) (n : Nat) (ha : a ≤ 6) (hxx : x < 6) (hn : n ≤ 60) (hO : okH N) (hW : cW E ad st N Rs a x C n) (v : Int32) (h1 : ¬ v < 33) (h2 : v ≤ 126) (hn6 : 60 ≤ n) : nX l yX4_append wsX4_append (nRx 8 124) E ad st [.ref (ad 0), .int v] "java/lang/IllegalStateException" (fun s1 => st = s1) := by
  refine nSx (cc := cX4_append) (maxL := 2) (by decide) rfl (Nat.le_of_ble_eq_true rfl) ?_
  intro pg en s mi ar bw mth cd R A ls hx hb hml hown hts hRm hP hK hD hZ hA hl hlocks htab
  subst hRm
  have hown : s.vm.findClass RX4 = some mi.cls := hown
  have hS : va_S A s.heap s.heap [] := va_S.rf
  have hl : lv_has ls 2 [(0, .ref (ad 0)), (1, .int v)] := hl
  obtain ⟨hN, hH, hQr, hT, ⟨R0, hB⟩, hR, ⟨Tr, hTr⟩, hRg⟩ := hW
  obtain ⟨G9, hGN⟩ : ∃ G9, G9 = gN N := ⟨_, rfl⟩
  rw [← hGN] at hR
  have hf : frX 0 208 st st := frX.rf
  have hinX1 : ∀ w ∈ wsX10, w ∈ wsX4_append := by decide +kernel
  have hinX4 : ∀ w ∈ wsX40, w ∈ wsX4_append := by decide +kernel
  refine lv_iload_n hx hb dX4_append_0 rfl (lv_at hl 1 rfl) ?_
  refine lv_bipush (v := 33) hx hb dX4_append_1 (by decide) ?_
  refine lv_bipush (v := 126) hx hb dX4_append_3 (by decide) ?_
  refine nS_v (As := [.int v, .int 33, .int 126]) (rest := _) hx hb hml hown hts hP hK hD hZ hA hS ⟨Nat.zero_le _, Nat.zero_le _⟩ (c_requireBetween l E ad st v 33 126 h1 h2) (va_cwS 3 hts gX4_append_X4_requireBetween rfl rfl rfl (by decide +kernel) ⟨Nat.le_of_ble_eq_true rfl, Nat.le_of_ble_eq_true rfl⟩) hl.1 rfl (Nat.le_of_ble_eq_true rfl) dX4_append_5 (fun s_1 H locs hq hP hD hS => ?_)
  obtain rfl := hq
  refine lv_aload_n hx hb dX4_append_8 rfl (lv_at hl 0 rfl) ?_
  refine rg (v := .ref (ad 32)) (T := TX4) (N := 4) (C := RX4) hx hb hts hinX4 hown hK hP hN rfl 3 (by decide) (hts (.fieldLink RX4 29 "NeedleGrid" "text" "LNeedleGrid$BarText;") (by decide +kernel)) rfl dX4_append_9 ?_
  refine rgN (v := .int (nI n)) (T := TX1) (N := 3) (C := RX1) hx hb hts hinX1 hown hK hP hT rfl 1 (by decide) (nlF_112 hZ) rfl dX4_append_12 ?_
  refine lv_bipush (v := 60) hx hb dX4_append_15 (by decide) ?_
  refine lv_icmp_lt (tgt := 30) hx hb dX4_append_17 (by decide) (fun c17_1 => absurd ((nI_ltL (n := 60) rfl (by decide) (by omega)).mp c17_1) (by omega)) (fun c17_1 => ?_)
  obtain ⟨sa, hsa⟩ := hZ.2.2.2.2.1 (115, "the buffer has 60 characters") (List.mem_of_getElem? (i := 8) rfl)
  exact nThr (Ec := "java/lang/IllegalStateException") (text := "the buffer has 60 characters") (ik := 74) (is := 115) (ic := 78) (own := RX4) hx hb hlt hown (by decide +kernel) (hts (.classLink RX4 74 "java/lang/IllegalStateException") (by decide +kernel)) (hts (.initialized "java/lang/IllegalStateException") (by decide +kernel)) hsa (vx_hat (fun w9 h9 => hts w9 ((by decide +kernel : ∀ w8 ∈ (vx_atS RX4 78 "java/lang/IllegalStateException" nEx).filter goodWord, w8 ∈ wsX4_append) w9 h9)) (by decide +kernel) (nXB hZ.2.2.2.2.2.1.2.2 hZ.2.2.2.2.2)) (by decide +kernel) hP hK hD hZ hS (hl.1.trans hml.symm) dX4_append_20 dX4_append_23 dX4_append_24 dX4_append_26 dX4_append_29 htab rfl (by decide) (Nat.le_of_ble_eq_true rfl) hlocks rfl

set_option maxHeartbeats 4000000 in
set_option maxRecDepth 100000 in
theorem x_bar_n (l : Launch) (hlt : l.stackTraces = false) (E : NE) (ad : Nat → Nat) (st : NW) (N : Nat → Int32) (Rs : Nat → Nat → Int32) (a x : Nat) (C : Nat → Int32) (n : Nat) (ha : a ≤ 6) (hxx : x < 6) (hn : n ≤ 60) (hO : okH N) (hW : cW E ad st N Rs a x C n) (c : Nat) (hc : c < 36) (d : Nat) (t : Int32) (hd : d < 8) (h1 : ¬ t < 1) (h2 : t ≤ 50) (hb0 : gN N 4 c ≤ 0) (hb6 : 6 ≤ cnI (fun k => isB (gN N 4) k) 36) : nX l yX4_bar wsX4_bar (nRx 8 124) E ad st [.ref (ad 0), .int (nI c), .int (nI d), .int t] "java/lang/IllegalStateException" (fun s1 => st = s1) := by
  refine nSx (cc := cX4_bar) (maxL := 4) (by decide) rfl (Nat.le_of_ble_eq_true rfl) ?_
  intro pg en s mi ar bw mth cd R A ls hx hb hml hown hts hRm hP hK hD hZ hA hl hlocks htab
  subst hRm
  have hown : s.vm.findClass RX4 = some mi.cls := hown
  have hS : va_S A s.heap s.heap [] := va_S.rf
  have hl : lv_has ls 4 [(0, .ref (ad 0)), (1, .int (nI c)), (2, .int (nI d)), (3, .int t)] := hl
  obtain ⟨hN, hH, hQr, hT, ⟨R0, hB⟩, hR, ⟨Tr, hTr⟩, hRg⟩ := hW
  obtain ⟨G9, hGN⟩ : ∃ G9, G9 = gN N := ⟨_, rfl⟩
  rw [← hGN] at hR
  have hf : frX 0 208 st st := frX.rf
  rw [← hGN] at hb0 hb6
  have hinX2 : ∀ w ∈ wsX20, w ∈ wsX4_bar := by decide +kernel
  have hinX3 : ∀ w ∈ wsX30, w ∈ wsX4_bar := by decide +kernel
  have hinX4 : ∀ w ∈ wsX40, w ∈ wsX4_bar := by decide +kernel
  refine lv_iload_n hx hb dX4_bar_0 rfl (lv_at hl 1 rfl) ?_
  refine nS_v (As := [.int (nI c)]) (rest := _) hx hb hml hown hts hP hK hD hZ hA hS ⟨Nat.zero_le _, Nat.zero_le _⟩ (c_requireCell l E ad st c (by omega)) (va_cwS 1 hts gX4_bar_X4_requireCell rfl rfl rfl (by decide +kernel) ⟨Nat.le_of_ble_eq_true rfl, Nat.le_of_ble_eq_true rfl⟩) hl.1 rfl (Nat.le_of_ble_eq_true rfl) dX4_bar_1 (fun s_1 H locs hq hP hD hS => ?_)
  obtain rfl := hq
  refine lv_iload_n hx hb dX4_bar_4 rfl (lv_at hl 2 rfl) ?_
  refine nS_v (As := [.int (nI d)]) (rest := _) hx hb hml hown hts hP hK hD hZ hA hS ⟨Nat.zero_le _, Nat.zero_le _⟩ (c_requireDirection l E ad st d (by omega)) (va_cwS 1 hts gX4_bar_X4_requireDirection rfl rfl rfl (by decide +kernel) ⟨Nat.le_of_ble_eq_true rfl, Nat.le_of_ble_eq_true rfl⟩) hl.1 rfl (Nat.le_of_ble_eq_true rfl) dX4_bar_5 (fun s_2 H locs hq hP hD hS => ?_)
  obtain rfl := hq
  refine lv_iload_n hx hb dX4_bar_8 rfl (lv_at hl 3 rfl) ?_
  refine lv_iconst (v := 1) hx hb dX4_bar_9 (by decide) ?_
  refine lv_bipush (v := 50) hx hb dX4_bar_10 (by decide) ?_
  refine nS_v (As := [.int t, .int 1, .int 50]) (rest := _) hx hb hml hown hts hP hK hD hZ hA hS ⟨Nat.zero_le _, Nat.zero_le _⟩ (c_requireBetween l E ad st t 1 50 h1 h2) (va_cwS 3 hts gX4_bar_X4_requireBetween rfl rfl rfl (by decide +kernel) ⟨Nat.le_of_ble_eq_true rfl, Nat.le_of_ble_eq_true rfl⟩) hl.1 rfl (Nat.le_of_ble_eq_true rfl) dX4_bar_12 (fun s_3 H locs hq hP hD hS => ?_)
  obtain rfl := hq
  refine lv_aload_n hx hb dX4_bar_15 rfl (lv_at hl 0 rfl) ?_
  refine rg (v := .ref (ad 64)) (T := TX4) (N := 4) (C := RX4) hx hb hts hinX4 hown hK hP hN rfl 0 (by decide) (hts (.fieldLink RX4 12 "NeedleGrid" "now" "LNeedleGrid$Grid;") (by decide +kernel)) rfl dX4_bar_16 ?_
  refine lv_iload_n hx hb dX4_bar_19 rfl (lv_at hl 1 rfl) ?_
  refine nVi (As := [.int (nI c)]) (rest := _) hx hb hml hown hts hP hK hD hZ hA hS ⟨Nat.zero_le _, Nat.zero_le _⟩ hR.1 rfl (c_hasBar l E ad st 64 G9 hR c (by omega)) (cwV 1 hts gX4_bar_X2_hasBar rfl rfl rfl (by decide +kernel) ⟨Nat.le_of_ble_eq_true rfl, Nat.le_of_ble_eq_true rfl⟩) hl.1 rfl (Nat.le_of_ble_eq_true rfl) dX4_bar_20 (fun r_4 s_5 H locs hq hP hD hS => ?_)
  obtain ⟨hrr_4, rfl⟩ := hq
  refine lv_if_ne (tgt := 48) hx hb dX4_bar_23 (by decide) (fun c23_5 => absurd hb0 (b01_t hrr_4 c23_5)) (fun c23_5 => ?_)
  refine lv_aload_n hx hb dX4_bar_26 rfl (lv_at hl 0 rfl) ?_
  refine rg (v := .ref (ad 64)) (T := TX4) (N := 4) (C := RX4) hx hb hts hinX4 hown hK hP hN rfl 0 (by decide) (hts (.fieldLink RX4 12 "NeedleGrid" "now" "LNeedleGrid$Grid;") (by decide +kernel)) rfl dX4_bar_27 ?_
  refine nVi (As := []) (rest := _) hx hb hml hown hts hP hK hD hZ hA hS ⟨Nat.zero_le _, Nat.zero_le _⟩ hR.1 rfl (c_barCount l E ad st 64 G9 hR ) (cwV 0 hts gX4_bar_X2_barCount rfl rfl rfl (by decide +kernel) ⟨Nat.le_of_ble_eq_true rfl, Nat.le_of_ble_eq_true rfl⟩) hl.1 rfl (Nat.le_of_ble_eq_true rfl) dX4_bar_30 (fun r_7 s_8 H locs hq hP hD hS => ?_)
  obtain ⟨hrr_7, rfl⟩ := hq
  refine lv_bipush (v := 6) hx hb dX4_bar_33 (by decide) ?_
  refine lv_icmp_lt (tgt := 48) hx hb dX4_bar_35 (by decide) (fun c35_8 => absurd ((nI_ltL (n := 6) (i := cnI (fun k => isB (G9 4) k) 36) rfl (by decide) (by have := cnI_le (fun k => isB (G9 4) k) 36; omega)).mp (by rw [hrr_7] at c35_8; exact c35_8)) (by omega)) (fun c35_8 => ?_)
  obtain ⟨sa, hsa⟩ := hZ.2.2.2.2.1 (76, "there are 6 bars") (List.mem_of_getElem? (i := 6) rfl)
  exact nThr (Ec := "java/lang/IllegalStateException") (text := "there are 6 bars") (ik := 74) (is := 76) (ic := 78) (own := RX4) hx hb hlt hown (by decide +kernel) (hts (.classLink RX4 74 "java/lang/IllegalStateException") (by decide +kernel)) (hts (.initialized "java/lang/IllegalStateException") (by decide +kernel)) hsa (vx_hat (fun w9 h9 => hts w9 ((by decide +kernel : ∀ w8 ∈ (vx_atS RX4 78 "java/lang/IllegalStateException" nEx).filter goodWord, w8 ∈ wsX4_bar) w9 h9)) (by decide +kernel) (nXB hZ.2.2.2.2.2.1.2.2 hZ.2.2.2.2.2)) (by decide +kernel) hP hK hD hZ hS (hl.1.trans hml.symm) dX4_bar_38 dX4_bar_41 dX4_bar_42 dX4_bar_44 dX4_bar_47 htab rfl (by decide) (Nat.le_of_ble_eq_true rfl) hlocks rfl

set_option maxHeartbeats 4000000 in
set_option maxRecDepth 100000 in
theorem x_unbar_n (l : Launch) (hlt : l.stackTraces = false) (E : NE) (ad : Nat → Nat) (st : NW) (N : Nat → Int32) (Rs : Nat → Nat → Int32) (a x : Nat) (C : Nat → Int32) (n : Nat) (ha : a ≤ 6) (hxx : x < 6) (hn : n ≤ 60) (hO : okH N) (hW : cW E ad st N Rs a x C n) (c : Nat) (hc : c < 36) (hb0 : gN N 4 c ≤ 0) : nX l yX4_unbar wsX4_unbar (nRx 8 124) E ad st [.ref (ad 0), .int (nI c)] "java/lang/IllegalStateException" (fun s1 => st = s1) := by
  refine nSx (cc := cX4_unbar) (maxL := 2) (by decide) rfl (Nat.le_of_ble_eq_true rfl) ?_
  intro pg en s mi ar bw mth cd R A ls hx hb hml hown hts hRm hP hK hD hZ hA hl hlocks htab
  subst hRm
  have hown : s.vm.findClass RX4 = some mi.cls := hown
  have hS : va_S A s.heap s.heap [] := va_S.rf
  have hl : lv_has ls 2 [(0, .ref (ad 0)), (1, .int (nI c))] := hl
  obtain ⟨hN, hH, hQr, hT, ⟨R0, hB⟩, hR, ⟨Tr, hTr⟩, hRg⟩ := hW
  obtain ⟨G9, hGN⟩ : ∃ G9, G9 = gN N := ⟨_, rfl⟩
  rw [← hGN] at hR
  have hf : frX 0 208 st st := frX.rf
  rw [← hGN] at hb0
  have hinX2 : ∀ w ∈ wsX20, w ∈ wsX4_unbar := by decide +kernel
  have hinX3 : ∀ w ∈ wsX30, w ∈ wsX4_unbar := by decide +kernel
  have hinX4 : ∀ w ∈ wsX40, w ∈ wsX4_unbar := by decide +kernel
  refine lv_iload_n hx hb dX4_unbar_0 rfl (lv_at hl 1 rfl) ?_
  refine nS_v (As := [.int (nI c)]) (rest := _) hx hb hml hown hts hP hK hD hZ hA hS ⟨Nat.zero_le _, Nat.zero_le _⟩ (c_requireCell l E ad st c (by omega)) (va_cwS 1 hts gX4_unbar_X4_requireCell rfl rfl rfl (by decide +kernel) ⟨Nat.le_of_ble_eq_true rfl, Nat.le_of_ble_eq_true rfl⟩) hl.1 rfl (Nat.le_of_ble_eq_true rfl) dX4_unbar_1 (fun s_1 H locs hq hP hD hS => ?_)
  obtain rfl := hq
  refine lv_aload_n hx hb dX4_unbar_4 rfl (lv_at hl 0 rfl) ?_
  refine rg (v := .ref (ad 64)) (T := TX4) (N := 4) (C := RX4) hx hb hts hinX4 hown hK hP hN rfl 0 (by decide) (hts (.fieldLink RX4 12 "NeedleGrid" "now" "LNeedleGrid$Grid;") (by decide +kernel)) rfl dX4_unbar_5 ?_
  refine lv_iload_n hx hb dX4_unbar_8 rfl (lv_at hl 1 rfl) ?_
  refine nVi (As := [.int (nI c)]) (rest := _) hx hb hml hown hts hP hK hD hZ hA hS ⟨Nat.zero_le _, Nat.zero_le _⟩ hR.1 rfl (c_hasBar l E ad st 64 G9 hR c (by omega)) (cwV 1 hts gX4_unbar_X2_hasBar rfl rfl rfl (by decide +kernel) ⟨Nat.le_of_ble_eq_true rfl, Nat.le_of_ble_eq_true rfl⟩) hl.1 rfl (Nat.le_of_ble_eq_true rfl) dX4_unbar_9 (fun r_2 s_3 H locs hq hP hD hS => ?_)
  obtain ⟨hrr_2, rfl⟩ := hq
  refine lv_if_ne (tgt := 25) hx hb dX4_unbar_12 (by decide) (fun c12_3 => absurd hb0 (b01_t hrr_2 c12_3)) (fun c12_3 => ?_)
  obtain ⟨sa, hsa⟩ := hZ.2.2.2.2.1 (87, "no bar lies there") (List.mem_of_getElem? (i := 7) rfl)
  exact nThr (Ec := "java/lang/IllegalStateException") (text := "no bar lies there") (ik := 74) (is := 87) (ic := 78) (own := RX4) hx hb hlt hown (by decide +kernel) (hts (.classLink RX4 74 "java/lang/IllegalStateException") (by decide +kernel)) (hts (.initialized "java/lang/IllegalStateException") (by decide +kernel)) hsa (vx_hat (fun w9 h9 => hts w9 ((by decide +kernel : ∀ w8 ∈ (vx_atS RX4 78 "java/lang/IllegalStateException" nEx).filter goodWord, w8 ∈ wsX4_unbar) w9 h9)) (by decide +kernel) (nXB hZ.2.2.2.2.2.1.2.2 hZ.2.2.2.2.2)) (by decide +kernel) hP hK hD hZ hS (hl.1.trans hml.symm) dX4_unbar_15 dX4_unbar_18 dX4_unbar_19 dX4_unbar_21 dX4_unbar_24 htab rfl (by decide) (Nat.le_of_ble_eq_true rfl) hlocks rfl

set_option maxHeartbeats 4000000 in
set_option maxRecDepth 100000 in
theorem x_undo (l : Launch) (hlt : l.stackTraces = false) (E : NE) (ad : Nat → Nat) (st : NW) (N : Nat → Int32) (Rs : Nat → Nat → Int32) (a x : Nat) (C : Nat → Int32) (n : Nat) (ha : a ≤ 6) (hxx : x < 6) (hn : n ≤ 60) (hO : okH N) (hW : cW E ad st N Rs a x C n) (ha0 : a = 0) : nX l yX4_undo wsX4_undo (nRx 8 124) E ad st [.ref (ad 0)] "java/lang/IllegalStateException" (fun s1 => st = s1) := by
  refine nSx (cc := cX4_undo) (maxL := 1) (by decide) rfl (Nat.le_of_ble_eq_true rfl) ?_
  intro pg en s mi ar bw mth cd R A ls hx hb hml hown hts hRm hP hK hD hZ hA hl hlocks htab
  subst hRm
  have hown : s.vm.findClass RX4 = some mi.cls := hown
  have hS : va_S A s.heap s.heap [] := va_S.rf
  have hl : lv_has ls 1 [(0, .ref (ad 0))] := hl
  obtain ⟨hN, hH, hQr, hT, ⟨R0, hB⟩, hR, ⟨Tr, hTr⟩, hRg⟩ := hW
  obtain ⟨G9, hGN⟩ : ∃ G9, G9 = gN N := ⟨_, rfl⟩
  rw [← hGN] at hR
  have hf : frX 0 208 st st := frX.rf
  have hinX2 : ∀ w ∈ wsX20, w ∈ wsX4_undo := by decide +kernel
  have hinX3 : ∀ w ∈ wsX30, w ∈ wsX4_undo := by decide +kernel
  have hinX4 : ∀ w ∈ wsX40, w ∈ wsX4_undo := by decide +kernel
  refine lv_aload_n hx hb dX4_undo_0 rfl (lv_at hl 0 rfl) ?_
  refine rg (v := .ref (ad 16)) (T := TX4) (N := 4) (C := RX4) hx hb hts hinX4 hown hK hP hN rfl 2 (by decide) (hts (.fieldLink RX4 22 "NeedleGrid" "history" "LNeedleGrid$History;") (by decide +kernel)) rfl dX4_undo_1 ?_
  refine rgN (v := .int (nI a)) (T := TX3) (N := 3) (C := RX3) hx hb hts hinX3 hown hK hP hH rfl 1 (by decide) (nlF_138 hZ) rfl dX4_undo_4 ?_
  refine lv_if_ne (tgt := 20) hx hb dX4_undo_7 (by decide) (fun c7_0 => absurd (by rw [ha0]; rfl) c7_0) (fun c7_0 => ?_)
  obtain ⟨sa, hsa⟩ := hZ.2.2.2.2.1 (141, "there is no saved state") (List.mem_of_getElem? (i := 10) rfl)
  exact nThr (Ec := "java/lang/IllegalStateException") (text := "there is no saved state") (ik := 74) (is := 141) (ic := 78) (own := RX4) hx hb hlt hown (by decide +kernel) (hts (.classLink RX4 74 "java/lang/IllegalStateException") (by decide +kernel)) (hts (.initialized "java/lang/IllegalStateException") (by decide +kernel)) hsa (vx_hat (fun w9 h9 => hts w9 ((by decide +kernel : ∀ w8 ∈ (vx_atS RX4 78 "java/lang/IllegalStateException" nEx).filter goodWord, w8 ∈ wsX4_undo) w9 h9)) (by decide +kernel) (nXB hZ.2.2.2.2.2.1.2.2 hZ.2.2.2.2.2)) (by decide +kernel) hP hK hD hZ hS (hl.1.trans hml.symm) dX4_undo_10 dX4_undo_13 dX4_undo_14 dX4_undo_16 dX4_undo_19 htab rfl (by decide) (Nat.le_of_ble_eq_true rfl) hlocks rfl

set_option maxHeartbeats 4000000 in
set_option maxRecDepth 100000 in
theorem x_bars (l : Launch) (hlt : l.stackTraces = false) (E : NE) (ad : Nat → Nat) (st : NW) (N : Nat → Int32) (Rs : Nat → Nat → Int32) (a x : Nat) (C : Nat → Int32) (n : Nat) (ha : a ≤ 6) (hxx : x < 6) (hn : n ≤ 60) (hO : okH N) (hW : cW E ad st N Rs a x C n) (hcm : ¬ cmpl C n) : nX l yX4_bars wsX4_bars (nRx 8 124) E ad st [.ref (ad 0)] "java/lang/IllegalArgumentException" (fun s1 => cW E ad s1 N Rs a x C n ∧ frX 0 208 st s1) := by
  refine nSx (cc := cX4_bars) (maxL := 1) (by decide) rfl (Nat.le_of_ble_eq_true rfl) ?_
  intro pg en s mi ar bw mth cd R A ls hx hb hml hown hts hRm hP hK hD hZ hA hl hlocks htab
  subst hRm
  have hown : s.vm.findClass RX4 = some mi.cls := hown
  have hS : va_S A s.heap s.heap [] := va_S.rf
  have hl : lv_has ls 1 [(0, .ref (ad 0))] := hl
  obtain ⟨hN, hH, hQr, hT, ⟨R0, hB⟩, hR, ⟨Tr, hTr⟩, hRg⟩ := hW
  obtain ⟨G9, hGN⟩ : ∃ G9, G9 = gN N := ⟨_, rfl⟩
  rw [← hGN] at hR
  have hf : frX 0 208 st st := frX.rf
  have hinX0 : ∀ w ∈ wsX00, w ∈ wsX4_bars := by decide +kernel
  have hinX1 : ∀ w ∈ wsX10, w ∈ wsX4_bars := by decide +kernel
  have hinX2 : ∀ w ∈ wsX20, w ∈ wsX4_bars := by decide +kernel
  have hinX3 : ∀ w ∈ wsX30, w ∈ wsX4_bars := by decide +kernel
  have hinX4 : ∀ w ∈ wsX40, w ∈ wsX4_bars := by decide +kernel
  refine lv_aload_n hx hb dX4_bars_0 rfl (lv_at hl 0 rfl) ?_
  refine rg (v := .ref (ad 32)) (T := TX4) (N := 4) (C := RX4) hx hb hts hinX4 hown hK hP hN rfl 3 (by decide) (hts (.fieldLink RX4 29 "NeedleGrid" "text" "LNeedleGrid$BarText;") (by decide +kernel)) rfl dX4_bars_1 ?_
  refine nVi (As := []) (rest := _) hx hb hml hown hts hP hK hD hZ hA hS ⟨Nat.zero_le _, Nat.zero_le _⟩ hT.1 rfl (c_isComplete l E ad st C n hn R0 hT hB) (cwV 0 hts gX4_bars_X1_isComplete rfl rfl rfl (by decide +kernel) ⟨Nat.le_of_ble_eq_true rfl, Nat.le_of_ble_eq_true rfl⟩) hl.1 rfl (Nat.le_of_ble_eq_true rfl) dX4_bars_4 (fun r_1 s_3 H locs hq hP hD hS => ?_)
  obtain ⟨hrr_1, hB, hf_2⟩ := hq
  have hN := hN.keep hf_2 (by omega) (by decide)
  have hH := hH.keep hf_2 (by omega) (by decide)
  have hQr := (hf_2 _ (by omega)).trans hQr
  have hT := hT.keep hf_2 (by omega) (by decide)
  have hR := hR.keep hf_2 (by omega) (by decide)
  have hTr := hTr.keep hf_2 (by omega) (by decide)
  have hRg : ∀ i, i < 6 → isR E ad s_3 (96 + 16 * i) sG (gN (Rs i)) := fun i hi => (hRg i hi).keep hf_2 (by omega) (by decide)
  have hf := hf.tr1 hf_2 (by omega) (by omega)
  obtain ⟨R9, hR9⟩ : ∃ R9, R9 = rdS (begR R0) C (if goodS (begR R0) C n n 0 = n then n else goodS (begR R0) C n n 0 + 1) := ⟨_, rfl⟩
  rw [← hR9] at hB
  have hrc : r_1 = if fErr C n = n then (if rdS r00 C n 0 = 4 then 1 else 0) else 0 := by rw [hrr_1, fErr_R, due_R]
  refine lv_if_ne (tgt := 20) hx hb dX4_bars_7 (by decide) (fun c7_3 => absurd (cm0 hcm hrc) c7_3) (fun c7_3 => ?_)
  obtain ⟨sa, hsa⟩ := hZ.2.2.2.2.1 (129, "the buffer is not complete bars as a text") (List.mem_of_getElem? (i := 9) rfl)
  exact nThr (Ec := "java/lang/IllegalArgumentException") (text := "the buffer is not complete bars as a text") (ik := 127) (is := 129) (ic := 131) (own := RX4) hx hb hlt hown (by decide +kernel) (hts (.classLink RX4 127 "java/lang/IllegalArgumentException") (by decide +kernel)) (hts (.initialized "java/lang/IllegalArgumentException") (by decide +kernel)) hsa (vx_hat (fun w9 h9 => hts w9 ((by decide +kernel : ∀ w8 ∈ (vx_atS RX4 131 "java/lang/IllegalArgumentException" nEx).filter goodWord, w8 ∈ wsX4_bars) w9 h9)) (by decide +kernel) (nXB hZ.2.2.2.2.2.1.2.1 hZ.2.2.2.2.2)) (by decide +kernel) hP hK hD hZ hS (hl.1.trans hml.symm) dX4_bars_10 dX4_bars_13 dX4_bars_14 dX4_bars_16 dX4_bars_19 htab rfl (by decide) (Nat.le_of_ble_eq_true rfl) hlocks ⟨⟨hN, hH, hQr, hT, ⟨_, hB⟩, (by rw [← hGN]; exact hR), ⟨_, hTr⟩, hRg⟩, hf⟩

set_option maxHeartbeats 4000000 in
set_option maxRecDepth 100000 in
theorem x_cell_w (l : Launch) (hlt : l.stackTraces = false) (E : NE) (ad : Nat → Nat) (st : NW) (N : Nat → Int32) (Rs : Nat → Nat → Int32) (a x : Nat) (C : Nat → Int32) (n : Nat) (ha : a ≤ 6) (hxx : x < 6) (hn : n ≤ 60) (hO : okH N) (hW : cW E ad st N Rs a x C n) (c : Nat) (hc : c < 36) (v : Int32) (hz : v.toInt < 0 ∨ 7 < v.toInt) : nX l yX4_cell wsX4_cell (nRx 8 124) E ad st [.ref (ad 0), .int (nI c), .int v] "java/lang/IllegalArgumentException" (fun s1 => st = s1) := by
  refine nSx (cc := cX4_cell) (maxL := 3) (by decide) rfl (Nat.le_of_ble_eq_true rfl) ?_
  intro pg en s mi ar bw mth cd R A ls hx hb hml hown hts hRm hP hK hD hZ hA hl hlocks htab
  subst hRm
  have hown : s.vm.findClass RX4 = some mi.cls := hown
  have hS : va_S A s.heap s.heap [] := va_S.rf
  have hl : lv_has ls 3 [(0, .ref (ad 0)), (1, .int (nI c)), (2, .int v)] := hl
  obtain ⟨hN, hH, hQr, hT, ⟨R0, hB⟩, hR, ⟨Tr, hTr⟩, hRg⟩ := hW
  obtain ⟨G9, hGN⟩ : ∃ G9, G9 = gN N := ⟨_, rfl⟩
  rw [← hGN] at hR
  have hf : frX 0 208 st st := frX.rf
  have hinX2 : ∀ w ∈ wsX20, w ∈ wsX4_cell := by decide +kernel
  have hinX4 : ∀ w ∈ wsX40, w ∈ wsX4_cell := by decide +kernel
  refine lv_iload_n hx hb dX4_cell_0 rfl (lv_at hl 1 rfl) ?_
  refine nS_v (As := [.int (nI c)]) (rest := _) hx hb hml hown hts hP hK hD hZ hA hS ⟨Nat.zero_le _, Nat.zero_le _⟩ (c_requireCell l E ad st c (by omega)) (va_cwS 1 hts gX4_cell_X4_requireCell rfl rfl rfl (by decide +kernel) ⟨Nat.le_of_ble_eq_true rfl, Nat.le_of_ble_eq_true rfl⟩) hl.1 rfl (Nat.le_of_ble_eq_true rfl) dX4_cell_1 (fun s_1 H locs hq hP hD hS => ?_)
  obtain rfl := hq
  refine lv_iload_n hx hb dX4_cell_4 rfl (lv_at hl 2 rfl) ?_
  refine lv_tableOut (x := v) (tgt := 151) hx hb dX4_cell_5 hz (by decide) ?_
  obtain ⟨sa, hsa⟩ := hZ.2.2.2.2.1 (162, "what is not 0 to 7") (List.mem_of_getElem? (i := 3) rfl)
  exact nThr (Ec := "java/lang/IllegalArgumentException") (text := "what is not 0 to 7") (ik := 127) (is := 162) (ic := 131) (own := RX4) hx hb hlt hown (by decide +kernel) (hts (.classLink RX4 127 "java/lang/IllegalArgumentException") (by decide +kernel)) (hts (.initialized "java/lang/IllegalArgumentException") (by decide +kernel)) hsa (vx_hat (fun w9 h9 => hts w9 ((by decide +kernel : ∀ w8 ∈ (vx_atS RX4 131 "java/lang/IllegalArgumentException" nEx).filter goodWord, w8 ∈ wsX4_cell) w9 h9)) (by decide +kernel) (nXB hZ.2.2.2.2.2.1.2.1 hZ.2.2.2.2.2)) (by decide +kernel) hP hK hD hZ hS (hl.1.trans hml.symm) dX4_cell_151 dX4_cell_154 dX4_cell_155 dX4_cell_157 dX4_cell_160 htab rfl (by decide) (Nat.le_of_ble_eq_true rfl) hlocks rfl

set_option maxHeartbeats 4000000 in
set_option maxRecDepth 100000 in
theorem x_count (l : Launch) (hlt : l.stackTraces = false) (E : NE) (ad : Nat → Nat) (st : NW) (N : Nat → Int32) (Rs : Nat → Nat → Int32) (a x : Nat) (C : Nat → Int32) (n : Nat) (ha : a ≤ 6) (hxx : x < 6) (hn : n ≤ 60) (hO : okH N) (hW : cW E ad st N Rs a x C n) (v : Int32) (hz : v.toInt < 0 ∨ 8 < v.toInt) : nX l yX4_count wsX4_count (nRx 8 124) E ad st [.ref (ad 0), .int v] "java/lang/IllegalArgumentException" (fun s1 => st = s1) := by
  refine nSx (cc := cX4_count) (maxL := 2) (by decide) rfl (Nat.le_of_ble_eq_true rfl) ?_
  intro pg en s mi ar bw mth cd R A ls hx hb hml hown hts hRm hP hK hD hZ hA hl hlocks htab
  subst hRm
  have hown : s.vm.findClass RX4 = some mi.cls := hown
  have hS : va_S A s.heap s.heap [] := va_S.rf
  have hl : lv_has ls 2 [(0, .ref (ad 0)), (1, .int v)] := hl
  obtain ⟨hN, hH, hQr, hT, ⟨R0, hB⟩, hR, ⟨Tr, hTr⟩, hRg⟩ := hW
  obtain ⟨G9, hGN⟩ : ∃ G9, G9 = gN N := ⟨_, rfl⟩
  rw [← hGN] at hR
  have hf : frX 0 208 st st := frX.rf
  have hinX2 : ∀ w ∈ wsX20, w ∈ wsX4_count := by decide +kernel
  have hinX3 : ∀ w ∈ wsX30, w ∈ wsX4_count := by decide +kernel
  have hinX4 : ∀ w ∈ wsX40, w ∈ wsX4_count := by decide +kernel
  refine lv_iload_n hx hb dX4_count_0 rfl (lv_at hl 1 rfl) ?_
  refine lv_tableOut (x := v) (tgt := 124) hx hb dX4_count_1 hz (by decide) ?_
  obtain ⟨sa, hsa⟩ := hZ.2.2.2.2.1 (190, "what is not 0 to 8") (List.mem_of_getElem? (i := 0) rfl)
  exact nThr (Ec := "java/lang/IllegalArgumentException") (text := "what is not 0 to 8") (ik := 127) (is := 190) (ic := 131) (own := RX4) hx hb hlt hown (by decide +kernel) (hts (.classLink RX4 127 "java/lang/IllegalArgumentException") (by decide +kernel)) (hts (.initialized "java/lang/IllegalArgumentException") (by decide +kernel)) hsa (vx_hat (fun w9 h9 => hts w9 ((by decide +kernel : ∀ w8 ∈ (vx_atS RX4 131 "java/lang/IllegalArgumentException" nEx).filter goodWord, w8 ∈ wsX4_count) w9 h9)) (by decide +kernel) (nXB hZ.2.2.2.2.2.1.2.1 hZ.2.2.2.2.2)) (by decide +kernel) hP hK hD hZ hS (hl.1.trans hml.symm) dX4_count_124 dX4_count_127 dX4_count_128 dX4_count_130 dX4_count_133 htab rfl (by decide) (Nat.le_of_ble_eq_true rfl) hlocks rfl

set_option maxHeartbeats 4000000 in
set_option maxRecDepth 100000 in
theorem x_barOf_p (l : Launch) (hlt : l.stackTraces = false) (E : NE) (ad : Nat → Nat) (st : NW) (N : Nat → Int32) (Rs : Nat → Nat → Int32) (a x : Nat) (C : Nat → Int32) (n : Nat) (ha : a ≤ 6) (hxx : x < 6) (hn : n ≤ 60) (hO : okH N) (hW : cW E ad st N Rs a x C n) (v d : Int32) (hbad : v < 0) : nX l yX4_barOf wsX4_barOf (nRx 8 124) E ad st [.ref (ad 0), .int v, .int d] "java/lang/IllegalArgumentException" (fun s1 => st = s1) := by
  refine nSx (cc := cX4_barOf) (maxL := 4) (by decide) rfl (Nat.le_of_ble_eq_true rfl) ?_
  intro pg en s mi ar bw mth cd R A ls hx hb hml hown hts hRm hP hK hD hZ hA hl hlocks htab
  subst hRm
  have hown : s.vm.findClass RX4 = some mi.cls := hown
  have hS : va_S A s.heap s.heap [] := va_S.rf
  have hl : lv_has ls 4 [(0, .ref (ad 0)), (1, .int v), (2, .int d)] := hl
  obtain ⟨hN, hH, hQr, hT, ⟨R0, hB⟩, hR, ⟨Tr, hTr⟩, hRg⟩ := hW
  obtain ⟨G9, hGN⟩ : ∃ G9, G9 = gN N := ⟨_, rfl⟩
  rw [← hGN] at hR
  have hf : frX 0 208 st st := frX.rf
  have hinX2 : ∀ w ∈ wsX20, w ∈ wsX4_barOf := by decide +kernel
  have hinX4 : ∀ w ∈ wsX40, w ∈ wsX4_barOf := by decide +kernel
  refine lv_iload_n hx hb dX4_barOf_0 rfl (lv_at hl 1 rfl) ?_
  refine lv_if_ge (tgt := 14) hx hb dX4_barOf_1 (by decide) (fun c1_0 => absurd hbad (nlt0 c1_0)) (fun c1_0 => ?_)
  obtain ⟨sa, hsa⟩ := hZ.2.2.2.2.1 (164, "place is below 0") (List.mem_of_getElem? (i := 4) rfl)
  exact nThr (Ec := "java/lang/IllegalArgumentException") (text := "place is below 0") (ik := 127) (is := 164) (ic := 131) (own := RX4) hx hb hlt hown (by decide +kernel) (hts (.classLink RX4 127 "java/lang/IllegalArgumentException") (by decide +kernel)) (hts (.initialized "java/lang/IllegalArgumentException") (by decide +kernel)) hsa (vx_hat (fun w9 h9 => hts w9 ((by decide +kernel : ∀ w8 ∈ (vx_atS RX4 131 "java/lang/IllegalArgumentException" nEx).filter goodWord, w8 ∈ wsX4_barOf) w9 h9)) (by decide +kernel) (nXB hZ.2.2.2.2.2.1.2.1 hZ.2.2.2.2.2)) (by decide +kernel) hP hK hD hZ hS (hl.1.trans hml.symm) dX4_barOf_4 dX4_barOf_7 dX4_barOf_8 dX4_barOf_10 dX4_barOf_13 htab rfl (by decide) (Nat.le_of_ble_eq_true rfl) hlocks rfl

set_option maxHeartbeats 4000000 in
set_option maxRecDepth 100000 in
theorem x_barOf_w (l : Launch) (hlt : l.stackTraces = false) (E : NE) (ad : Nat → Nat) (st : NW) (N : Nat → Int32) (Rs : Nat → Nat → Int32) (a x : Nat) (C : Nat → Int32) (n : Nat) (ha : a ≤ 6) (hxx : x < 6) (hn : n ≤ 60) (hO : okH N) (hW : cW E ad st N Rs a x C n) (pl v : Int32) (h1 : ¬ pl < 0) (hbad : ¬ v < 0 → ¬ v ≤ 2) : nX l yX4_barOf wsX4_barOf (nRx 8 124) E ad st [.ref (ad 0), .int pl, .int v] "java/lang/IllegalArgumentException" (fun s1 => st = s1) := by
  refine nSx (cc := cX4_barOf) (maxL := 4) (by decide) rfl (Nat.le_of_ble_eq_true rfl) ?_
  intro pg en s mi ar bw mth cd R A ls hx hb hml hown hts hRm hP hK hD hZ hA hl hlocks htab
  subst hRm
  have hown : s.vm.findClass RX4 = some mi.cls := hown
  have hS : va_S A s.heap s.heap [] := va_S.rf
  have hl : lv_has ls 4 [(0, .ref (ad 0)), (1, .int pl), (2, .int v)] := hl
  obtain ⟨hN, hH, hQr, hT, ⟨R0, hB⟩, hR, ⟨Tr, hTr⟩, hRg⟩ := hW
  obtain ⟨G9, hGN⟩ : ∃ G9, G9 = gN N := ⟨_, rfl⟩
  rw [← hGN] at hR
  have hf : frX 0 208 st st := frX.rf
  have hinX2 : ∀ w ∈ wsX20, w ∈ wsX4_barOf := by decide +kernel
  have hinX4 : ∀ w ∈ wsX40, w ∈ wsX4_barOf := by decide +kernel
  refine lv_iload_n hx hb dX4_barOf_0 rfl (lv_at hl 1 rfl) ?_
  refine lv_if_ge (tgt := 14) hx hb dX4_barOf_1 (by decide) (fun c1_0 => ?_) (fun c1_0 => absurd (ge0 h1) c1_0)
  refine lv_iload_n hx hb dX4_barOf_14 rfl (lv_at hl 2 rfl) ?_
  refine lv_iconst (v := 0) hx hb dX4_barOf_15 (by decide) ?_
  refine lv_iconst (v := 2) hx hb dX4_barOf_16 (by decide) ?_
  refine nTS (As := [.int v, .int 0, .int 2]) (rest := _) hx hb hml hown hts hP hK hD hZ hA hS ⟨Nat.le_of_ble_eq_true rfl, Nat.le_of_ble_eq_true rfl⟩ (x_requireBetween l hlt E ad st v 0 2 hbad) (va_cwS 3 hts gX4_barOf_X4_requireBetween rfl rfl rfl (by decide +kernel) ⟨Nat.le_of_ble_eq_true rfl, Nat.le_of_ble_eq_true rfl⟩) hl.1 rfl (Nat.le_of_ble_eq_true rfl) dX4_barOf_17 (fun q ce st1 H1 locs1 hq hP hD hS hc hv hcl => ?_)
  exact nOut htab hlocks hK hq hP hD hS hc hv hcl

set_option maxHeartbeats 4000000 in
set_option maxRecDepth 100000 in
theorem x_pointing (l : Launch) (hlt : l.stackTraces = false) (E : NE) (ad : Nat → Nat) (st : NW) (N : Nat → Int32) (Rs : Nat → Nat → Int32) (a x : Nat) (C : Nat → Int32) (n : Nat) (ha : a ≤ 6) (hxx : x < 6) (hn : n ≤ 60) (hO : okH N) (hW : cW E ad st N Rs a x C n) (v : Int32) (hbad : ¬ v < 0 → ¬ v ≤ 7) : nX l yX4_pointing wsX4_pointing (nRx 8 124) E ad st [.ref (ad 0), .int v] "java/lang/IllegalArgumentException" (fun s1 => st = s1) := by
  refine nSx (cc := cX4_pointing) (maxL := 2) (by decide) rfl (Nat.le_of_ble_eq_true rfl) ?_
  intro pg en s mi ar bw mth cd R A ls hx hb hml hown hts hRm hP hK hD hZ hA hl hlocks htab
  subst hRm
  have hown : s.vm.findClass RX4 = some mi.cls := hown
  have hS : va_S A s.heap s.heap [] := va_S.rf
  have hl : lv_has ls 2 [(0, .ref (ad 0)), (1, .int v)] := hl
  obtain ⟨hN, hH, hQr, hT, ⟨R0, hB⟩, hR, ⟨Tr, hTr⟩, hRg⟩ := hW
  obtain ⟨G9, hGN⟩ : ∃ G9, G9 = gN N := ⟨_, rfl⟩
  rw [← hGN] at hR
  have hf : frX 0 208 st st := frX.rf
  have hinX2 : ∀ w ∈ wsX20, w ∈ wsX4_pointing := by decide +kernel
  have hinX4 : ∀ w ∈ wsX40, w ∈ wsX4_pointing := by decide +kernel
  refine lv_iload_n hx hb dX4_pointing_0 rfl (lv_at hl 1 rfl) ?_
  refine nTS (As := [.int v]) (rest := _) hx hb hml hown hts hP hK hD hZ hA hS ⟨Nat.le_of_ble_eq_true rfl, Nat.le_of_ble_eq_true rfl⟩ (x_requireDirection l hlt E ad st v hbad) (va_cwS 1 hts gX4_pointing_X4_requireDirection rfl rfl rfl (by decide +kernel) ⟨Nat.le_of_ble_eq_true rfl, Nat.le_of_ble_eq_true rfl⟩) hl.1 rfl (Nat.le_of_ble_eq_true rfl) dX4_pointing_1 (fun q ce st1 H1 locs1 hq hP hD hS hc hv hcl => ?_)
  exact nOut htab hlocks hK hq hP hD hS hc hv hcl

set_option maxHeartbeats 4000000 in
set_option maxRecDepth 100000 in
theorem x_setting (l : Launch) (hlt : l.stackTraces = false) (E : NE) (ad : Nat → Nat) (st : NW) (N : Nat → Int32) (Rs : Nat → Nat → Int32) (a x : Nat) (C : Nat → Int32) (n : Nat) (ha : a ≤ 6) (hxx : x < 6) (hn : n ≤ 60) (hO : okH N) (hW : cW E ad st N Rs a x C n) (v : Int32) (hbad : ¬ v < 0 → ¬ v < 3) : nX l yX4_setting wsX4_setting (nRx 8 124) E ad st [.ref (ad 0), .int v] "java/lang/IndexOutOfBoundsException" (fun s1 => st = s1) := by
  refine nSx (cc := cX4_setting) (maxL := 2) (by decide) rfl (Nat.le_of_ble_eq_true rfl) ?_
  intro pg en s mi ar bw mth cd R A ls hx hb hml hown hts hRm hP hK hD hZ hA hl hlocks htab
  subst hRm
  have hown : s.vm.findClass RX4 = some mi.cls := hown
  have hS : va_S A s.heap s.heap [] := va_S.rf
  have hl : lv_has ls 2 [(0, .ref (ad 0)), (1, .int v)] := hl
  obtain ⟨hN, hH, hQr, hT, ⟨R0, hB⟩, hR, ⟨Tr, hTr⟩, hRg⟩ := hW
  obtain ⟨G9, hGN⟩ : ∃ G9, G9 = gN N := ⟨_, rfl⟩
  rw [← hGN] at hR
  have hf : frX 0 208 st st := frX.rf
  have hinX2 : ∀ w ∈ wsX20, w ∈ wsX4_setting := by decide +kernel
  have hinX4 : ∀ w ∈ wsX40, w ∈ wsX4_setting := by decide +kernel
  refine lv_iload_n hx hb dX4_setting_0 rfl (lv_at hl 1 rfl) ?_
  refine nTS (As := [.int v]) (rest := _) hx hb hml hown hts hP hK hD hZ hA hS ⟨Nat.le_of_ble_eq_true rfl, Nat.le_of_ble_eq_true rfl⟩ (x_requireSetting l hlt E ad st v hbad) (va_cwS 1 hts gX4_setting_X4_requireSetting rfl rfl rfl (by decide +kernel) ⟨Nat.le_of_ble_eq_true rfl, Nat.le_of_ble_eq_true rfl⟩) hl.1 rfl (Nat.le_of_ble_eq_true rfl) dX4_setting_1 (fun q ce st1 H1 locs1 hq hP hD hS hc hv hcl => ?_)
  exact nOut htab hlocks hK hq hP hD hS hc hv hcl

set_option maxHeartbeats 4000000 in
set_option maxRecDepth 100000 in
theorem x_points_n (l : Launch) (hlt : l.stackTraces = false) (E : NE) (ad : Nat → Nat) (st : NW) (N : Nat → Int32) (Rs : Nat → Nat → Int32) (a x : Nat) (C : Nat → Int32) (n : Nat) (ha : a ≤ 6) (hxx : x < 6) (hn : n ≤ 60) (hO : okH N) (hW : cW E ad st N Rs a x C n) (c : Nat) (hc : c < 36) (v : Int32) (hbad : ¬ v < 0 → ¬ v ≤ 100) : nX l yX4_points wsX4_points (nRx 8 124) E ad st [.ref (ad 0), .int (nI c), .int v] "java/lang/IllegalArgumentException" (fun s1 => st = s1) := by
  refine nSx (cc := cX4_points) (maxL := 3) (by decide) rfl (Nat.le_of_ble_eq_true rfl) ?_
  intro pg en s mi ar bw mth cd R A ls hx hb hml hown hts hRm hP hK hD hZ hA hl hlocks htab
  subst hRm
  have hown : s.vm.findClass RX4 = some mi.cls := hown
  have hS : va_S A s.heap s.heap [] := va_S.rf
  have hl : lv_has ls 3 [(0, .ref (ad 0)), (1, .int (nI c)), (2, .int v)] := hl
  obtain ⟨hN, hH, hQr, hT, ⟨R0, hB⟩, hR, ⟨Tr, hTr⟩, hRg⟩ := hW
  obtain ⟨G9, hGN⟩ : ∃ G9, G9 = gN N := ⟨_, rfl⟩
  rw [← hGN] at hR
  have hf : frX 0 208 st st := frX.rf
  have hinX2 : ∀ w ∈ wsX20, w ∈ wsX4_points := by decide +kernel
  have hinX4 : ∀ w ∈ wsX40, w ∈ wsX4_points := by decide +kernel
  refine lv_iload_n hx hb dX4_points_0 rfl (lv_at hl 1 rfl) ?_
  refine nS_v (As := [.int (nI c)]) (rest := _) hx hb hml hown hts hP hK hD hZ hA hS ⟨Nat.zero_le _, Nat.zero_le _⟩ (c_requireCell l E ad st c (by omega)) (va_cwS 1 hts gX4_points_X4_requireCell rfl rfl rfl (by decide +kernel) ⟨Nat.le_of_ble_eq_true rfl, Nat.le_of_ble_eq_true rfl⟩) hl.1 rfl (Nat.le_of_ble_eq_true rfl) dX4_points_1 (fun s_1 H locs hq hP hD hS => ?_)
  obtain rfl := hq
  refine lv_iload_n hx hb dX4_points_4 rfl (lv_at hl 2 rfl) ?_
  refine lv_iconst (v := 0) hx hb dX4_points_5 (by decide) ?_
  refine lv_bipush (v := 100) hx hb dX4_points_6 (by decide) ?_
  refine nTS (As := [.int v, .int 0, .int 100]) (rest := _) hx hb hml hown hts hP hK hD hZ hA hS ⟨Nat.le_of_ble_eq_true rfl, Nat.le_of_ble_eq_true rfl⟩ (x_requireBetween l hlt E ad st v 0 100 hbad) (va_cwS 3 hts gX4_points_X4_requireBetween rfl rfl rfl (by decide +kernel) ⟨Nat.le_of_ble_eq_true rfl, Nat.le_of_ble_eq_true rfl⟩) hl.1 rfl (Nat.le_of_ble_eq_true rfl) dX4_points_8 (fun q ce st1 H1 locs1 hq hP hD hS hc hv hcl => ?_)
  exact nOut htab hlocks hK hq hP hD hS hc hv hcl

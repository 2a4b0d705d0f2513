/-! what the looks answer, told by N -/
def cellA (N : Nat → Int32) (c w : Nat) : Int32 := match w with
  | 0 => N (6 + c)
  | 1 => N (42 + c)
  | 2 => N (78 + c)
  | 3 => gN N 11 c + 100000
  | 4 => gN N 12 c + 100000
  | 5 => gAim (gN N) c
  | 6 => if gT (gN N) c = gN N 0 c then 0 else 1
  | _ => gAw (gN N) c
def barA (N : Nat → Int32) (pl : Int32) (w : Nat) : Int32 :=
  if fndB (isB (gN N 4)) pl 36 0 = -1 then -1 else if w = 0 then fndB (isB (gN N 4)) pl 36 0 else if w = 1 then gN N 3 (fndB (isB (gN N 4)) pl 36 0).toNatClampNeg else gN N 4 (fndB (isB (gN N 4)) pl 36 0).toNatClampNeg
def cntA (N : Nat → Int32) (a w : Nat) : Int32 := match w with
  | 0 => N 3
  | 1 => nI (cnI (fun k => isB (gN N 4) k) 36)
  | 2 => N 4
  | 3 => N 5
  | 4 => nI (cnI (fun k => !decide (gN N 2 k = 0)) 36)
  | 5 => nI (cnI (fun k => !decide (gT (gN N) k = gN N 0 k)) 36)
  | 6 => nI (cnI (fun k => decide (gAim (gN N) k = gN N 0 k)) 36)
  | 7 => awS (gAw (gN N)) 36
  | _ => nI a
theorem fndB_ix {P : Nat → Bool} {pl : Int32} : ∀ (n i : Nat), fndB P pl n i = -1 ∨ ∃ j, fndB P pl n i = nI j ∧ i ≤ j ∧ j < i + n
  | 0, i => Or.inl rfl
  | n + 1, i => by
    simp only [fndB]
    split
    · split
      · exact Or.inr ⟨i, rfl, by omega, by omega⟩
      · rcases fndB_ix (P := P) (pl := pl) n (i + 1) with h | ⟨j, h, h1, h2⟩
        · exact Or.inl h
        · exact Or.inr ⟨j, h, by omega, by omega⟩
    · rcases fndB_ix (P := P) (pl := pl) n (i + 1) with h | ⟨j, h, h1, h2⟩
      · exact Or.inl h
      · exact Or.inr ⟨j, h, by omega, by omega⟩
theorem rst_r {G : Nat → Nat → Int32} : tgN G 1 = nI (taN G 36) := by
  show (0 : Int32) + nI (taN G 36) = _
  exact Int32.zero_add _
theorem rst_t {N : Nat → Int32} {i : Nat} {r : Int32} (h : r = tgN (gN (rsN N i)) 1) (c : r = 0) : rstP N i = true := by
  rw [h, rst_r, taN_rs] at c
  have e := (nI_eq (a := taN (gN (itN N i)) 36) (b := 0) (by have := cnI_le (fun k => !decide (gT (gN (itN N i)) k = gN (itN N i) 0 k)) 36; unfold taN; omega) (by omega)).mp c
  unfold rstP
  rw [e]
  rfl
theorem rst_f {N : Nat → Int32} {i : Nat} {r : Int32} (h : r = tgN (gN (rsN N i)) 1) (c : ¬ r = 0) : rstP N i = false := by
  rw [h, rst_r, taN_rs] at c
  unfold rstP
  exact decide_eq_false (fun e => c (by rw [e]; rfl))

set_option maxHeartbeats 4000000 in
set_option maxRecDepth 100000 in
theorem c_cell (l : Launch) (E : NE) (ad : Nat → Nat) (st : NW) (N : Nat → Int32) (Rs : Nat → Nat → Int32) (a x : Nat) (C : Nat → Int32) (n : Nat) (ha : a ≤ 6) (hxx : x < 6) (hn : n ≤ 60) (hO : okH N) (hW : cW E ad st N Rs a x C n) (c w : Nat) (hc : c < 36) (hw : w < 8) : nMi l yX4_cell wsX4_cell (nRm 3 71) E ad st [.ref (ad 0), .int (nI c), .int (nI w)] (fun r s1 => r = cellA N c w ∧ st = s1) := by
  refine nSi (cc := cX4_cell) (maxL := 3) (by decide) rfl (Nat.le_of_ble_eq_true rfl) ?_
  intro pg en s mi ar bw mth cd R Q A ls hx hb hml hown hts hRm hP hK hD hZ hA hl hret
  subst hRm
  have hown : s.vm.findClass RX4 = some mi.cls := hown
  have hS : va_S A s.heap s.heap [] := va_S.rf
  have hl : lv_has ls 3 [(0, .ref (ad 0)), (1, .int (nI c)), (2, .int (nI w))] := hl
  obtain ⟨hN, hH, hQr, hT, ⟨R0, hB⟩, hR, ⟨Tr, hTr⟩, hRg⟩ := hW
  obtain ⟨G9, hGN⟩ : ∃ G9, G9 = gN N := ⟨_, rfl⟩
  rw [← hGN] at hR
  have hf : frX 0 208 st st := frX.rf
  have hinX2 : ∀ w ∈ wsX20, w ∈ wsX4_cell := by decide +kernel
  have hinX4 : ∀ w ∈ wsX40, w ∈ wsX4_cell := by decide +kernel
  refine lv_iload_n hx hb dX4_cell_0 rfl (lv_at hl 1 rfl) ?_
  refine nS_v (As := [.int (nI c)]) (rest := _) hx hb hml hown hts hP hK hD hZ hA hS ⟨Nat.zero_le _, Nat.zero_le _⟩ (c_requireCell l E ad st c (by omega)) (va_cwS 1 hts gX4_cell_X4_requireCell rfl rfl rfl (by decide +kernel) ⟨Nat.le_of_ble_eq_true rfl, Nat.le_of_ble_eq_true rfl⟩) hl.1 rfl (Nat.le_of_ble_eq_true rfl) dX4_cell_1 (fun s_1 H locs hq hP hD hS => ?_)
  obtain rfl := hq
  refine lv_iload_n hx hb dX4_cell_4 rfl (lv_at hl 2 rfl) ?_
  rcases (show w = 0 ∨ w = 1 ∨ w = 2 ∨ w = 3 ∨ w = 4 ∨ w = 5 ∨ w = 6 ∨ w = 7 by omega) with rfl | rfl | rfl | rfl | rfl | rfl | rfl | rfl
  · refine lv_tableIn (x := nI 0) (off := 47) (tgt := 52) hx hb dX4_cell_5 (by decide) (by decide) rfl (by decide) ?_
    refine lv_aload_n hx hb dX4_cell_52 rfl (lv_at hl 0 rfl) ?_
    refine rg (v := .ref (ad 64)) (T := TX4) (N := 4) (C := RX4) hx hb hts hinX4 hown hK hP hN rfl 0 (by decide) (hts (.fieldLink RX4 12 "NeedleGrid" "now" "LNeedleGrid$Grid;") (by decide +kernel)) rfl dX4_cell_53 ?_
    refine rgN (v := .ref (ad (64 + 1 + 0))) (T := TX2) (N := 13) (C := RX2) hx hb hts hinX2 hown hK hP hR rfl 0 (by decide) (nlF_44 hZ) rfl dX4_cell_56 ?_
    refine lv_iload_n hx hb dX4_cell_59 rfl (lv_at hl 1 rfl) ?_
    refine ra (j := c) (n := 36) hx hb hK hP hR 0 rfl (by omega) (by decide) dX4_cell_60 ?_
    exact hret _ _ _ _ _ _ hP hD hS (⟨by show G9 0 c = N (6 + c); rw [hGN]; exact gN0 hc, rfl⟩) dX4_cell_61
  · refine lv_tableIn (x := nI 1) (off := 57) (tgt := 62) hx hb dX4_cell_5 (by decide) (by decide) rfl (by decide) ?_
    refine lv_aload_n hx hb dX4_cell_62 rfl (lv_at hl 0 rfl) ?_
    refine rg (v := .ref (ad 64)) (T := TX4) (N := 4) (C := RX4) hx hb hts hinX4 hown hK hP hN rfl 0 (by decide) (hts (.fieldLink RX4 12 "NeedleGrid" "now" "LNeedleGrid$Grid;") (by decide +kernel)) rfl dX4_cell_63 ?_
    refine rgN (v := .ref (ad (64 + 1 + 1))) (T := TX2) (N := 13) (C := RX2) hx hb hts hinX2 hown hK hP hR rfl 1 (by decide) (nlF_55 hZ) rfl dX4_cell_66 ?_
    refine lv_iload_n hx hb dX4_cell_69 rfl (lv_at hl 1 rfl) ?_
    refine ra (j := c) (n := 36) hx hb hK hP hR 1 rfl (by omega) (by decide) dX4_cell_70 ?_
    exact hret _ _ _ _ _ _ hP hD hS (⟨by show G9 1 c = N (42 + c); rw [hGN]; exact gN1 hc, rfl⟩) dX4_cell_71
  · refine lv_tableIn (x := nI 2) (off := 67) (tgt := 72) hx hb dX4_cell_5 (by decide) (by decide) rfl (by decide) ?_
    refine lv_aload_n hx hb dX4_cell_72 rfl (lv_at hl 0 rfl) ?_
    refine rg (v := .ref (ad 64)) (T := TX4) (N := 4) (C := RX4) hx hb hts hinX4 hown hK hP hN rfl 0 (by decide) (hts (.fieldLink RX4 12 "NeedleGrid" "now" "LNeedleGrid$Grid;") (by decide +kernel)) rfl dX4_cell_73 ?_
    refine rgN (v := .ref (ad (64 + 1 + 2))) (T := TX2) (N := 13) (C := RX2) hx hb hts hinX2 hown hK hP hR rfl 2 (by decide) (nlF_58 hZ) rfl dX4_cell_76 ?_
    refine lv_iload_n hx hb dX4_cell_79 rfl (lv_at hl 1 rfl) ?_
    refine raZ (j := c) (n := 36) hx hb hK hP hR 2 rfl (by omega) (by decide) dX4_cell_80 ?_
    refine lv_if_eq (tgt := 88) hx hb dX4_cell_81 (by decide) (fun c81_1 => ?_) (fun c81_1 => ?_)
    · refine lv_iconst (v := 0) hx hb dX4_cell_88 (by decide) ?_
      exact hret _ _ _ _ _ _ hP hD hS (⟨by show _ = N (78 + c); rw [← gN2 (N := N) hc, ← hGN]; exact c81_1.symm, rfl⟩) dX4_cell_89
    · refine lv_iconst (v := 1) hx hb dX4_cell_84 (by decide) ?_
      refine lv_goto (tgt := 89) hx hb dX4_cell_85 (by decide) ?_
      exact hret _ _ _ _ _ _ hP hD hS (⟨by show _ = N (78 + c); rw [← gN2 (N := N) hc]; rw [hGN] at c81_1; exact ((hO.g c hc).resolve_left c81_1).symm, rfl⟩) dX4_cell_89
  · refine lv_tableIn (x := nI 3) (off := 85) (tgt := 90) hx hb dX4_cell_5 (by decide) (by decide) rfl (by decide) ?_
    refine lv_aload_n hx hb dX4_cell_90 rfl (lv_at hl 0 rfl) ?_
    refine rg (v := .ref (ad 64)) (T := TX4) (N := 4) (C := RX4) hx hb hts hinX4 hown hK hP hN rfl 0 (by decide) (hts (.fieldLink RX4 12 "NeedleGrid" "now" "LNeedleGrid$Grid;") (by decide +kernel)) rfl dX4_cell_91 ?_
    refine rgN (v := .ref (ad (64 + 1 + 11))) (T := TX2) (N := 13) (C := RX2) hx hb hts hinX2 hown hK hP hR rfl 11 (by decide) (nlF_146 hZ) rfl dX4_cell_94 ?_
    refine lv_iload_n hx hb dX4_cell_97 rfl (lv_at hl 1 rfl) ?_
    refine ra (j := c) (n := 36) hx hb hK hP hR 11 rfl (by omega) (by decide) dX4_cell_98 ?_
    refine lv_ldc (v := 100000) hx hb hown (hts (.constant RX4 149 100000) (by decide +kernel)) dX4_cell_99 ?_
    refine lv_iadd hx hb dX4_cell_101 ?_
    exact hret _ _ _ _ _ _ hP hD hS (⟨by show G9 11 c + 100000 = gN N 11 c + 100000; rw [hGN], rfl⟩) dX4_cell_102
  · refine lv_tableIn (x := nI 4) (off := 98) (tgt := 103) hx hb dX4_cell_5 (by decide) (by decide) rfl (by decide) ?_
    refine lv_aload_n hx hb dX4_cell_103 rfl (lv_at hl 0 rfl) ?_
    refine rg (v := .ref (ad 64)) (T := TX4) (N := 4) (C := RX4) hx hb hts hinX4 hown hK hP hN rfl 0 (by decide) (hts (.fieldLink RX4 12 "NeedleGrid" "now" "LNeedleGrid$Grid;") (by decide +kernel)) rfl dX4_cell_104 ?_
    refine rgN (v := .ref (ad (64 + 1 + 12))) (T := TX2) (N := 13) (C := RX2) hx hb hts hinX2 hown hK hP hR rfl 12 (by decide) (nlF_150 hZ) rfl dX4_cell_107 ?_
    refine lv_iload_n hx hb dX4_cell_110 rfl (lv_at hl 1 rfl) ?_
    refine ra (j := c) (n := 36) hx hb hK hP hR 12 rfl (by omega) (by decide) dX4_cell_111 ?_
    refine lv_ldc (v := 100000) hx hb hown (hts (.constant RX4 149 100000) (by decide +kernel)) dX4_cell_112 ?_
    refine lv_iadd hx hb dX4_cell_114 ?_
    exact hret _ _ _ _ _ _ hP hD hS (⟨by show G9 12 c + 100000 = gN N 12 c + 100000; rw [hGN], rfl⟩) dX4_cell_115
  · refine lv_tableIn (x := nI 5) (off := 111) (tgt := 116) hx hb dX4_cell_5 (by decide) (by decide) rfl (by decide) ?_
    refine lv_aload_n hx hb dX4_cell_116 rfl (lv_at hl 0 rfl) ?_
    refine rg (v := .ref (ad 64)) (T := TX4) (N := 4) (C := RX4) hx hb hts hinX4 hown hK hP hN rfl 0 (by decide) (hts (.fieldLink RX4 12 "NeedleGrid" "now" "LNeedleGrid$Grid;") (by decide +kernel)) rfl dX4_cell_117 ?_
    refine lv_iload_n hx hb dX4_cell_120 rfl (lv_at hl 1 rfl) ?_
    refine nVi (As := [.int (nI c)]) (rest := _) hx hb hml hown hts hP hK hD hZ hA hS ⟨Nat.zero_le _, Nat.zero_le _⟩ hR.1 rfl (c_aim l E ad st 64 G9 hR c (by omega)) (cwV 1 hts gX4_cell_X2_aim rfl rfl rfl (by decide +kernel) ⟨Nat.le_of_ble_eq_true rfl, Nat.le_of_ble_eq_true rfl⟩) hl.1 rfl (Nat.le_of_ble_eq_true rfl) dX4_cell_121 (fun r_3 s_4 H locs hq hP hD hS => ?_)
    obtain ⟨hrr_3, rfl⟩ := hq
    exact hret _ _ _ _ _ _ hP hD hS (⟨by show _ = gAim (gN N) c; rw [hrr_3, hGN], rfl⟩) dX4_cell_124
  · refine lv_tableIn (x := nI 6) (off := 120) (tgt := 125) hx hb dX4_cell_5 (by decide) (by decide) rfl (by decide) ?_
    refine lv_aload_n hx hb dX4_cell_125 rfl (lv_at hl 0 rfl) ?_
    refine rg (v := .ref (ad 64)) (T := TX4) (N := 4) (C := RX4) hx hb hts hinX4 hown hK hP hN rfl 0 (by decide) (hts (.fieldLink RX4 12 "NeedleGrid" "now" "LNeedleGrid$Grid;") (by decide +kernel)) rfl dX4_cell_126 ?_
    refine lv_iload_n hx hb dX4_cell_129 rfl (lv_at hl 1 rfl) ?_
    refine nVi (As := [.int (nI c)]) (rest := _) hx hb hml hown hts hP hK hD hZ hA hS ⟨Nat.zero_le _, Nat.zero_le _⟩ hR.1 rfl (c_wouldTurn l E ad st 64 G9 hR c (by omega)) (cwV 1 hts gX4_cell_X2_wouldTurn rfl rfl rfl (by decide +kernel) ⟨Nat.le_of_ble_eq_true rfl, Nat.le_of_ble_eq_true rfl⟩) hl.1 rfl (Nat.le_of_ble_eq_true rfl) dX4_cell_130 (fun r_5 s_6 H locs hq hP hD hS => ?_)
    obtain ⟨hrr_5, rfl⟩ := hq
    refine lv_if_eq (tgt := 140) hx hb dX4_cell_133 (by decide) (fun c133_6 => ?_) (fun c133_6 => ?_)
    · refine lv_iconst (v := 0) hx hb dX4_cell_140 (by decide) ?_
      exact hret _ _ _ _ _ _ hP hD hS (⟨by show _ = (if gT (gN N) c = gN N 0 c then 0 else 1); rw [← hGN, if_pos (b01_f hrr_5 c133_6)], rfl⟩) dX4_cell_141
    · refine lv_iconst (v := 1) hx hb dX4_cell_136 (by decide) ?_
      refine lv_goto (tgt := 141) hx hb dX4_cell_137 (by decide) ?_
      exact hret _ _ _ _ _ _ hP hD hS (⟨by show _ = (if gT (gN N) c = gN N 0 c then 0 else 1); rw [← hGN, if_neg (b01_t hrr_5 c133_6)], rfl⟩) dX4_cell_141
  · refine lv_tableIn (x := nI 7) (off := 137) (tgt := 142) hx hb dX4_cell_5 (by decide) (by decide) rfl (by decide) ?_
    refine lv_aload_n hx hb dX4_cell_142 rfl (lv_at hl 0 rfl) ?_
    refine rg (v := .ref (ad 64)) (T := TX4) (N := 4) (C := RX4) hx hb hts hinX4 hown hK hP hN rfl 0 (by decide) (hts (.fieldLink RX4 12 "NeedleGrid" "now" "LNeedleGrid$Grid;") (by decide +kernel)) rfl dX4_cell_143 ?_
    refine lv_iload_n hx hb dX4_cell_146 rfl (lv_at hl 1 rfl) ?_
    refine nVi (As := [.int (nI c)]) (rest := _) hx hb hml hown hts hP hK hD hZ hA hS ⟨Nat.zero_le _, Nat.zero_le _⟩ hR.1 rfl (c_awayFromAim l E ad st 64 G9 hR c (by omega)) (cwV 1 hts gX4_cell_X2_awayFromAim rfl rfl rfl (by decide +kernel) ⟨Nat.le_of_ble_eq_true rfl, Nat.le_of_ble_eq_true rfl⟩) hl.1 rfl (Nat.le_of_ble_eq_true rfl) dX4_cell_147 (fun r_8 s_9 H locs hq hP hD hS => ?_)
    obtain ⟨hrr_8, rfl⟩ := hq
    exact hret _ _ _ _ _ _ hP hD hS (⟨by show _ = gAw (gN N) c; rw [hrr_8, hGN], rfl⟩) dX4_cell_150

set_option maxHeartbeats 4000000 in
set_option maxRecDepth 100000 in
theorem c_barOf (l : Launch) (E : NE) (ad : Nat → Nat) (st : NW) (N : Nat → Int32) (Rs : Nat → Nat → Int32) (a x : Nat) (C : Nat → Int32) (n : Nat) (ha : a ≤ 6) (hxx : x < 6) (hn : n ≤ 60) (hO : okH N) (hW : cW E ad st N Rs a x C n) (pl : Int32) (w : Nat) (h1 : ¬ pl < 0) (hw : w < 3) : nMi l yX4_barOf wsX4_barOf (nRm 2 44) E ad st [.ref (ad 0), .int pl, .int (nI w)] (fun r s1 => r = barA N pl w ∧ st = s1) := by
  refine nSi (cc := cX4_barOf) (maxL := 4) (by decide) rfl (Nat.le_of_ble_eq_true rfl) ?_
  intro pg en s mi ar bw mth cd R Q A ls hx hb hml hown hts hRm hP hK hD hZ hA hl hret
  subst hRm
  have hown : s.vm.findClass RX4 = some mi.cls := hown
  have hS : va_S A s.heap s.heap [] := va_S.rf
  have hl : lv_has ls 4 [(0, .ref (ad 0)), (1, .int pl), (2, .int (nI w))] := hl
  obtain ⟨hN, hH, hQr, hT, ⟨R0, hB⟩, hR, ⟨Tr, hTr⟩, hRg⟩ := hW
  obtain ⟨G9, hGN⟩ : ∃ G9, G9 = gN N := ⟨_, rfl⟩
  rw [← hGN] at hR
  have hf : frX 0 208 st st := frX.rf
  have hinX2 : ∀ w ∈ wsX20, w ∈ wsX4_barOf := by decide +kernel
  have hinX4 : ∀ w ∈ wsX40, w ∈ wsX4_barOf := by decide +kernel
  refine lv_iload_n hx hb dX4_barOf_0 rfl (lv_at hl 1 rfl) ?_
  refine lv_if_ge (tgt := 14) hx hb dX4_barOf_1 (by decide) (fun c1_0 => ?_) (fun c1_0 => absurd (ge0 h1) c1_0)
  rcases (show w = 0 ∨ w = 1 ∨ w = 2 by omega) with rfl | rfl | rfl
  · refine lv_iload_n hx hb dX4_barOf_14 rfl (lv_at hl 2 rfl) ?_
    refine lv_iconst (v := 0) hx hb dX4_barOf_15 (by decide) ?_
    refine lv_iconst (v := 2) hx hb dX4_barOf_16 (by decide) ?_
    refine nS_v (As := [.int (nI 0), .int 0, .int 2]) (rest := _) hx hb hml hown hts hP hK hD hZ hA hS ⟨Nat.zero_le _, Nat.zero_le _⟩ (c_requireBetween l E ad st (nI 0) 0 2 (by decide) (by decide)) (va_cwS 3 hts gX4_barOf_X4_requireBetween rfl rfl rfl (by decide +kernel) ⟨Nat.le_of_ble_eq_true rfl, Nat.le_of_ble_eq_true rfl⟩) hl.1 rfl (Nat.le_of_ble_eq_true rfl) dX4_barOf_17 (fun s_2 H locs hq hP hD hS => ?_)
    obtain rfl := hq
    refine lv_aload_n hx hb dX4_barOf_20 rfl (lv_at hl 0 rfl) ?_
    refine rg (v := .ref (ad 64)) (T := TX4) (N := 4) (C := RX4) hx hb hts hinX4 hown hK hP hN rfl 0 (by decide) (hts (.fieldLink RX4 12 "NeedleGrid" "now" "LNeedleGrid$Grid;") (by decide +kernel)) rfl dX4_barOf_21 ?_
    refine lv_iload_n hx hb dX4_barOf_24 rfl (lv_at hl 1 rfl) ?_
    refine nVi (As := [.int pl]) (rest := _) hx hb hml hown hts hP hK hD hZ hA hS ⟨Nat.zero_le _, Nat.zero_le _⟩ hR.1 rfl (c_cellOfBar l E ad st 64 G9 hR pl) (cwV 1 hts gX4_barOf_X2_cellOfBar rfl rfl rfl (by decide +kernel) ⟨Nat.le_of_ble_eq_true rfl, Nat.le_of_ble_eq_true rfl⟩) hl.1 rfl (Nat.le_of_ble_eq_true rfl) dX4_barOf_25 (fun r_3 s_4 H locs hq hP hD hS => ?_)
    obtain ⟨hrr_3, rfl⟩ := hq
    refine lv_istore_n (lv' := [(3, .int r_3), (0, .ref (ad 0)), (1, .int pl), (2, .int (nI 0))]) hx hb dX4_barOf_28 rfl hl (by decide) rfl (fun ls hl => ?_)
    refine lv_iload_n hx hb dX4_barOf_29 rfl (lv_at hl 0 rfl) ?_
    refine lv_iconst (v := -1) hx hb dX4_barOf_30 (by decide) ?_
    refine lv_icmp_eq (tgt := 38) hx hb dX4_barOf_31 (by decide) (fun c31_4 => ?_) (fun c31_4 => ?_)
    · refine lv_iload_n hx hb dX4_barOf_38 rfl (lv_at hl 0 rfl) ?_
      exact hret _ _ _ _ _ _ hP hD hS (⟨by delta barA; rw [← hGN, ← hrr_3, if_pos c31_4]; exact c31_4, rfl⟩) dX4_barOf_39
    · obtain ⟨j, hj, hj36⟩ : ∃ j : Nat, r_3 = nI j ∧ j < 36 := by rcases fndB_ix (P := isB (G9 4)) (pl := pl) 36 0 with q | ⟨j, q, _, q2⟩; exact absurd (hrr_3.trans q) c31_4; exact ⟨j, hrr_3.trans q, by omega⟩
      subst hj
      refine lv_iload_n hx hb dX4_barOf_34 rfl (lv_at hl 3 rfl) ?_
      refine lv_if_ne (tgt := 40) hx hb dX4_barOf_35 (by decide) (fun c35_5 => absurd (by decide) c35_5) (fun c35_5 => ?_)
      refine lv_iload_n hx hb dX4_barOf_38 rfl (lv_at hl 0 rfl) ?_
      exact hret _ _ _ _ _ _ hP hD hS (⟨by delta barA; rw [← hGN, ← hrr_3, if_neg c31_4]; rw [if_pos rfl], rfl⟩) dX4_barOf_39
  · refine lv_iload_n hx hb dX4_barOf_14 rfl (lv_at hl 2 rfl) ?_
    refine lv_iconst (v := 0) hx hb dX4_barOf_15 (by decide) ?_
    refine lv_iconst (v := 2) hx hb dX4_barOf_16 (by decide) ?_
    refine nS_v (As := [.int (nI 1), .int 0, .int 2]) (rest := _) hx hb hml hown hts hP hK hD hZ hA hS ⟨Nat.zero_le _, Nat.zero_le _⟩ (c_requireBetween l E ad st (nI 1) 0 2 (by decide) (by decide)) (va_cwS 3 hts gX4_barOf_X4_requireBetween rfl rfl rfl (by decide +kernel) ⟨Nat.le_of_ble_eq_true rfl, Nat.le_of_ble_eq_true rfl⟩) hl.1 rfl (Nat.le_of_ble_eq_true rfl) dX4_barOf_17 (fun s_7 H locs hq hP hD hS => ?_)
    obtain rfl := hq
    refine lv_aload_n hx hb dX4_barOf_20 rfl (lv_at hl 0 rfl) ?_
    refine rg (v := .ref (ad 64)) (T := TX4) (N := 4) (C := RX4) hx hb hts hinX4 hown hK hP hN rfl 0 (by decide) (hts (.fieldLink RX4 12 "NeedleGrid" "now" "LNeedleGrid$Grid;") (by decide +kernel)) rfl dX4_barOf_21 ?_
    refine lv_iload_n hx hb dX4_barOf_24 rfl (lv_at hl 1 rfl) ?_
    refine nVi (As := [.int pl]) (rest := _) hx hb hml hown hts hP hK hD hZ hA hS ⟨Nat.zero_le _, Nat.zero_le _⟩ hR.1 rfl (c_cellOfBar l E ad st 64 G9 hR pl) (cwV 1 hts gX4_barOf_X2_cellOfBar rfl rfl rfl (by decide +kernel) ⟨Nat.le_of_ble_eq_true rfl, Nat.le_of_ble_eq_true rfl⟩) hl.1 rfl (Nat.le_of_ble_eq_true rfl) dX4_barOf_25 (fun r_8 s_9 H locs hq hP hD hS => ?_)
    obtain ⟨hrr_8, rfl⟩ := hq
    refine lv_istore_n (lv' := [(3, .int r_8), (0, .ref (ad 0)), (1, .int pl), (2, .int (nI 1))]) hx hb dX4_barOf_28 rfl hl (by decide) rfl (fun ls hl => ?_)
    refine lv_iload_n hx hb dX4_barOf_29 rfl (lv_at hl 0 rfl) ?_
    refine lv_iconst (v := -1) hx hb dX4_barOf_30 (by decide) ?_
    refine lv_icmp_eq (tgt := 38) hx hb dX4_barOf_31 (by decide) (fun c31_9 => ?_) (fun c31_9 => ?_)
    · refine lv_iload_n hx hb dX4_barOf_38 rfl (lv_at hl 0 rfl) ?_
      exact hret _ _ _ _ _ _ hP hD hS (⟨by delta barA; rw [← hGN, ← hrr_8, if_pos c31_9]; exact c31_9, rfl⟩) dX4_barOf_39
    · obtain ⟨j, hj, hj36⟩ : ∃ j : Nat, r_8 = nI j ∧ j < 36 := by rcases fndB_ix (P := isB (G9 4)) (pl := pl) 36 0 with q | ⟨j, q, _, q2⟩; exact absurd (hrr_8.trans q) c31_9; exact ⟨j, hrr_8.trans q, by omega⟩
      subst hj
      refine lv_iload_n hx hb dX4_barOf_34 rfl (lv_at hl 3 rfl) ?_
      refine lv_if_ne (tgt := 40) hx hb dX4_barOf_35 (by decide) (fun c35_10 => ?_) (fun c35_10 => absurd c35_10 (by decide))
      refine lv_iload_n hx hb dX4_barOf_40 rfl (lv_at hl 3 rfl) ?_
      refine lv_iconst (v := 1) hx hb dX4_barOf_41 (by decide) ?_
      refine lv_icmp_ne (tgt := 57) hx hb dX4_barOf_42 (by decide) (fun c42_11 => absurd (by decide) c42_11) (fun c42_11 => ?_)
      refine lv_aload_n hx hb dX4_barOf_45 rfl (lv_at hl 1 rfl) ?_
      refine rg (v := .ref (ad 64)) (T := TX4) (N := 4) (C := RX4) hx hb hts hinX4 hown hK hP hN rfl 0 (by decide) (hts (.fieldLink RX4 12 "NeedleGrid" "now" "LNeedleGrid$Grid;") (by decide +kernel)) rfl dX4_barOf_46 ?_
      refine rgN (v := .ref (ad (64 + 1 + 3))) (T := TX2) (N := 13) (C := RX2) hx hb hts hinX2 hown hK hP hR rfl 3 (by decide) (nlF_169 hZ) rfl dX4_barOf_49 ?_
      refine lv_iload_n hx hb dX4_barOf_52 rfl (lv_at hl 0 rfl) ?_
      refine ra (j := j) (n := 36) hx hb hK hP hR 3 rfl (by omega) (by decide) dX4_barOf_53 ?_
      refine lv_goto (tgt := 66) hx hb dX4_barOf_54 (by decide) ?_
      exact hret _ _ _ _ _ _ hP hD hS (⟨by delta barA; rw [← hGN, ← hrr_8, if_neg c31_9]; rw [if_neg (by decide), if_pos rfl, nI_clamp (by omega)], rfl⟩) dX4_barOf_66
  · refine lv_iload_n hx hb dX4_barOf_14 rfl (lv_at hl 2 rfl) ?_
    refine lv_iconst (v := 0) hx hb dX4_barOf_15 (by decide) ?_
    refine lv_iconst (v := 2) hx hb dX4_barOf_16 (by decide) ?_
    refine nS_v (As := [.int (nI 2), .int 0, .int 2]) (rest := _) hx hb hml hown hts hP hK hD hZ hA hS ⟨Nat.zero_le _, Nat.zero_le _⟩ (c_requireBetween l E ad st (nI 2) 0 2 (by decide) (by decide)) (va_cwS 3 hts gX4_barOf_X4_requireBetween rfl rfl rfl (by decide +kernel) ⟨Nat.le_of_ble_eq_true rfl, Nat.le_of_ble_eq_true rfl⟩) hl.1 rfl (Nat.le_of_ble_eq_true rfl) dX4_barOf_17 (fun s_13 H locs hq hP hD hS => ?_)
    obtain rfl := hq
    refine lv_aload_n hx hb dX4_barOf_20 rfl (lv_at hl 0 rfl) ?_
    refine rg (v := .ref (ad 64)) (T := TX4) (N := 4) (C := RX4) hx hb hts hinX4 hown hK hP hN rfl 0 (by decide) (hts (.fieldLink RX4 12 "NeedleGrid" "now" "LNeedleGrid$Grid;") (by decide +kernel)) rfl dX4_barOf_21 ?_
    refine lv_iload_n hx hb dX4_barOf_24 rfl (lv_at hl 1 rfl) ?_
    refine nVi (As := [.int pl]) (rest := _) hx hb hml hown hts hP hK hD hZ hA hS ⟨Nat.zero_le _, Nat.zero_le _⟩ hR.1 rfl (c_cellOfBar l E ad st 64 G9 hR pl) (cwV 1 hts gX4_barOf_X2_cellOfBar rfl rfl rfl (by decide +kernel) ⟨Nat.le_of_ble_eq_true rfl, Nat.le_of_ble_eq_true rfl⟩) hl.1 rfl (Nat.le_of_ble_eq_true rfl) dX4_barOf_25 (fun r_14 s_15 H locs hq hP hD hS => ?_)
    obtain ⟨hrr_14, rfl⟩ := hq
    refine lv_istore_n (lv' := [(3, .int r_14), (0, .ref (ad 0)), (1, .int pl), (2, .int (nI 2))]) hx hb dX4_barOf_28 rfl hl (by decide) rfl (fun ls hl => ?_)
    refine lv_iload_n hx hb dX4_barOf_29 rfl (lv_at hl 0 rfl) ?_
    refine lv_iconst (v := -1) hx hb dX4_barOf_30 (by decide) ?_
    refine lv_icmp_eq (tgt := 38) hx hb dX4_barOf_31 (by decide) (fun c31_15 => ?_) (fun c31_15 => ?_)
    · refine lv_iload_n hx hb dX4_barOf_38 rfl (lv_at hl 0 rfl) ?_
      exact hret _ _ _ _ _ _ hP hD hS (⟨by delta barA; rw [← hGN, ← hrr_14, if_pos c31_15]; exact c31_15, rfl⟩) dX4_barOf_39
    · obtain ⟨j, hj, hj36⟩ : ∃ j : Nat, r_14 = nI j ∧ j < 36 := by rcases fndB_ix (P := isB (G9 4)) (pl := pl) 36 0 with q | ⟨j, q, _, q2⟩; exact absurd (hrr_14.trans q) c31_15; exact ⟨j, hrr_14.trans q, by omega⟩
      subst hj
      refine lv_iload_n hx hb dX4_barOf_34 rfl (lv_at hl 3 rfl) ?_
      refine lv_if_ne (tgt := 40) hx hb dX4_barOf_35 (by decide) (fun c35_16 => ?_) (fun c35_16 => absurd c35_16 (by decide))
      refine lv_iload_n hx hb dX4_barOf_40 rfl (lv_at hl 3 rfl) ?_
      refine lv_iconst (v := 1) hx hb dX4_barOf_41 (by decide) ?_
      refine lv_icmp_ne (tgt := 57) hx hb dX4_barOf_42 (by decide) (fun c42_17 => ?_) (fun c42_17 => absurd c42_17 (by decide))
      refine lv_aload_n hx hb dX4_barOf_57 rfl (lv_at hl 1 rfl) ?_
      refine rg (v := .ref (ad 64)) (T := TX4) (N := 4) (C := RX4) hx hb hts hinX4 hown hK hP hN rfl 0 (by decide) (hts (.fieldLink RX4 12 "NeedleGrid" "now" "LNeedleGrid$Grid;") (by decide +kernel)) rfl dX4_barOf_58 ?_
      refine rgN (v := .ref (ad (64 + 1 + 4))) (T := TX2) (N := 13) (C := RX2) hx hb hts hinX2 hown hK hP hR rfl 4 (by decide) (nlF_172 hZ) rfl dX4_barOf_61 ?_
      refine lv_iload_n hx hb dX4_barOf_64 rfl (lv_at hl 0 rfl) ?_
      refine ra (j := j) (n := 36) hx hb hK hP hR 4 rfl (by omega) (by decide) dX4_barOf_65 ?_
      exact hret _ _ _ _ _ _ hP hD hS (⟨by delta barA; rw [← hGN, ← hrr_14, if_neg c31_15]; rw [if_neg (by decide), if_neg (by decide), nI_clamp (by omega)], rfl⟩) dX4_barOf_66

set_option maxHeartbeats 4000000 in
set_option maxRecDepth 100000 in
theorem c_count (l : Launch) (E : NE) (ad : Nat → Nat) (st : NW) (N : Nat → Int32) (Rs : Nat → Nat → Int32) (a x : Nat) (C : Nat → Int32) (n : Nat) (ha : a ≤ 6) (hxx : x < 6) (hn : n ≤ 60) (hO : okH N) (hW : cW E ad st N Rs a x C n) (w : Nat) (hw : w < 9) : nMi l yX4_count wsX4_count (nRm 4 93) E ad st [.ref (ad 0), .int (nI w)] (fun r s1 => r = cntA N a w ∧ st = s1) := by
  refine nSi (cc := cX4_count) (maxL := 2) (by decide) rfl (Nat.le_of_ble_eq_true rfl) ?_
  intro pg en s mi ar bw mth cd R Q A ls hx hb hml hown hts hRm hP hK hD hZ hA hl hret
  subst hRm
  have hown : s.vm.findClass RX4 = some mi.cls := hown
  have hS : va_S A s.heap s.heap [] := va_S.rf
  have hl : lv_has ls 2 [(0, .ref (ad 0)), (1, .int (nI w))] := hl
  obtain ⟨hN, hH, hQr, hT, ⟨R0, hB⟩, hR, ⟨Tr, hTr⟩, hRg⟩ := hW
  obtain ⟨G9, hGN⟩ : ∃ G9, G9 = gN N := ⟨_, rfl⟩
  rw [← hGN] at hR
  have hf : frX 0 208 st st := frX.rf
  have hinX2 : ∀ w ∈ wsX20, w ∈ wsX4_count := by decide +kernel
  have hinX3 : ∀ w ∈ wsX30, w ∈ wsX4_count := by decide +kernel
  have hinX4 : ∀ w ∈ wsX40, w ∈ wsX4_count := by decide +kernel
  refine lv_iload_n hx hb dX4_count_0 rfl (lv_at hl 1 rfl) ?_
  rcases (show w = 0 ∨ w = 1 ∨ w = 2 ∨ w = 3 ∨ w = 4 ∨ w = 5 ∨ w = 6 ∨ w = 7 ∨ w = 8 by omega) with rfl | rfl | rfl | rfl | rfl | rfl | rfl | rfl | rfl
  · refine lv_tableIn (x := nI 0) (off := 51) (tgt := 52) hx hb dX4_count_1 (by decide) (by decide) rfl (by decide) ?_
    refine lv_aload_n hx hb dX4_count_52 rfl (lv_at hl 0 rfl) ?_
    refine rg (v := .ref (ad 64)) (T := TX4) (N := 4) (C := RX4) hx hb hts hinX4 hown hK hP hN rfl 0 (by decide) (hts (.fieldLink RX4 12 "NeedleGrid" "now" "LNeedleGrid$Grid;") (by decide +kernel)) rfl dX4_count_53 ?_
    refine rgN (v := .int (G9 8 0)) (T := TX2) (N := 13) (C := RX2) hx hb hts hinX2 hown hK hP hR rfl 8 (by decide) (nlF_175 hZ) rfl dX4_count_56 ?_
    exact hret _ _ _ _ _ _ hP hD hS (⟨by show _ = N 3; rw [hGN]; exact gN8, rfl⟩) dX4_count_59
  · refine lv_tableIn (x := nI 1) (off := 59) (tgt := 60) hx hb dX4_count_1 (by decide) (by decide) rfl (by decide) ?_
    refine lv_aload_n hx hb dX4_count_60 rfl (lv_at hl 0 rfl) ?_
    refine rg (v := .ref (ad 64)) (T := TX4) (N := 4) (C := RX4) hx hb hts hinX4 hown hK hP hN rfl 0 (by decide) (hts (.fieldLink RX4 12 "NeedleGrid" "now" "LNeedleGrid$Grid;") (by decide +kernel)) rfl dX4_count_61 ?_
    refine nVi (As := []) (rest := _) hx hb hml hown hts hP hK hD hZ hA hS ⟨Nat.zero_le _, Nat.zero_le _⟩ hR.1 rfl (c_barCount l E ad st 64 G9 hR ) (cwV 0 hts gX4_count_X2_barCount rfl rfl rfl (by decide +kernel) ⟨Nat.le_of_ble_eq_true rfl, Nat.le_of_ble_eq_true rfl⟩) hl.1 rfl (Nat.le_of_ble_eq_true rfl) dX4_count_64 (fun r_1 s_2 H locs hq hP hD hS => ?_)
    obtain ⟨hrr_1, rfl⟩ := hq
    exact hret _ _ _ _ _ _ hP hD hS (⟨by rw [hrr_1, hGN]; rfl, rfl⟩) dX4_count_67
  · refine lv_tableIn (x := nI 2) (off := 67) (tgt := 68) hx hb dX4_count_1 (by decide) (by decide) rfl (by decide) ?_
    refine lv_aload_n hx hb dX4_count_68 rfl (lv_at hl 0 rfl) ?_
    refine rg (v := .ref (ad 64)) (T := TX4) (N := 4) (C := RX4) hx hb hts hinX4 hown hK hP hN rfl 0 (by decide) (hts (.fieldLink RX4 12 "NeedleGrid" "now" "LNeedleGrid$Grid;") (by decide +kernel)) rfl dX4_count_69 ?_
    refine rgN (v := .int (G9 6 0)) (T := TX2) (N := 13) (C := RX2) hx hb hts hinX2 hown hK hP hR rfl 6 (by decide) (nlF_92 hZ) rfl dX4_count_72 ?_
    exact hret _ _ _ _ _ _ hP hD hS (⟨by show _ = N 4; rw [hGN]; exact gN6, rfl⟩) dX4_count_75
  · refine lv_tableIn (x := nI 3) (off := 75) (tgt := 76) hx hb dX4_count_1 (by decide) (by decide) rfl (by decide) ?_
    refine lv_aload_n hx hb dX4_count_76 rfl (lv_at hl 0 rfl) ?_
    refine rg (v := .ref (ad 64)) (T := TX4) (N := 4) (C := RX4) hx hb hts hinX4 hown hK hP hN rfl 0 (by decide) (hts (.fieldLink RX4 12 "NeedleGrid" "now" "LNeedleGrid$Grid;") (by decide +kernel)) rfl dX4_count_77 ?_
    refine rgN (v := .int (G9 7 0)) (T := TX2) (N := 13) (C := RX2) hx hb hts hinX2 hown hK hP hR rfl 7 (by decide) (nlF_96 hZ) rfl dX4_count_80 ?_
    exact hret _ _ _ _ _ _ hP hD hS (⟨by show _ = N 5; rw [hGN]; exact gN7, rfl⟩) dX4_count_83
  · refine lv_tableIn (x := nI 4) (off := 83) (tgt := 84) hx hb dX4_count_1 (by decide) (by decide) rfl (by decide) ?_
    refine lv_aload_n hx hb dX4_count_84 rfl (lv_at hl 0 rfl) ?_
    refine rg (v := .ref (ad 64)) (T := TX4) (N := 4) (C := RX4) hx hb hts hinX4 hown hK hP hN rfl 0 (by decide) (hts (.fieldLink RX4 12 "NeedleGrid" "now" "LNeedleGrid$Grid;") (by decide +kernel)) rfl dX4_count_85 ?_
    refine nVi (As := []) (rest := _) hx hb hml hown hts hP hK hD hZ hA hS ⟨Nat.zero_le _, Nat.zero_le _⟩ hR.1 rfl (c_heldCount l E ad st 64 G9 hR ) (cwV 0 hts gX4_count_X2_heldCount rfl rfl rfl (by decide +kernel) ⟨Nat.le_of_ble_eq_true rfl, Nat.le_of_ble_eq_true rfl⟩) hl.1 rfl (Nat.le_of_ble_eq_true rfl) dX4_count_88 (fun r_3 s_4 H locs hq hP hD hS => ?_)
    obtain ⟨hrr_3, rfl⟩ := hq
    exact hret _ _ _ _ _ _ hP hD hS (⟨by rw [hrr_3, hGN]; rfl, rfl⟩) dX4_count_91
  · refine lv_tableIn (x := nI 5) (off := 91) (tgt := 92) hx hb dX4_count_1 (by decide) (by decide) rfl (by decide) ?_
    refine lv_aload_n hx hb dX4_count_92 rfl (lv_at hl 0 rfl) ?_
    refine rg (v := .ref (ad 64)) (T := TX4) (N := 4) (C := RX4) hx hb hts hinX4 hown hK hP hN rfl 0 (by decide) (hts (.fieldLink RX4 12 "NeedleGrid" "now" "LNeedleGrid$Grid;") (by decide +kernel)) rfl dX4_count_93 ?_
    refine nVi (As := []) (rest := _) hx hb hml hown hts hP hK hD hZ hA hS ⟨Nat.zero_le _, Nat.zero_le _⟩ hR.1 rfl (c_turningCount l E ad st 64 G9 hR ) (cwV 0 hts gX4_count_X2_turningCount rfl rfl rfl (by decide +kernel) ⟨Nat.le_of_ble_eq_true rfl, Nat.le_of_ble_eq_true rfl⟩) hl.1 rfl (Nat.le_of_ble_eq_true rfl) dX4_count_96 (fun r_5 s_6 H locs hq hP hD hS => ?_)
    obtain ⟨hrr_5, rfl⟩ := hq
    exact hret _ _ _ _ _ _ hP hD hS (⟨by rw [hrr_5, hGN]; rfl, rfl⟩) dX4_count_99
  · refine lv_tableIn (x := nI 6) (off := 99) (tgt := 100) hx hb dX4_count_1 (by decide) (by decide) rfl (by decide) ?_
    refine lv_aload_n hx hb dX4_count_100 rfl (lv_at hl 0 rfl) ?_
    refine rg (v := .ref (ad 64)) (T := TX4) (N := 4) (C := RX4) hx hb hts hinX4 hown hK hP hN rfl 0 (by decide) (hts (.fieldLink RX4 12 "NeedleGrid" "now" "LNeedleGrid$Grid;") (by decide +kernel)) rfl dX4_count_101 ?_
    refine nVi (As := []) (rest := _) hx hb hml hown hts hP hK hD hZ hA hS ⟨Nat.zero_le _, Nat.zero_le _⟩ hR.1 rfl (c_obeyingCount l E ad st 64 G9 hR ) (cwV 0 hts gX4_count_X2_obeyingCount rfl rfl rfl (by decide +kernel) ⟨Nat.le_of_ble_eq_true rfl, Nat.le_of_ble_eq_true rfl⟩) hl.1 rfl (Nat.le_of_ble_eq_true rfl) dX4_count_104 (fun r_7 s_8 H locs hq hP hD hS => ?_)
    obtain ⟨hrr_7, rfl⟩ := hq
    exact hret _ _ _ _ _ _ hP hD hS (⟨by rw [hrr_7, hGN]; rfl, rfl⟩) dX4_count_107
  · refine lv_tableIn (x := nI 7) (off := 107) (tgt := 108) hx hb dX4_count_1 (by decide) (by decide) rfl (by decide) ?_
    refine lv_aload_n hx hb dX4_count_108 rfl (lv_at hl 0 rfl) ?_
    refine rg (v := .ref (ad 64)) (T := TX4) (N := 4) (C := RX4) hx hb hts hinX4 hown hK hP hN rfl 0 (by decide) (hts (.fieldLink RX4 12 "NeedleGrid" "now" "LNeedleGrid$Grid;") (by decide +kernel)) rfl dX4_count_109 ?_
    refine nVi (As := []) (rest := _) hx hb hml hown hts hP hK hD hZ hA hS ⟨Nat.zero_le _, Nat.zero_le _⟩ hR.1 rfl (c_awayTogether l E ad st 64 G9 hR ) (cwV 0 hts gX4_count_X2_awayTogether rfl rfl rfl (by decide +kernel) ⟨Nat.le_of_ble_eq_true rfl, Nat.le_of_ble_eq_true rfl⟩) hl.1 rfl (Nat.le_of_ble_eq_true rfl) dX4_count_112 (fun r_9 s_10 H locs hq hP hD hS => ?_)
    obtain ⟨hrr_9, rfl⟩ := hq
    exact hret _ _ _ _ _ _ hP hD hS (⟨by rw [hrr_9, hGN]; rfl, rfl⟩) dX4_count_115
  · refine lv_tableIn (x := nI 8) (off := 115) (tgt := 116) hx hb dX4_count_1 (by decide) (by decide) rfl (by decide) ?_
    refine lv_aload_n hx hb dX4_count_116 rfl (lv_at hl 0 rfl) ?_
    refine rg (v := .ref (ad 16)) (T := TX4) (N := 4) (C := RX4) hx hb hts hinX4 hown hK hP hN rfl 2 (by decide) (hts (.fieldLink RX4 22 "NeedleGrid" "history" "LNeedleGrid$History;") (by decide +kernel)) rfl dX4_count_117 ?_
    refine rgN (v := .int (nI a)) (T := TX3) (N := 3) (C := RX3) hx hb hts hinX3 hown hK hP hH rfl 1 (by decide) (nlF_138 hZ) rfl dX4_count_120 ?_
    exact hret _ _ _ _ _ _ hP hD hS (⟨rfl, rfl⟩) dX4_count_123

set_option maxHeartbeats 4000000 in
set_option maxRecDepth 100000 in
theorem c_pointing (l : Launch) (E : NE) (ad : Nat → Nat) (st : NW) (N : Nat → Int32) (Rs : Nat → Nat → Int32) (a x : Nat) (C : Nat → Int32) (n : Nat) (ha : a ≤ 6) (hxx : x < 6) (hn : n ≤ 60) (hO : okH N) (hW : cW E ad st N Rs a x C n) (d : Nat) (hd : d < 8) : nMi l yX4_pointing wsX4_pointing (nRm 2 42) E ad st [.ref (ad 0), .int (nI d)] (fun r s1 => r = nI (cnI (fun k => decide (gN N 0 k = nI d)) 36) ∧ st = s1) := by
  refine nSi (cc := cX4_pointing) (maxL := 2) (by decide) rfl (Nat.le_of_ble_eq_true rfl) ?_
  intro pg en s mi ar bw mth cd R Q A ls hx hb hml hown hts hRm hP hK hD hZ hA hl hret
  subst hRm
  have hown : s.vm.findClass RX4 = some mi.cls := hown
  have hS : va_S A s.heap s.heap [] := va_S.rf
  have hl : lv_has ls 2 [(0, .ref (ad 0)), (1, .int (nI d))] := hl
  obtain ⟨hN, hH, hQr, hT, ⟨R0, hB⟩, hR, ⟨Tr, hTr⟩, hRg⟩ := hW
  obtain ⟨G9, hGN⟩ : ∃ G9, G9 = gN N := ⟨_, rfl⟩
  rw [← hGN] at hR
  have hf : frX 0 208 st st := frX.rf
  have hinX2 : ∀ w ∈ wsX20, w ∈ wsX4_pointing := by decide +kernel
  have hinX4 : ∀ w ∈ wsX40, w ∈ wsX4_pointing := by decide +kernel
  refine lv_iload_n hx hb dX4_pointing_0 rfl (lv_at hl 1 rfl) ?_
  refine nS_v (As := [.int (nI d)]) (rest := _) hx hb hml hown hts hP hK hD hZ hA hS ⟨Nat.zero_le _, Nat.zero_le _⟩ (c_requireDirection l E ad st d (by omega)) (va_cwS 1 hts gX4_pointing_X4_requireDirection rfl rfl rfl (by decide +kernel) ⟨Nat.le_of_ble_eq_true rfl, Nat.le_of_ble_eq_true rfl⟩) hl.1 rfl (Nat.le_of_ble_eq_true rfl) dX4_pointing_1 (fun s_1 H locs hq hP hD hS => ?_)
  obtain rfl := hq
  refine lv_aload_n hx hb dX4_pointing_4 rfl (lv_at hl 0 rfl) ?_
  refine rg (v := .ref (ad 64)) (T := TX4) (N := 4) (C := RX4) hx hb hts hinX4 hown hK hP hN rfl 0 (by decide) (hts (.fieldLink RX4 12 "NeedleGrid" "now" "LNeedleGrid$Grid;") (by decide +kernel)) rfl dX4_pointing_5 ?_
  refine lv_iload_n hx hb dX4_pointing_8 rfl (lv_at hl 1 rfl) ?_
  refine nVi (As := [.int (nI d)]) (rest := _) hx hb hml hown hts hP hK hD hZ hA hS ⟨Nat.zero_le _, Nat.zero_le _⟩ hR.1 rfl (c_pointingCount l E ad st 64 G9 hR (nI d)) (cwV 1 hts gX4_pointing_X2_pointingCount rfl rfl rfl (by decide +kernel) ⟨Nat.le_of_ble_eq_true rfl, Nat.le_of_ble_eq_true rfl⟩) hl.1 rfl (Nat.le_of_ble_eq_true rfl) dX4_pointing_9 (fun r_2 s_3 H locs hq hP hD hS => ?_)
  obtain ⟨hrr_2, rfl⟩ := hq
  exact hret _ _ _ _ _ _ hP hD hS (⟨by rw [hrr_2, hGN], rfl⟩) dX4_pointing_12

set_option maxHeartbeats 4000000 in
set_option maxRecDepth 100000 in
theorem c_points (l : Launch) (E : NE) (ad : Nat → Nat) (st : NW) (N : Nat → Int32) (Rs : Nat → Nat → Int32) (a x : Nat) (C : Nat → Int32) (n : Nat) (ha : a ≤ 6) (hxx : x < 6) (hn : n ≤ 60) (hO : okH N) (hW : cW E ad st N Rs a x C n) (c k : Nat) (hc : c < 36) (hk : k ≤ 100) : nMi l yX4_points wsX4_points (nRm 5 114) E ad st [.ref (ad 0), .int (nI c), .int (nI k)] (fun r s1 => r = itN N k (6 + c) ∧ cW E ad s1 N Rs a x C n ∧ frX 0 208 st s1) := by
  refine nSi (cc := cX4_points) (maxL := 3) (by decide) rfl (Nat.le_of_ble_eq_true rfl) ?_
  intro pg en s mi ar bw mth cd R Q A ls hx hb hml hown hts hRm hP hK hD hZ hA hl hret
  subst hRm
  have hown : s.vm.findClass RX4 = some mi.cls := hown
  have hS : va_S A s.heap s.heap [] := va_S.rf
  have hl : lv_has ls 3 [(0, .ref (ad 0)), (1, .int (nI c)), (2, .int (nI k))] := hl
  obtain ⟨hN, hH, hQr, hT, ⟨R0, hB⟩, hR, ⟨Tr, hTr⟩, hRg⟩ := hW
  obtain ⟨G9, hGN⟩ : ∃ G9, G9 = gN N := ⟨_, rfl⟩
  rw [← hGN] at hR
  have hf : fr 80 st st := fr.rf
  have hinX2 : ∀ w ∈ wsX20, w ∈ wsX4_points := by decide +kernel
  have hinX4 : ∀ w ∈ wsX40, w ∈ wsX4_points := by decide +kernel
  refine lv_iload_n hx hb dX4_points_0 rfl (lv_at hl 1 rfl) ?_
  refine nS_v (As := [.int (nI c)]) (rest := _) hx hb hml hown hts hP hK hD hZ hA hS ⟨Nat.zero_le _, Nat.zero_le _⟩ (c_requireCell l E ad st c (by omega)) (va_cwS 1 hts gX4_points_X4_requireCell rfl rfl rfl (by decide +kernel) ⟨Nat.le_of_ble_eq_true rfl, Nat.le_of_ble_eq_true rfl⟩) hl.1 rfl (Nat.le_of_ble_eq_true rfl) dX4_points_1 (fun s_1 H locs hq hP hD hS => ?_)
  obtain rfl := hq
  refine lv_iload_n hx hb dX4_points_4 rfl (lv_at hl 2 rfl) ?_
  refine lv_iconst (v := 0) hx hb dX4_points_5 (by decide) ?_
  refine lv_bipush (v := 100) hx hb dX4_points_6 (by decide) ?_
  refine nS_v (As := [.int (nI k), .int 0, .int 100]) (rest := _) hx hb hml hown hts hP hK hD hZ hA hS ⟨Nat.zero_le _, Nat.zero_le _⟩ (c_requireBetween l E ad st (nI k) 0 100 (nI_pos (by omega)) ((nI_leL (n := 100) rfl (by decide) (by omega)).mpr (by omega))) (va_cwS 3 hts gX4_points_X4_requireBetween rfl rfl rfl (by decide +kernel) ⟨Nat.le_of_ble_eq_true rfl, Nat.le_of_ble_eq_true rfl⟩) hl.1 rfl (Nat.le_of_ble_eq_true rfl) dX4_points_8 (fun s_2 H locs hq hP hD hS => ?_)
  obtain rfl := hq
  refine lv_aload_n hx hb dX4_points_11 rfl (lv_at hl 0 rfl) ?_
  refine rg (v := .ref (ad 80)) (T := TX4) (N := 4) (C := RX4) hx hb hts hinX4 hown hK hP hN rfl 1 (by decide) (hts (.fieldLink RX4 16 "NeedleGrid" "trial" "LNeedleGrid$Grid;") (by decide +kernel)) rfl dX4_points_12 ?_
  refine lv_aload_n hx hb dX4_points_15 rfl (lv_at hl 0 rfl) ?_
  refine rg (v := .ref (ad 64)) (T := TX4) (N := 4) (C := RX4) hx hb hts hinX4 hown hK hP hN rfl 0 (by decide) (hts (.fieldLink RX4 12 "NeedleGrid" "now" "LNeedleGrid$Grid;") (by decide +kernel)) rfl dX4_points_16 ?_
  refine nVv (As := [.ref (ad 64)]) (rest := _) hx hb hml hown hts hP hK hD hZ hA hS ⟨Nat.zero_le _, Nat.zero_le _⟩ hTr.1 rfl (c_copyFrom l E ad st 80 64 (by omega) Tr G9 hTr hR (by rw [hGN]; exact hO.g)) (cwV 1 hts gX4_points_X2_copyFrom rfl rfl rfl (by decide +kernel) ⟨Nat.le_of_ble_eq_true rfl, Nat.le_of_ble_eq_true rfl⟩) hl.1 rfl (Nat.le_of_ble_eq_true rfl) dX4_points_19 (fun s_4 H locs hq hP hD hS => ?_)
  obtain ⟨hTr, hf_3⟩ := hq
  have hN := hN.keep hf_3 (by omega) (by decide)
  have hR := hR.keep hf_3 (by omega) (by decide)
  have hf := hf.tr hf_3
  refine lv_aload_n hx hb dX4_points_22 rfl (lv_at hl 0 rfl) ?_
  refine rg (v := .ref (ad 80)) (T := TX4) (N := 4) (C := RX4) hx hb hts hinX4 hown hK hP hN rfl 1 (by decide) (hts (.fieldLink RX4 16 "NeedleGrid" "trial" "LNeedleGrid$Grid;") (by decide +kernel)) rfl dX4_points_23 ?_
  refine lv_iload_n hx hb dX4_points_26 rfl (lv_at hl 2 rfl) ?_
  refine nVi (As := [.int (nI k)]) (rest := _) hx hb hml hown hts hP hK hD hZ hA hS ⟨Nat.zero_le _, Nat.zero_le _⟩ hTr.1 rfl (c_letGoBy l E ad s_4 80 G9 hTr k (by omega)) (cwV 1 hts gX4_points_X2_letGoBy rfl rfl rfl (by decide +kernel) ⟨Nat.le_of_ble_eq_true rfl, Nat.le_of_ble_eq_true rfl⟩) hl.1 rfl (Nat.le_of_ble_eq_true rfl) dX4_points_27 (fun r_5 s_7 H locs hq hP hD hS => ?_)
  obtain ⟨hrr_5, hTr, hf_6⟩ := hq
  have hN := hN.keep hf_6 (by omega) (by decide)
  have hR := hR.keep hf_6 (by omega) (by decide)
  have hf := hf.tr hf_6
  refine lv_pop hx hb dX4_points_30 rfl ?_
  refine lv_aload_n hx hb dX4_points_31 rfl (lv_at hl 0 rfl) ?_
  refine rg (v := .ref (ad 80)) (T := TX4) (N := 4) (C := RX4) hx hb hts hinX4 hown hK hP hN rfl 1 (by decide) (hts (.fieldLink RX4 16 "NeedleGrid" "trial" "LNeedleGrid$Grid;") (by decide +kernel)) rfl dX4_points_32 ?_
  refine rgN (v := .ref (ad (80 + 1 + 0))) (T := TX2) (N := 13) (C := RX2) hx hb hts hinX2 hown hK hP hTr rfl 0 (by decide) (nlF_44 hZ) rfl dX4_points_35 ?_
  refine lv_iload_n hx hb dX4_points_38 rfl (lv_at hl 1 rfl) ?_
  refine ra (j := c) (n := 36) hx hb hK hP hTr 0 rfl (by omega) (by decide) dX4_points_39 ?_
  exact hret _ _ _ _ _ _ hP hD hS (⟨by show tgG G9 k 0 c = _; rw [hGN, tg_gN]; exact gN0 hc, ⟨hN, hH.keep hf (by omega) (by decide), (hf 12 (by omega)).trans hQr, hT.keep hf (by omega) (by decide), ⟨_, hB.keep hf (by omega) (by decide)⟩, (by rw [← hGN]; exact hR), ⟨_, hTr⟩, fun i9 hi9 => (hRg i9 hi9).keep hf (by omega) (by decide)⟩, fun k9 h9 => hf k9 (by omega)⟩) dX4_points_40

theorem nI_ltR {N : Int32} {n i : Nat} (hN : N = nI n) (hn : n < 2 ^ 31) (hi : i < 2 ^ 31) : N < nI i ↔ n < i := by rw [hN]; exact nI_ltI hn hi

set_option maxHeartbeats 4000000 in
set_option maxRecDepth 100000 in
theorem c_restsIn (l : Launch) (E : NE) (ad : Nat → Nat) (st : NW) (N : Nat → Int32) (Rs : Nat → Nat → Int32) (a x : Nat) (C : Nat → Int32) (n : Nat) (ha : a ≤ 6) (hxx : x < 6) (hn : n ≤ 60) (hO : okH N) (hW : cW E ad st N Rs a x C n)  : nMi l yX4_restsIn wsX4_restsIn (nRm 5 114) E ad st [.ref (ad 0)] (fun r s1 => r = fnd1 (rstP N) 101 0 ∧ cW E ad s1 N Rs a x C n ∧ frX 0 208 st s1) := by
  refine nSi (cc := cX4_restsIn) (maxL := 2) (by decide) rfl (Nat.le_of_ble_eq_true rfl) ?_
  intro pg en s mi ar bw mth cd R Q A ls hx hb hml hown hts hRm hP hK hD hZ hA hl hret
  subst hRm
  have hown : s.vm.findClass RX4 = some mi.cls := hown
  have hS : va_S A s.heap s.heap [] := va_S.rf
  have hl : lv_has ls 2 [(0, .ref (ad 0))] := hl
  obtain ⟨hN, hH, hQr, hT, ⟨R0, hB⟩, hR, ⟨Tr, hTr⟩, hRg⟩ := hW
  obtain ⟨G9, hGN⟩ : ∃ G9, G9 = gN N := ⟨_, rfl⟩
  rw [← hGN] at hR
  have hf : fr 80 st st := fr.rf
  have hinX2 : ∀ w ∈ wsX20, w ∈ wsX4_restsIn := by decide +kernel
  have hinX4 : ∀ w ∈ wsX40, w ∈ wsX4_restsIn := by decide +kernel
  refine lv_aload_n hx hb dX4_restsIn_0 rfl (lv_at hl 0 rfl) ?_
  refine rg (v := .ref (ad 80)) (T := TX4) (N := 4) (C := RX4) hx hb hts hinX4 hown hK hP hN rfl 1 (by decide) (hts (.fieldLink RX4 16 "NeedleGrid" "trial" "LNeedleGrid$Grid;") (by decide +kernel)) rfl dX4_restsIn_1 ?_
  refine lv_aload_n hx hb dX4_restsIn_4 rfl (lv_at hl 0 rfl) ?_
  refine rg (v := .ref (ad 64)) (T := TX4) (N := 4) (C := RX4) hx hb hts hinX4 hown hK hP hN rfl 0 (by decide) (hts (.fieldLink RX4 12 "NeedleGrid" "now" "LNeedleGrid$Grid;") (by decide +kernel)) rfl dX4_restsIn_5 ?_
  refine nVv (As := [.ref (ad 64)]) (rest := _) hx hb hml hown hts hP hK hD hZ hA hS ⟨Nat.zero_le _, Nat.zero_le _⟩ hTr.1 rfl (c_copyFrom l E ad st 80 64 (by omega) Tr G9 hTr hR (by rw [hGN]; exact hO.g)) (cwV 1 hts gX4_restsIn_X2_copyFrom rfl rfl rfl (by decide +kernel) ⟨Nat.le_of_ble_eq_true rfl, Nat.le_of_ble_eq_true rfl⟩) hl.1 rfl (Nat.le_of_ble_eq_true rfl) dX4_restsIn_8 (fun s_2 H locs hq hP hD hS => ?_)
  obtain ⟨hTr, hf_1⟩ := hq
  have hN := hN.keep hf_1 (by omega) (by decide)
  have hR := hR.keep hf_1 (by omega) (by decide)
  have hf := hf.tr hf_1
  refine lv_iconst (v := 0) hx hb dX4_restsIn_11 (by decide) ?_
  refine lv_istore_n (lv' := [(1, .int 0), (0, .ref (ad 0))]) hx hb dX4_restsIn_12 rfl hl (by decide) rfl (fun ls hl => ?_)
  have LP_3 : ∀ (k9 i : Nat), i ≤ 101 → 101 - i < k9 → ∀ (sL_4 : NW) (H : Heap) (locs : List Loc) (ls : Array Slot), isR E ad sL_4 0 sN ((fun _ _ => 0)) → isR E ad sL_4 64 sG (G9) → isR E ad sL_4 80 sG ((gN (rsN N i))) → fr 80 st sL_4 → fnd1 (rstP N) 101 0 = fnd1 (rstP N) (101 - i) i → nP E ad sL_4 H → nD A ad sL_4 → va_S A s.heap H locs → lv_has ls 2 [(1, .int (nI i)), (0, .ref (ad 0))] → W pg l en (nRm 5 114) s mi ar bw mth cd H locs 0 0 Q (F0 mi 13 ls []) := by
    intro k9
    induction k9 with
    | zero => intro i _ h9; exact absurd h9 (Nat.not_lt_zero _)
    | succ k9 ih13 =>
      intro i hi hk9 sL_4 H locs ls hN hR hTr hf hfn hP hD hS hl
      refine lv_iload_n hx hb dX4_restsIn_13 rfl (lv_at hl 0 rfl) ?_
      refine lv_bipush (v := 100) hx hb dX4_restsIn_14 (by decide) ?_
      refine lv_icmp_gt (tgt := 38) hx hb dX4_restsIn_16 (by decide) (fun c16_4 => ?_) (fun c16_4 => ?_)
      · have h36 : 101 ≤ i := by have := (nI_ltR (n := 100) (i := i) rfl (by decide) (by omega)).mp c16_4; omega
        obtain rfl : i = 101 := by omega
        refine lv_iconst (v := -1) hx hb dX4_restsIn_38 (by decide) ?_
        exact hret _ _ _ _ _ _ hP hD hS (⟨(by rw [hfn]; rfl), ⟨hN, hH.keep hf (by omega) (by decide), (hf 12 (by omega)).trans hQr, hT.keep hf (by omega) (by decide), ⟨_, hB.keep hf (by omega) (by decide)⟩, (by rw [← hGN]; exact hR), ⟨_, hTr⟩, fun i9 hi9 => (hRg i9 hi9).keep hf (by omega) (by decide)⟩, fun k9 h9 => hf k9 (by omega)⟩) dX4_restsIn_39
      · have hlt : i < 101 := by have := mt (nI_ltR (n := 100) (i := i) rfl (by decide) (by omega)).mpr c16_4; omega
        refine lv_aload_n hx hb dX4_restsIn_19 rfl (lv_at hl 1 rfl) ?_
        refine rg (v := .ref (ad 80)) (T := TX4) (N := 4) (C := RX4) hx hb hts hinX4 hown hK hP hN rfl 1 (by decide) (hts (.fieldLink RX4 16 "NeedleGrid" "trial" "LNeedleGrid$Grid;") (by decide +kernel)) rfl dX4_restsIn_20 ?_
        refine lv_iconst (v := 1) hx hb dX4_restsIn_23 (by decide) ?_
        refine nVi (As := [.int 1]) (rest := _) hx hb hml hown hts hP hK hD hZ hA hS ⟨Nat.zero_le _, Nat.zero_le _⟩ hTr.1 rfl (c_letGoBy l E ad sL_4 80 (gN (rsN N i)) hTr 1 (by omega)) (cwV 1 hts gX4_restsIn_X2_letGoBy rfl rfl rfl (by decide +kernel) ⟨Nat.le_of_ble_eq_true rfl, Nat.le_of_ble_eq_true rfl⟩) hl.1 rfl (Nat.le_of_ble_eq_true rfl) dX4_restsIn_24 (fun r_6 s_8 H locs hq hP hD hS => ?_)
        obtain ⟨hrr_6, hTr, hf_7⟩ := hq
        have hN := hN.keep hf_7 (by omega) (by decide)
        have hR := hR.keep hf_7 (by omega) (by decide)
        have hf := hf.tr hf_7
        rw [gN_rs] at hTr
        refine lv_if_ne (tgt := 32) hx hb dX4_restsIn_27 (by decide) (fun c27_8 => ?_) (fun c27_8 => ?_)
        · have hPi : (rstP N) i = false := rst_f hrr_6 c27_8
          refine lv_iinc (v := nI (i + 1)) (lv' := [(1, .int (nI (i + 1))), (0, .ref (ad 0))]) hx hb dX4_restsIn_32 hl (k := 0) rfl (nI_1 _) (by decide) rfl (fun ls hl => ?_)
          refine lv_goto (tgt := 13) hx hb dX4_restsIn_35 (by decide) ?_
          exact ih13 (i + 1) (by omega) (by omega) _ _ _ _ hN hR hTr hf (by rw [hfn, fnd1_no (by omega) hPi, show 101 - i - 1 = 101 - (i + 1) by omega]) hP hD hS (lv_sub hl [0, 1] rfl)
        · have hPi : (rstP N) i = true := rst_t hrr_6 c27_8
          refine lv_iload_n hx hb dX4_restsIn_30 rfl (lv_at hl 0 rfl) ?_
          exact hret _ _ _ _ _ _ hP hD hS (⟨(by rw [hfn, fnd1_yes (by omega) hPi]), ⟨hN, hH.keep hf (by omega) (by decide), (hf 12 (by omega)).trans hQr, hT.keep hf (by omega) (by decide), ⟨_, hB.keep hf (by omega) (by decide)⟩, (by rw [← hGN]; exact hR), ⟨_, hTr⟩, fun i9 hi9 => (hRg i9 hi9).keep hf (by omega) (by decide)⟩, fun k9 h9 => hf k9 (by omega)⟩) dX4_restsIn_31
  exact LP_3 (101 + 1) 0 (Nat.zero_le _) (by omega) _ _ _ _ hN hR (by rw [hGN] at hTr; exact hTr) hf rfl hP hD hS (lv_sub hl [0, 1] rfl)


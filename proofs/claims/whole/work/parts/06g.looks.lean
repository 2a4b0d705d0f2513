def ifbG (G : Nat → Nat → Int32) (c : Nat) (d t : Int32) : Nat → Bool := fun k => !decide (gIB G k c d t = gAim G k)
theorem ifbG_t {G : Nat → Nat → Int32} {c k : Nat} {d t : Int32} (h : ¬ gIB G k c d t = gAim G k) : ifbG G c d t k = true := by unfold ifbG; rw [decide_eq_false h]; rfl
theorem ifbG_f {G : Nat → Nat → Int32} {c k : Nat} {d t : Int32} (h : gIB G k c d t = gAim G k) : ifbG G c d t k = false := by unfold ifbG; rw [decide_eq_true h]; rfl
def lstG (G : Nat → Nat → Int32) (c : Nat) : Nat → Bool := fun k => decide (gIT G c (nI k) = G 7 0)
theorem lstG_t {G : Nat → Nat → Int32} {c k : Nat} (h : gIT G c (nI k) = G 7 0) : lstG G c k = true := decide_eq_true h
theorem lstG_f {G : Nat → Nat → Int32} {c k : Nat} (h : ¬ gIT G c (nI k) = G 7 0) : lstG G c k = false := decide_eq_false h
def bstG (G : Nat → Nat → Int32) (c : Nat) (d t : Int32) : Nat → Bool := fun q => decide (gIB G c (q / 8) (nI (q % 8)) t = d)
theorem bstG_t {G : Nat → Nat → Int32} {c i j : Nat} {d t : Int32} (hj : j < 8) (h : gIB G c i (nI j) t = d) : bstG G c d t (8 * i + j) = true := by
  unfold bstG
  rw [show (8 * i + j) / 8 = i by omega, show (8 * i + j) % 8 = j by omega]
  exact decide_eq_true h
theorem bstG_f {G : Nat → Nat → Int32} {c i j : Nat} {d t : Int32} (hj : j < 8) (h : ¬ gIB G c i (nI j) t = d) : bstG G c d t (8 * i + j) = false := by
  unfold bstG
  rw [show (8 * i + j) / 8 = i by omega, show (8 * i + j) % 8 = j by omega]
  exact decide_eq_false h

set_option maxHeartbeats 4000000 in
set_option maxRecDepth 100000 in
theorem c_ifBar (l : Launch) (E : NE) (ad : Nat → Nat) (st : NW) (N : Nat → Int32) (Rs : Nat → Nat → Int32) (a x : Nat) (C : Nat → Int32) (n : Nat) (ha : a ≤ 6) (hxx : x < 6) (hn : n ≤ 60) (hO : okH N) (hW : cW E ad st N Rs a x C n) (c d : Nat) (t : Int32) (hc : c < 36) (hd : d < 8) (h1 : ¬ t < 1) (h2 : t ≤ 50) : nMi l yX4_ifBar wsX4_ifBar (nRm 3 80) E ad st [.ref (ad 0), .int (nI c), .int (nI d), .int t] (fun r s1 => r = nI (cnI (ifbG (gN N) c (nI d) t) 36) ∧ st = s1) := by
  refine nSi (cc := cX4_ifBar) (maxL := 6) (by decide) rfl (Nat.le_of_ble_eq_true rfl) ?_
  intro pg en s mi ar bw mth cd R Q A ls hx hb hml hown hts hRm hP hK hD hZ hA hl hret
  subst hRm
  have hown : s.vm.findClass RX4 = some mi.cls := hown
  have hS : va_S A s.heap s.heap [] := va_S.rf
  have hl : lv_has ls 6 [(0, .ref (ad 0)), (1, .int (nI c)), (2, .int (nI d)), (3, .int t)] := hl
  obtain ⟨hN, hH, hQr, hT, ⟨R0, hB⟩, hR, ⟨Tr, hTr⟩, hRg⟩ := hW
  obtain ⟨G9, hGN⟩ : ∃ G9, G9 = gN N := ⟨_, rfl⟩
  rw [← hGN] at hR
  have hf : frX 0 208 st st := frX.rf
  have hinX2 : ∀ w ∈ wsX20, w ∈ wsX4_ifBar := by decide +kernel
  have hinX4 : ∀ w ∈ wsX40, w ∈ wsX4_ifBar := by decide +kernel
  refine lv_iload_n hx hb dX4_ifBar_0 rfl (lv_at hl 1 rfl) ?_
  refine nS_v (As := [.int (nI c)]) (rest := _) hx hb hml hown hts hP hK hD hZ hA hS ⟨Nat.zero_le _, Nat.zero_le _⟩ (c_requireCell l E ad st c (by omega)) (va_cwS 1 hts gX4_ifBar_X4_requireCell rfl rfl rfl (by decide +kernel) ⟨Nat.le_of_ble_eq_true rfl, Nat.le_of_ble_eq_true rfl⟩) hl.1 rfl (Nat.le_of_ble_eq_true rfl) dX4_ifBar_1 (fun s_1 H locs hq hP hD hS => ?_)
  obtain rfl := hq
  refine lv_iload_n hx hb dX4_ifBar_4 rfl (lv_at hl 2 rfl) ?_
  refine nS_v (As := [.int (nI d)]) (rest := _) hx hb hml hown hts hP hK hD hZ hA hS ⟨Nat.zero_le _, Nat.zero_le _⟩ (c_requireDirection l E ad st d (by omega)) (va_cwS 1 hts gX4_ifBar_X4_requireDirection rfl rfl rfl (by decide +kernel) ⟨Nat.le_of_ble_eq_true rfl, Nat.le_of_ble_eq_true rfl⟩) hl.1 rfl (Nat.le_of_ble_eq_true rfl) dX4_ifBar_5 (fun s_2 H locs hq hP hD hS => ?_)
  obtain rfl := hq
  refine lv_iload_n hx hb dX4_ifBar_8 rfl (lv_at hl 3 rfl) ?_
  refine lv_iconst (v := 1) hx hb dX4_ifBar_9 (by decide) ?_
  refine lv_bipush (v := 50) hx hb dX4_ifBar_10 (by decide) ?_
  refine nS_v (As := [.int t, .int 1, .int 50]) (rest := _) hx hb hml hown hts hP hK hD hZ hA hS ⟨Nat.zero_le _, Nat.zero_le _⟩ (c_requireBetween l E ad st t 1 50 h1 h2) (va_cwS 3 hts gX4_ifBar_X4_requireBetween rfl rfl rfl (by decide +kernel) ⟨Nat.le_of_ble_eq_true rfl, Nat.le_of_ble_eq_true rfl⟩) hl.1 rfl (Nat.le_of_ble_eq_true rfl) dX4_ifBar_12 (fun s_3 H locs hq hP hD hS => ?_)
  obtain rfl := hq
  refine lv_iconst (v := 0) hx hb dX4_ifBar_15 (by decide) ?_
  refine lv_istore (lv' := [(4, .int 0), (0, .ref (ad 0)), (1, .int (nI c)), (2, .int (nI d)), (3, .int t)]) hx hb dX4_ifBar_16 hl (by decide) rfl (fun ls hl => ?_)
  refine lv_iconst (v := 0) hx hb dX4_ifBar_18 (by decide) ?_
  refine lv_istore (lv' := [(5, .int 0), (4, .int 0), (0, .ref (ad 0)), (1, .int (nI c)), (2, .int (nI d)), (3, .int t)]) hx hb dX4_ifBar_19 hl (by decide) rfl (fun ls hl => ?_)
  have LP_4 : ∀ (k9 i : Nat), i ≤ 36 → 36 - i < k9 → ∀ (H : Heap) (locs : List Loc) (ls : Array Slot), nP E ad st H → nD A ad st → va_S A s.heap H locs → lv_has ls 6 [(4, .int (nI (cnI (ifbG G9 c (nI d) t) i))), (5, .int (nI i)), (0, .ref (ad 0)), (1, .int (nI c)), (2, .int (nI d)), (3, .int t)] → W pg l en (nRm 3 80) s mi ar bw mth cd H locs 0 0 Q (F0 mi 21 ls []) := by
    intro k9
    induction k9 with
    | zero => intro i _ h9; exact absurd h9 (Nat.not_lt_zero _)
    | succ k9 ih21 =>
      intro i hi hk9 H locs ls  hP hD hS hl
      refine lv_iload hx hb dX4_ifBar_21 (lv_at hl 1 rfl) ?_
      refine lv_bipush (v := 36) hx hb dX4_ifBar_23 (by decide) ?_
      refine lv_icmp_ge (tgt := 61) hx hb dX4_ifBar_25 (by decide) (fun c25_4 => ?_) (fun c25_4 => ?_)
      · have h36 : 36 ≤ i := (nI_geL (n := 36) rfl (by decide) (by omega)).mp c25_4
        obtain rfl : i = 36 := by omega
        refine lv_iload hx hb dX4_ifBar_61 (lv_at hl 0 rfl) ?_
        exact hret _ _ _ _ _ _ hP hD hS (⟨by rw [hGN], rfl⟩) dX4_ifBar_63
      · have hlt : i < 36 := by have := mt (nI_geL (n := 36) (i := i) rfl (by decide) (by omega)).mpr c25_4; omega
        refine lv_aload_n hx hb dX4_ifBar_28 rfl (lv_at hl 2 rfl) ?_
        refine rg (v := .ref (ad 64)) (T := TX4) (N := 4) (C := RX4) hx hb hts hinX4 hown hK hP hN rfl 0 (by decide) (hts (.fieldLink RX4 12 "NeedleGrid" "now" "LNeedleGrid$Grid;") (by decide +kernel)) rfl dX4_ifBar_29 ?_
        refine lv_iload hx hb dX4_ifBar_32 (lv_at hl 1 rfl) ?_
        refine lv_iload_n hx hb dX4_ifBar_34 rfl (lv_at hl 3 rfl) ?_
        refine lv_iload_n hx hb dX4_ifBar_35 rfl (lv_at hl 4 rfl) ?_
        refine lv_iload_n hx hb dX4_ifBar_36 rfl (lv_at hl 5 rfl) ?_
        refine nVi (As := [.int (nI i), .int (nI c), .int (nI d), .int t]) (rest := _) hx hb hml hown hts hP hK hD hZ hA hS ⟨Nat.zero_le _, Nat.zero_le _⟩ hR.1 rfl (c_aimIfBar l E ad st 64 G9 hR i c (by omega) (by omega) (nI d) t) (cwV 4 hts gX4_ifBar_X2_aimIfBar rfl rfl rfl (by decide +kernel) ⟨Nat.le_of_ble_eq_true rfl, Nat.le_of_ble_eq_true rfl⟩) hl.1 rfl (Nat.le_of_ble_eq_true rfl) dX4_ifBar_37 (fun r_6 s_7 H locs hq hP hD hS => ?_)
        obtain ⟨hrr_6, rfl⟩ := hq
        refine lv_aload_n hx hb dX4_ifBar_40 rfl (lv_at hl 2 rfl) ?_
        refine rg (v := .ref (ad 64)) (T := TX4) (N := 4) (C := RX4) hx hb hts hinX4 hown hK hP hN rfl 0 (by decide) (hts (.fieldLink RX4 12 "NeedleGrid" "now" "LNeedleGrid$Grid;") (by decide +kernel)) rfl dX4_ifBar_41 ?_
        refine lv_iload hx hb dX4_ifBar_44 (lv_at hl 1 rfl) ?_
        refine nVi (As := [.int (nI i)]) (rest := _) hx hb hml hown hts hP hK hD hZ hA hS ⟨Nat.zero_le _, Nat.zero_le _⟩ hR.1 rfl (c_aim l E ad st 64 G9 hR i (by omega)) (cwV 1 hts gX4_ifBar_X2_aim rfl rfl rfl (by decide +kernel) ⟨Nat.le_of_ble_eq_true rfl, Nat.le_of_ble_eq_true rfl⟩) hl.1 rfl (Nat.le_of_ble_eq_true rfl) dX4_ifBar_46 (fun r_8 s_9 H locs hq hP hD hS => ?_)
        obtain ⟨hrr_8, rfl⟩ := hq
        refine lv_icmp_eq (tgt := 55) hx hb dX4_ifBar_49 (by decide) (fun c49_9 => ?_) (fun c49_9 => ?_)
        · have hPi : (ifbG G9 c (nI d) t) i = false := by rw [hrr_6, hrr_8] at c49_9; exact ifbG_f c49_9
          refine lv_iinc (v := nI (i + 1)) (lv' := [(5, .int (nI (i + 1))), (4, .int (nI (cnI (ifbG G9 c (nI d) t) i))), (0, .ref (ad 0)), (1, .int (nI c)), (2, .int (nI d)), (3, .int t)]) hx hb dX4_ifBar_55 hl (k := 1) rfl (nI_1 _) (by decide) rfl (fun ls hl => ?_)
          refine lv_goto (tgt := 21) hx hb dX4_ifBar_58 (by decide) ?_
          exact ih21 (i + 1) (by omega) (by omega) _ _ _  hP hD hS (by rw [cnI_f hPi]; exact lv_sub hl [1, 0, 2, 3, 4, 5] rfl)
        · have hPi : (ifbG G9 c (nI d) t) i = true := by rw [hrr_6, hrr_8] at c49_9; exact ifbG_t c49_9
          refine lv_iinc (v := nI ((cnI (ifbG G9 c (nI d) t) i) + 1)) (lv' := [(4, .int (nI ((cnI (ifbG G9 c (nI d) t) i) + 1))), (5, .int (nI i)), (0, .ref (ad 0)), (1, .int (nI c)), (2, .int (nI d)), (3, .int t)]) hx hb dX4_ifBar_52 hl (k := 0) rfl (nI_1 _) (by decide) rfl (fun ls hl => ?_)
          refine lv_iinc (v := nI (i + 1)) (lv' := [(5, .int (nI (i + 1))), (4, .int (nI ((cnI (ifbG G9 c (nI d) t) i) + 1))), (0, .ref (ad 0)), (1, .int (nI c)), (2, .int (nI d)), (3, .int t)]) hx hb dX4_ifBar_55 hl (k := 1) rfl (nI_1 _) (by decide) rfl (fun ls hl => ?_)
          refine lv_goto (tgt := 21) hx hb dX4_ifBar_58 (by decide) ?_
          exact ih21 (i + 1) (by omega) (by omega) _ _ _  hP hD hS (by rw [cnI_t hPi]; exact lv_sub hl [1, 0, 2, 3, 4, 5] rfl)
  exact LP_4 (36 + 1) 0 (Nat.zero_le _) (by omega) _ _ _  hP hD hS (lv_sub hl [1, 0, 2, 3, 4, 5] rfl)

set_option maxHeartbeats 4000000 in
set_option maxRecDepth 100000 in
theorem c_leastTurns (l : Launch) (E : NE) (ad : Nat → Nat) (st : NW) (N : Nat → Int32) (Rs : Nat → Nat → Int32) (a x : Nat) (C : Nat → Int32) (n : Nat) (ha : a ≤ 6) (hxx : x < 6) (hn : n ≤ 60) (hO : okH N) (hW : cW E ad st N Rs a x C n) (c : Nat) (hc : c < 36) : nMi l yX4_leastTurns wsX4_leastTurns (nRm 2 48) E ad st [.ref (ad 0), .int (nI c)] (fun r s1 => r = fnd1 (lstG (gN N) c) 51 0 ∧ st = s1) := by
  refine nSi (cc := cX4_leastTurns) (maxL := 3) (by decide) rfl (Nat.le_of_ble_eq_true rfl) ?_
  intro pg en s mi ar bw mth cd R Q A ls hx hb hml hown hts hRm hP hK hD hZ hA hl hret
  subst hRm
  have hown : s.vm.findClass RX4 = some mi.cls := hown
  have hS : va_S A s.heap s.heap [] := va_S.rf
  have hl : lv_has ls 3 [(0, .ref (ad 0)), (1, .int (nI c))] := hl
  obtain ⟨hN, hH, hQr, hT, ⟨R0, hB⟩, hR, ⟨Tr, hTr⟩, hRg⟩ := hW
  obtain ⟨G9, hGN⟩ : ∃ G9, G9 = gN N := ⟨_, rfl⟩
  rw [← hGN] at hR
  have hf : frX 0 208 st st := frX.rf
  have hinX2 : ∀ w ∈ wsX20, w ∈ wsX4_leastTurns := by decide +kernel
  have hinX4 : ∀ w ∈ wsX40, w ∈ wsX4_leastTurns := by decide +kernel
  refine lv_iload_n hx hb dX4_leastTurns_0 rfl (lv_at hl 1 rfl) ?_
  refine nS_v (As := [.int (nI c)]) (rest := _) hx hb hml hown hts hP hK hD hZ hA hS ⟨Nat.zero_le _, Nat.zero_le _⟩ (c_requireCell l E ad st c (by omega)) (va_cwS 1 hts gX4_leastTurns_X4_requireCell rfl rfl rfl (by decide +kernel) ⟨Nat.le_of_ble_eq_true rfl, Nat.le_of_ble_eq_true rfl⟩) hl.1 rfl (Nat.le_of_ble_eq_true rfl) dX4_leastTurns_1 (fun s_1 H locs hq hP hD hS => ?_)
  obtain rfl := hq
  refine lv_iconst (v := 0) hx hb dX4_leastTurns_4 (by decide) ?_
  refine lv_istore_n (lv' := [(2, .int 0), (0, .ref (ad 0)), (1, .int (nI c))]) hx hb dX4_leastTurns_5 rfl hl (by decide) rfl (fun ls hl => ?_)
  have LP_2 : ∀ (k9 i : Nat), i ≤ 51 → 51 - i < k9 → ∀ (H : Heap) (locs : List Loc) (ls : Array Slot), fnd1 (lstG G9 c) 51 0 = fnd1 (lstG G9 c) (51 - i) i → nP E ad st H → nD A ad st → va_S A s.heap H locs → lv_has ls 3 [(2, .int (nI i)), (0, .ref (ad 0)), (1, .int (nI c))] → W pg l en (nRm 2 48) s mi ar bw mth cd H locs 0 0 Q (F0 mi 6 ls []) := by
    intro k9
    induction k9 with
    | zero => intro i _ h9; exact absurd h9 (Nat.not_lt_zero _)
    | succ k9 ih6 =>
      intro i hi hk9 H locs ls hfn hP hD hS hl
      refine lv_iload_n hx hb dX4_leastTurns_6 rfl (lv_at hl 0 rfl) ?_
      refine lv_bipush (v := 50) hx hb dX4_leastTurns_7 (by decide) ?_
      refine lv_icmp_gt (tgt := 39) hx hb dX4_leastTurns_9 (by decide) (fun c9_2 => ?_) (fun c9_2 => ?_)
      · have h36 : 51 ≤ i := by have := (nI_ltR (n := 50) (i := i) rfl (by decide) (by omega)).mp c9_2; omega
        obtain rfl : i = 51 := by omega
        refine lv_iconst (v := -1) hx hb dX4_leastTurns_39 (by decide) ?_
        exact hret _ _ _ _ _ _ hP hD hS (⟨(by rw [← hGN]; exact (by show _ = fnd1 (lstG G9 c) 51 0; rw [hfn, show 51 - 51 = 0 from rfl]; exact fnd1_out.symm)), rfl⟩) dX4_leastTurns_40
      · have hlt : i < 51 := by have := mt (nI_ltR (n := 50) (i := i) rfl (by decide) (by omega)).mpr c9_2; omega
        refine lv_aload_n hx hb dX4_leastTurns_12 rfl (lv_at hl 1 rfl) ?_
        refine rg (v := .ref (ad 64)) (T := TX4) (N := 4) (C := RX4) hx hb hts hinX4 hown hK hP hN rfl 0 (by decide) (hts (.fieldLink RX4 12 "NeedleGrid" "now" "LNeedleGrid$Grid;") (by decide +kernel)) rfl dX4_leastTurns_13 ?_
        refine lv_iload_n hx hb dX4_leastTurns_16 rfl (lv_at hl 2 rfl) ?_
        refine lv_iload_n hx hb dX4_leastTurns_17 rfl (lv_at hl 0 rfl) ?_
        refine nVi (As := [.int (nI c), .int (nI i)]) (rest := _) hx hb hml hown hts hP hK hD hZ hA hS ⟨Nat.zero_le _, Nat.zero_le _⟩ hR.1 rfl (c_aimIfTurns l E ad st 64 G9 hR c (by omega) (nI i)) (cwV 2 hts gX4_leastTurns_X2_aimIfTurns rfl rfl rfl (by decide +kernel) ⟨Nat.le_of_ble_eq_true rfl, Nat.le_of_ble_eq_true rfl⟩) hl.1 rfl (Nat.le_of_ble_eq_true rfl) dX4_leastTurns_18 (fun r_4 s_5 H locs hq hP hD hS => ?_)
        obtain ⟨hrr_4, rfl⟩ := hq
        refine lv_aload_n hx hb dX4_leastTurns_21 rfl (lv_at hl 1 rfl) ?_
        refine rg (v := .ref (ad 64)) (T := TX4) (N := 4) (C := RX4) hx hb hts hinX4 hown hK hP hN rfl 0 (by decide) (hts (.fieldLink RX4 12 "NeedleGrid" "now" "LNeedleGrid$Grid;") (by decide +kernel)) rfl dX4_leastTurns_22 ?_
        refine rgN (v := .int (G9 7 0)) (T := TX2) (N := 13) (C := RX2) hx hb hts hinX2 hown hK hP hR rfl 7 (by decide) (nlF_96 hZ) rfl dX4_leastTurns_25 ?_
        refine lv_icmp_ne (tgt := 33) hx hb dX4_leastTurns_28 (by decide) (fun c28_5 => ?_) (fun c28_5 => ?_)
        · have hPi : (lstG G9 c) i = false := by rw [hrr_4] at c28_5; exact lstG_f c28_5
          refine lv_iinc (v := nI (i + 1)) (lv' := [(2, .int (nI (i + 1))), (0, .ref (ad 0)), (1, .int (nI c))]) hx hb dX4_leastTurns_33 hl (k := 0) rfl (nI_1 _) (by decide) rfl (fun ls hl => ?_)
          refine lv_goto (tgt := 6) hx hb dX4_leastTurns_36 (by decide) ?_
          exact ih6 (i + 1) (by omega) (by omega) _ _ _ (by rw [hfn, fnd1_no (by omega) hPi, show 51 - i - 1 = 51 - (i + 1) by omega]) hP hD hS (lv_sub hl [0, 1, 2] rfl)
        · have hPi : (lstG G9 c) i = true := by rw [hrr_4] at c28_5; exact lstG_t c28_5
          refine lv_iload_n hx hb dX4_leastTurns_31 rfl (lv_at hl 0 rfl) ?_
          exact hret _ _ _ _ _ _ hP hD hS (⟨(by rw [← hGN]; exact (by show _ = fnd1 (lstG G9 c) 51 0; rw [hfn, fnd1_yes (by omega) hPi])), rfl⟩) dX4_leastTurns_32
  exact LP_2 (51 + 1) 0 (Nat.zero_le _) (by omega) _ _ _ rfl hP hD hS (lv_sub hl [0, 1, 2] rfl)

theorem nI_m8 {i j : Nat} : nI i * 8 + nI j = nI (8 * i + j) := by
  rw [Nat.mul_comm 8 i, ← nI_add, ← pk_mul]
  rfl

set_option maxHeartbeats 4000000 in
set_option maxRecDepth 100000 in
theorem c_bestBar (l : Launch) (E : NE) (ad : Nat → Nat) (st : NW) (N : Nat → Int32) (Rs : Nat → Nat → Int32) (a x : Nat) (C : Nat → Int32) (n : Nat) (ha : a ≤ 6) (hxx : x < 6) (hn : n ≤ 60) (hO : okH N) (hW : cW E ad st N Rs a x C n) (c d : Nat) (t : Int32) (hc : c < 36) (hd : d < 8) (h1 : ¬ t < 1) (h2 : t ≤ 50) : nMi l yX4_bestBar wsX4_bestBar (nRm 3 80) E ad st [.ref (ad 0), .int (nI c), .int (nI d), .int t] (fun r s1 => r = fnd1 (bstG (gN N) c (nI d) t) 288 0 ∧ st = s1) := by
  refine nSi (cc := cX4_bestBar) (maxL := 6) (by decide) rfl (Nat.le_of_ble_eq_true rfl) ?_
  intro pg en s mi ar bw mth cd R Q A ls hx hb hml hown hts hRm hP hK hD hZ hA hl hret
  subst hRm
  have hown : s.vm.findClass RX4 = some mi.cls := hown
  have hS : va_S A s.heap s.heap [] := va_S.rf
  have hl : lv_has ls 6 [(0, .ref (ad 0)), (1, .int (nI c)), (2, .int (nI d)), (3, .int t)] := hl
  obtain ⟨hN, hH, hQr, hT, ⟨R0, hB⟩, hR, ⟨Tr, hTr⟩, hRg⟩ := hW
  obtain ⟨G9, hGN⟩ : ∃ G9, G9 = gN N := ⟨_, rfl⟩
  rw [← hGN] at hR
  have hf : frX 0 208 st st := frX.rf
  have hinX2 : ∀ w ∈ wsX20, w ∈ wsX4_bestBar := by decide +kernel
  have hinX4 : ∀ w ∈ wsX40, w ∈ wsX4_bestBar := by decide +kernel
  refine lv_iload_n hx hb dX4_bestBar_0 rfl (lv_at hl 1 rfl) ?_
  refine nS_v (As := [.int (nI c)]) (rest := _) hx hb hml hown hts hP hK hD hZ hA hS ⟨Nat.zero_le _, Nat.zero_le _⟩ (c_requireCell l E ad st c (by omega)) (va_cwS 1 hts gX4_bestBar_X4_requireCell rfl rfl rfl (by decide +kernel) ⟨Nat.le_of_ble_eq_true rfl, Nat.le_of_ble_eq_true rfl⟩) hl.1 rfl (Nat.le_of_ble_eq_true rfl) dX4_bestBar_1 (fun s_1 H locs hq hP hD hS => ?_)
  obtain rfl := hq
  refine lv_iload_n hx hb dX4_bestBar_4 rfl (lv_at hl 2 rfl) ?_
  refine nS_v (As := [.int (nI d)]) (rest := _) hx hb hml hown hts hP hK hD hZ hA hS ⟨Nat.zero_le _, Nat.zero_le _⟩ (c_requireDirection l E ad st d (by omega)) (va_cwS 1 hts gX4_bestBar_X4_requireDirection rfl rfl rfl (by decide +kernel) ⟨Nat.le_of_ble_eq_true rfl, Nat.le_of_ble_eq_true rfl⟩) hl.1 rfl (Nat.le_of_ble_eq_true rfl) dX4_bestBar_5 (fun s_2 H locs hq hP hD hS => ?_)
  obtain rfl := hq
  refine lv_iload_n hx hb dX4_bestBar_8 rfl (lv_at hl 3 rfl) ?_
  refine lv_iconst (v := 1) hx hb dX4_bestBar_9 (by decide) ?_
  refine lv_bipush (v := 50) hx hb dX4_bestBar_10 (by decide) ?_
  refine nS_v (As := [.int t, .int 1, .int 50]) (rest := _) hx hb hml hown hts hP hK hD hZ hA hS ⟨Nat.zero_le _, Nat.zero_le _⟩ (c_requireBetween l E ad st t 1 50 h1 h2) (va_cwS 3 hts gX4_bestBar_X4_requireBetween rfl rfl rfl (by decide +kernel) ⟨Nat.le_of_ble_eq_true rfl, Nat.le_of_ble_eq_true rfl⟩) hl.1 rfl (Nat.le_of_ble_eq_true rfl) dX4_bestBar_12 (fun s_3 H locs hq hP hD hS => ?_)
  obtain rfl := hq
  refine lv_iconst (v := 0) hx hb dX4_bestBar_15 (by decide) ?_
  refine lv_istore (lv' := [(4, .int 0), (0, .ref (ad 0)), (1, .int (nI c)), (2, .int (nI d)), (3, .int t)]) hx hb dX4_bestBar_16 hl (by decide) rfl (fun ls hl => ?_)
  have LP_4 : ∀ (k9 i : Nat), i ≤ 36 → 36 - i < k9 → ∀ (H : Heap) (locs : List Loc) (ls : Array Slot), fnd1 (bstG G9 c (nI d) t) 288 0 = fnd1 (bstG G9 c (nI d) t) (288 - 8 * i) (8 * i) → nP E ad st H → nD A ad st → va_S A s.heap H locs → lv_has ls 6 [(4, .int (nI i)), (0, .ref (ad 0)), (1, .int (nI c)), (2, .int (nI d)), (3, .int t)] → W pg l en (nRm 3 80) s mi ar bw mth cd H locs 0 0 Q (F0 mi 18 ls []) := by
    intro k9
    induction k9 with
    | zero => intro i _ h9; exact absurd h9 (Nat.not_lt_zero _)
    | succ k9 ih18 =>
      intro i hi hk9 H locs ls hfn hP hD hS hl
      refine lv_iload hx hb dX4_bestBar_18 (lv_at hl 0 rfl) ?_
      refine lv_bipush (v := 36) hx hb dX4_bestBar_20 (by decide) ?_
      refine lv_icmp_ge (tgt := 73) hx hb dX4_bestBar_22 (by decide) (fun c22_4 => ?_) (fun c22_4 => ?_)
      · have h36 : 36 ≤ i := (nI_geL (n := 36) rfl (by decide) (by omega)).mp c22_4
        obtain rfl : i = 36 := by omega
        refine lv_iconst (v := -1) hx hb dX4_bestBar_73 (by decide) ?_
        exact hret _ _ _ _ _ _ hP hD hS (⟨(by rw [← hGN]; exact (by show _ = fnd1 (bstG G9 c (nI d) t) 288 0; rw [hfn, show 288 - 8 * 36 = 0 from rfl]; exact fnd1_out.symm)), rfl⟩) dX4_bestBar_74
      · have hlo : i < 36 := by have := mt (nI_geL (n := 36) (i := i) rfl (by decide) (by omega)).mpr c22_4; omega
        refine lv_iconst (v := 0) hx hb dX4_bestBar_25 (by decide) ?_
        refine lv_istore (lv' := [(5, .int 0), (4, .int (nI i)), (0, .ref (ad 0)), (1, .int (nI c)), (2, .int (nI d)), (3, .int t)]) hx hb dX4_bestBar_26 hl (by decide) rfl (fun ls hl => ?_)
        have LP_6 : ∀ (k9 j : Nat), j ≤ 8 → 8 - j < k9 → ∀ (H : Heap) (locs : List Loc) (ls : Array Slot), fnd1 (bstG G9 c (nI d) t) 288 0 = fnd1 (bstG G9 c (nI d) t) (288 - (8 * i + j)) (8 * i + j) → nP E ad st H → nD A ad st → va_S A s.heap H locs → lv_has ls 6 [(5, .int (nI j)), (4, .int (nI i)), (0, .ref (ad 0)), (1, .int (nI c)), (2, .int (nI d)), (3, .int t)] → W pg l en (nRm 3 80) s mi ar bw mth cd H locs 0 0 Q (F0 mi 28 ls []) := by
          intro k9
          induction k9 with
          | zero => intro j _ h9; exact absurd h9 (Nat.not_lt_zero _)
          | succ k9 ih28 =>
            intro j hi hk9 H locs ls hfm hP hD hS hl
            refine lv_iload hx hb dX4_bestBar_28 (lv_at hl 0 rfl) ?_
            refine lv_bipush (v := 8) hx hb dX4_bestBar_30 (by decide) ?_
            refine lv_icmp_ge (tgt := 67) hx hb dX4_bestBar_32 (by decide) (fun c32_6 => ?_) (fun c32_6 => ?_)
            · have h36 : 8 ≤ j := (nI_geL (n := 8) rfl (by decide) (by omega)).mp c32_6
              obtain rfl : j = 8 := by omega
              refine lv_iinc (v := nI (i + 1)) (lv' := [(4, .int (nI (i + 1))), (5, .int (nI 8)), (0, .ref (ad 0)), (1, .int (nI c)), (2, .int (nI d)), (3, .int t)]) hx hb dX4_bestBar_67 hl (k := 1) rfl (nI_1 _) (by decide) rfl (fun ls hl => ?_)
              refine lv_goto (tgt := 18) hx hb dX4_bestBar_70 (by decide) ?_
              exact ih18 (i + 1) (by omega) (by omega) _ _ _ (by rw [Nat.mul_add, Nat.mul_one]; exact hfm) hP hD hS (lv_sub hl [0, 2, 3, 4, 5] rfl)
            · have hlt : j < 8 := by have := mt (nI_geL (n := 8) (i := j) rfl (by decide) (by omega)).mpr c32_6; omega
              refine lv_aload_n hx hb dX4_bestBar_35 rfl (lv_at hl 2 rfl) ?_
              refine rg (v := .ref (ad 64)) (T := TX4) (N := 4) (C := RX4) hx hb hts hinX4 hown hK hP hN rfl 0 (by decide) (hts (.fieldLink RX4 12 "NeedleGrid" "now" "LNeedleGrid$Grid;") (by decide +kernel)) rfl dX4_bestBar_36 ?_
              refine lv_iload_n hx hb dX4_bestBar_39 rfl (lv_at hl 3 rfl) ?_
              refine lv_iload hx hb dX4_bestBar_40 (lv_at hl 1 rfl) ?_
              refine lv_iload hx hb dX4_bestBar_42 (lv_at hl 0 rfl) ?_
              refine lv_iload_n hx hb dX4_bestBar_44 rfl (lv_at hl 5 rfl) ?_
              refine nVi (As := [.int (nI c), .int (nI i), .int (nI j), .int t]) (rest := _) hx hb hml hown hts hP hK hD hZ hA hS ⟨Nat.zero_le _, Nat.zero_le _⟩ hR.1 rfl (c_aimIfBar l E ad st 64 G9 hR c i (by omega) (by omega) (nI j) t) (cwV 4 hts gX4_bestBar_X2_aimIfBar rfl rfl rfl (by decide +kernel) ⟨Nat.le_of_ble_eq_true rfl, Nat.le_of_ble_eq_true rfl⟩) hl.1 rfl (Nat.le_of_ble_eq_true rfl) dX4_bestBar_45 (fun r_9 s_10 H locs hq hP hD hS => ?_)
              obtain ⟨hrr_9, rfl⟩ := hq
              refine lv_iload_n hx hb dX4_bestBar_48 rfl (lv_at hl 4 rfl) ?_
              refine lv_icmp_ne (tgt := 61) hx hb dX4_bestBar_49 (by decide) (fun c49_10 => ?_) (fun c49_10 => ?_)
              · have hPi : (bstG G9 c (nI d) t) (8 * i + j) = false := by rw [hrr_9] at c49_10; exact bstG_f hlt c49_10
                refine lv_iinc (v := nI (j + 1)) (lv' := [(5, .int (nI (j + 1))), (4, .int (nI i)), (0, .ref (ad 0)), (1, .int (nI c)), (2, .int (nI d)), (3, .int t)]) hx hb dX4_bestBar_61 hl (k := 0) rfl (nI_1 _) (by decide) rfl (fun ls hl => ?_)
                refine lv_goto (tgt := 28) hx hb dX4_bestBar_64 (by decide) ?_
                exact ih28 (j + 1) (by omega) (by omega) _ _ _ (by rw [hfm, fnd1_no (by omega) hPi, Nat.sub_sub, Nat.add_assoc]) hP hD hS (lv_sub hl [0, 1, 2, 3, 4, 5] rfl)
              · have hPi : (bstG G9 c (nI d) t) (8 * i + j) = true := by rw [hrr_9] at c49_10; exact bstG_t hlt c49_10
                refine lv_iload hx hb dX4_bestBar_52 (lv_at hl 1 rfl) ?_
                refine lv_bipush (v := 8) hx hb dX4_bestBar_54 (by decide) ?_
                refine lv_imul hx hb dX4_bestBar_56 ?_
                refine lv_iload hx hb dX4_bestBar_57 (lv_at hl 0 rfl) ?_
                refine lv_iadd hx hb dX4_bestBar_59 ?_
                exact hret _ _ _ _ _ _ hP hD hS (⟨(by rw [← hGN]; exact (by show _ = fnd1 (bstG G9 c (nI d) t) 288 0; rw [hfm, fnd1_yes (by omega) hPi]; exact nI_m8)), rfl⟩) dX4_bestBar_60
        exact LP_6 (8 + 1) 0 (Nat.zero_le _) (by omega) _ _ _ (by rw [Nat.add_zero]; exact hfn) hP hD hS (lv_sub hl [0, 1, 2, 3, 4, 5] rfl)
  exact LP_4 (36 + 1) 0 (Nat.zero_le _) (by omega) _ _ _ (by rw [Nat.mul_zero, Nat.sub_zero]) hP hD hS (lv_sub hl [0, 1, 2, 3, 4] rfl)

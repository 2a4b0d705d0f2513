theorem brC_P (N : Nat → Int32) : cnI (barP N) 36 = brC N := cnI_cong fun k hk => by unfold barP isB; rw [gN4 hk]
theorem nn_dir {N : Nat → Int32} (h : okP N) {c : Nat} (hc : c < 36) : ¬ N (6 + c) < 0 := by
  obtain ⟨d, hd⟩ := h.1.1.1 c hc
  rw [hd]
  exact (n8_lt d).1
theorem nn_n {x : Int32} {B : Nat} (h : ∃ q : Nat, q ≤ B ∧ x = nI q) (hB : B < 2 ^ 31) : ¬ x < 0 := by
  obtain ⟨q, hq, e⟩ := h
  rw [e]
  exact nI_pos (by omega)
theorem nn_01 {x : Int32} (h : x = 0 ∨ x = 1) : ¬ x < 0 := by rcases h with h | h <;> rw [h] <;> decide
theorem nn_cn {P : Nat → Bool} : ¬ nI (cnI P 36) < 0 := nI_pos (by have := cnI_le P 36; omega)
theorem t_rng {m : Nat} (h : m < 50) : ¬ nI (1 + m) < 1 ∧ nI (1 + m) ≤ 50 :=
  ⟨fun z => by have := (nI_ltI (a := 1 + m) (b := 1) (by omega) (by omega)).mp z; omega, nI_le (a := 1 + m) (b := 50) (by omega) (by omega)⟩
set_option maxHeartbeats 4000000 in
set_option maxRecDepth 100000 in
theorem l_act (l : Launch) (hlt : l.stackTraces = false) (E : NE) (ad : Nat → Nat) (st : NW) (N : Nat → Int32) (Rs : Nat → Nat → Int32) (a x : Nat) (ha : a ≤ 6) (hxx : x < 6) (hO : okP N) (hOs : ∀ i, i < 6 → okP (Rs i)) (hW : cW E ad st N Rs a x (fun _ => 0) 0) (hL : E.2.2 4 < 2 ^ 31) (k : Nat) (hk : k + 2 < 2 ^ 31) : nMx l yL_act wsL_act (nRx 10 171) E ad st [.ref (ad 0), .ref (E.2.2 3), .int (nI k)] (ActP E ad st N a (lwN (scI E k) 20) (1 + lwN (scI E (k + 1)) 5)) := by
  refine nSy (cc := cL_act) (maxL := 6) (by decide) rfl (Nat.le_of_ble_eq_true rfl) ?_
  intro pg en s mi ar bw mth cd R Q A ls hx hb hml hown hts hRm hP hK hD hZ hA hl hret
  subst hRm
  have hown : s.vm.findClass RL = some mi.cls := hown
  have hS : va_S A s.heap s.heap [] := va_S.rf
  have hl : lv_has ls 6 [(0, .ref (ad 0)), (1, .ref (E.2.2 3)), (2, .int (nI k))] := hl
  have hN := hW.1
  have hB6 := brC_6 hO
  refine lv_aload_n hx hb dL_act_0 rfl (lv_at hl 1 rfl) ?_
  refine lv_iload_n hx hb dL_act_1 rfl (lv_at hl 2 rfl) ?_
  refine lv_iconst (v := 1) hx hb dL_act_2 (by decide) ?_
  refine lv_iadd hx hb dL_act_3 ?_
  rw [nI_1]
  refine nS_i (As := [.ref (E.2.2 3), .int (nI (k + 1))]) (rest := _) hx hb hml hown hts hP hK hD hZ hA hS ⟨Nat.zero_le _, Nat.zero_le _⟩ (l_cell l E ad st hL (k + 1) (by omega)) (va_cwS 2 hts gL_act_L_cell rfl rfl rfl (by decide +kernel) ⟨Nat.le_of_ble_eq_true rfl, Nat.le_of_ble_eq_true rfl⟩) hl.1 rfl (Nat.le_of_ble_eq_true rfl) dL_act_4 (fun r_1 s_2 H locs hq hP hD hS => ?_)
  obtain ⟨hr9, rfl⟩ := hq
  rw [hr9]
  clear hr9
  refine lv_topi (fun x3_7 ex3_7 => ?_)
  refine lv_istore_n (lv' := [(3, .int x3_7), (0, .ref (ad 0)), (1, .ref (E.2.2 3)), (2, .int (nI k))]) hx hb dL_act_7 rfl hl (by decide) rfl (fun ls hl => ?_)
  refine lv_aload_n hx hb dL_act_8 rfl (lv_at hl 2 rfl) ?_
  refine lv_iload_n hx hb dL_act_9 rfl (lv_at hl 3 rfl) ?_
  refine lv_iconst (v := 2) hx hb dL_act_10 (by decide) ?_
  refine lv_iadd hx hb dL_act_11 ?_
  rw [show nI k + 2 = nI (k + 2) from nI_add k 2]
  refine nS_i (As := [.ref (E.2.2 3), .int (nI (k + 2))]) (rest := _) hx hb hml hown hts hP hK hD hZ hA hS ⟨Nat.zero_le _, Nat.zero_le _⟩ (l_cell l E ad st hL (k + 2) (by omega)) (va_cwS 2 hts gL_act_L_cell rfl rfl rfl (by decide +kernel) ⟨Nat.le_of_ble_eq_true rfl, Nat.le_of_ble_eq_true rfl⟩) hl.1 rfl (Nat.le_of_ble_eq_true rfl) dL_act_12 (fun r_3 s_4 H locs hq hP hD hS => ?_)
  obtain ⟨hr9, rfl⟩ := hq
  rw [hr9]
  clear hr9
  refine lv_topi (fun x4_15 ex4_15 => ?_)
  refine lv_istore (lv' := [(4, .int x4_15), (3, .int x3_7), (0, .ref (ad 0)), (1, .ref (E.2.2 3)), (2, .int (nI k))]) hx hb dL_act_15 hl (by decide) rfl (fun ls hl => ?_)
  refine lv_iload_n hx hb dL_act_17 rfl (lv_at hl 1 rfl) ?_
  refine lv_bipush (v := 36) hx hb dL_act_18 (by decide) ?_
  refine nS_i (As := [.int x3_7, .int 36]) (rest := _) hx hb hml hown hts hP hK hD hZ hA hS ⟨Nat.zero_le _, Nat.zero_le _⟩ (l_low l E ad st x3_7 36 (by omega) (by omega)) (va_cwS 2 hts gL_act_L_low rfl rfl rfl (by decide +kernel) ⟨Nat.le_of_ble_eq_true rfl, Nat.le_of_ble_eq_true rfl⟩) hl.1 rfl (Nat.le_of_ble_eq_true rfl) dL_act_20 (fun r_5 s_6 H locs hq hP hD hS => ?_)
  obtain ⟨hr9, rfl⟩ := hq
  obtain ⟨m_20, em_20⟩ : ∃ n9, n9 = lwN x3_7 36 := ⟨_, rfl⟩
  have hm_20 : m_20 < 36 := by rw [em_20]; exact lwN_lt (by omega)
  rw [hr9, ← em_20]
  clear hr9
  refine lv_istore (lv' := [(5, .int (nI m_20)), (4, .int x4_15), (3, .int x3_7), (0, .ref (ad 0)), (1, .ref (E.2.2 3)), (2, .int (nI k))]) hx hb dL_act_23 hl (by decide) rfl (fun ls hl => ?_)
  refine lv_aload_n hx hb dL_act_25 rfl (lv_at hl 4 rfl) ?_
  refine lv_iload_n hx hb dL_act_26 rfl (lv_at hl 5 rfl) ?_
  refine nS_i (As := [.ref (E.2.2 3), .int (nI k)]) (rest := _) hx hb hml hown hts hP hK hD hZ hA hS ⟨Nat.zero_le _, Nat.zero_le _⟩ (l_cell l E ad st hL k (by omega)) (va_cwS 2 hts gL_act_L_cell rfl rfl rfl (by decide +kernel) ⟨Nat.le_of_ble_eq_true rfl, Nat.le_of_ble_eq_true rfl⟩) hl.1 rfl (Nat.le_of_ble_eq_true rfl) dL_act_27 (fun r_7 s_8 H locs hq hP hD hS => ?_)
  obtain ⟨hr9, rfl⟩ := hq
  rw [hr9]
  clear hr9
  refine lv_bipush (v := 20) hx hb dL_act_30 (by decide) ?_
  refine nS_i (As := [.int (scI E k), .int 20]) (rest := _) hx hb hml hown hts hP hK hD hZ hA hS ⟨Nat.zero_le _, Nat.zero_le _⟩ (l_low l E ad st (scI E k) 20 (by omega) (by omega)) (va_cwS 2 hts gL_act_L_low rfl rfl rfl (by decide +kernel) ⟨Nat.le_of_ble_eq_true rfl, Nat.le_of_ble_eq_true rfl⟩) hl.1 rfl (Nat.le_of_ble_eq_true rfl) dL_act_32 (fun r_9 s_10 H locs hq hP hD hS => ?_)
  obtain ⟨hr9, rfl⟩ := hq
  obtain ⟨m_32, em_32⟩ : ∃ n9, n9 = lwN (scI E k) 20 := ⟨_, rfl⟩
  have hm_32 : m_32 < 20 := by rw [em_32]; exact lwN_lt (by omega)
  rw [hr9, ← em_32]
  clear hr9
  have em_32 : m_32 = lwN (scI E k) 20 := em_32
  rw [← em_32] at hret
  have K120 : ¬ (15 ≤ m_32 ∧ m_32 ≤ 17) → W pg l en (nRx 10 171) s mi ar bw mth cd H locs 0 0 Q (F0 mi 120 ls []) := by
    intro hs
    refine lv_aload_n hx hb dL_act_120 rfl (lv_at hl 3 rfl) ?_
    refine lv_iload hx hb dL_act_121 (lv_at hl 0 rfl) ?_
    refine lv_iload hx hb dL_act_123 (lv_at hl 1 rfl) ?_
    refine lv_bipush (v := 8) hx hb dL_act_125 (by decide) ?_
    refine nS_i (As := [.int x4_15, .int 8]) (rest := _) hx hb hml hown hts hP hK hD hZ hA hS ⟨Nat.zero_le _, Nat.zero_le _⟩ (l_low l E ad st x4_15 8 (by omega) (by omega)) (va_cwS 2 hts gL_act_L_low rfl rfl rfl (by decide +kernel) ⟨Nat.le_of_ble_eq_true rfl, Nat.le_of_ble_eq_true rfl⟩) hl.1 rfl (Nat.le_of_ble_eq_true rfl) dL_act_127 (fun r_11 s_12 H locs hq hP hD hS => ?_)
    obtain ⟨hr9, rfl⟩ := hq
    obtain ⟨m_127, em_127⟩ : ∃ n9, n9 = lwN x4_15 8 := ⟨_, rfl⟩
    have hm_127 : m_127 < 8 := by rw [em_127]; exact lwN_lt (by omega)
    rw [hr9, ← em_127]
    clear hr9
    refine nVi (As := [.int (nI m_20), .int (nI m_127)]) (rest := _) hx hb hml hown hts hP hK hD hZ hA hS ⟨Nat.zero_le _, Nat.zero_le _⟩ hW.1.1 rfl (c_needle l E ad st N Rs a x (fun _ => 0) 0 ha hxx (Nat.zero_le _) hO.1.2.1 hW m_20 m_127 hm_20 hm_127) (cwV 2 hts gL_act_X4_needle rfl rfl rfl (by decide +kernel) ⟨Nat.le_of_ble_eq_true rfl, Nat.le_of_ble_eq_true rfl⟩) hl.1 rfl (Nat.le_of_ble_eq_true rfl) dL_act_130 (fun r9 s9 H locs hq hP hD hS => ?_)
    obtain ⟨hr9, hW9, -⟩ := hq
    exact hret _ _ _ _ _ _ _ _ (Nat.zero_le _) (Nat.zero_le _) hP hD hS ⟨_, _, _, _, svA_le ha, svX_lt, hO.needle hm_20 hm_127, svR_P hOs hO, hW9, fun z => absurd z (by rw [hr9]; exact nn_dir hO hm_20), fun z1 z2 => absurd ⟨z1, z2⟩ hs⟩ dL_act_133
  have K134 : ¬ (15 ≤ m_32 ∧ m_32 ≤ 17) → W pg l en (nRx 10 171) s mi ar bw mth cd H locs 0 0 Q (F0 mi 134 ls []) := by
    intro hs
    refine lv_aload_n hx hb dL_act_134 rfl (lv_at hl 3 rfl) ?_
    refine lv_iload hx hb dL_act_135 (lv_at hl 0 rfl) ?_
    refine lv_iload hx hb dL_act_137 (lv_at hl 1 rfl) ?_
    refine lv_sipush (v := 200) hx hb dL_act_139 (by decide) ?_
    refine nS_i (As := [.int x4_15, .int 200]) (rest := _) hx hb hml hown hts hP hK hD hZ hA hS ⟨Nat.zero_le _, Nat.zero_le _⟩ (l_low l E ad st x4_15 200 (by omega) (by omega)) (va_cwS 2 hts gL_act_L_low rfl rfl rfl (by decide +kernel) ⟨Nat.le_of_ble_eq_true rfl, Nat.le_of_ble_eq_true rfl⟩) hl.1 rfl (Nat.le_of_ble_eq_true rfl) dL_act_142 (fun r_13 s_14 H locs hq hP hD hS => ?_)
    obtain ⟨hr9, rfl⟩ := hq
    obtain ⟨m_142, em_142⟩ : ∃ n9, n9 = lwN x4_15 200 := ⟨_, rfl⟩
    have hm_142 : m_142 < 200 := by rw [em_142]; exact lwN_lt (by omega)
    rw [hr9, ← em_142]
    clear hr9
    refine nVi (As := [.int (nI m_20), .int (nI m_142)]) (rest := _) hx hb hml hown hts hP hK hD hZ hA hS ⟨Nat.zero_le _, Nat.zero_le _⟩ hW.1.1 rfl (c_friction l E ad st N Rs a x (fun _ => 0) 0 ha hxx (Nat.zero_le _) hO.1.2.1 hW m_20 (nI m_142) hm_20 (nI_pos (by omega)) (show nI m_142 ≤ nI 999 from nI_le (by omega) (by omega))) (cwV 2 hts gL_act_X4_friction rfl rfl rfl (by decide +kernel) ⟨Nat.le_of_ble_eq_true rfl, Nat.le_of_ble_eq_true rfl⟩) hl.1 rfl (Nat.le_of_ble_eq_true rfl) dL_act_145 (fun r9 s9 H locs hq hP hD hS => ?_)
    obtain ⟨hr9, hW9, -⟩ := hq
    exact hret _ _ _ _ _ _ _ _ (Nat.zero_le _) (Nat.zero_le _) hP hD hS ⟨_, _, _, _, svA_le ha, svX_lt, hO.friction hm_20 (by omega), svR_P hOs hO, hW9, fun z => absurd z (by rw [hr9]; exact nn_n (hO.2.2.2.2.2 _ hm_20) (by omega)), fun z1 z2 => absurd ⟨z1, z2⟩ hs⟩ dL_act_148
  have K149 : ¬ (15 ≤ m_32 ∧ m_32 ≤ 17) → W pg l en (nRx 10 171) s mi ar bw mth cd H locs 0 0 Q (F0 mi 149 ls []) := by
    intro hs
    refine lv_aload_n hx hb dL_act_149 rfl (lv_at hl 3 rfl) ?_
    refine lv_iload hx hb dL_act_150 (lv_at hl 0 rfl) ?_
    refine lv_iload hx hb dL_act_152 (lv_at hl 1 rfl) ?_
    refine lv_iconst (v := 2) hx hb dL_act_154 (by decide) ?_
    refine nS_i (As := [.int x4_15, .int 2]) (rest := _) hx hb hml hown hts hP hK hD hZ hA hS ⟨Nat.zero_le _, Nat.zero_le _⟩ (l_low l E ad st x4_15 2 (by omega) (by omega)) (va_cwS 2 hts gL_act_L_low rfl rfl rfl (by decide +kernel) ⟨Nat.le_of_ble_eq_true rfl, Nat.le_of_ble_eq_true rfl⟩) hl.1 rfl (Nat.le_of_ble_eq_true rfl) dL_act_155 (fun r_15 s_16 H locs hq hP hD hS => ?_)
    obtain ⟨hr9, rfl⟩ := hq
    obtain ⟨m_155, em_155⟩ : ∃ n9, n9 = lwN x4_15 2 := ⟨_, rfl⟩
    have hm_155 : m_155 < 2 := by rw [em_155]; exact lwN_lt (by omega)
    rw [hr9, ← em_155]
    clear hr9
    refine lv_if_ne (tgt := 165) hx hb dL_act_158 (by decide) (fun c158_16 => ?_) (fun c158_16 => ?_)
    · refine lv_iconst (v := 0) hx hb dL_act_165 (by decide) ?_
      refine nVi (As := [.int (nI m_20), .int 0]) (rest := _) hx hb hml hown hts hP hK hD hZ hA hS ⟨Nat.zero_le _, Nat.zero_le _⟩ hW.1.1 rfl (c_hold l E ad st N Rs a x (fun _ => 0) 0 ha hxx (Nat.zero_le _) hO.1.2.1 hW m_20 0 hm_20 (Or.inl rfl)) (cwV 2 hts gL_act_X4_hold rfl rfl rfl (by decide +kernel) ⟨Nat.le_of_ble_eq_true rfl, Nat.le_of_ble_eq_true rfl⟩) hl.1 rfl (Nat.le_of_ble_eq_true rfl) dL_act_166 (fun r9 s9 H locs hq hP hD hS => ?_)
      obtain ⟨hr9, hW9, -⟩ := hq
      exact hret _ _ _ _ _ _ _ _ (Nat.zero_le _) (Nat.zero_le _) hP hD hS ⟨_, _, _, _, svA_le ha, svX_lt, hO.hold hm_20 (Or.inl rfl), svR_P hOs hO, hW9, fun z => absurd z (by rw [hr9]; exact nn_01 (hO.1.2.1 _ hm_20)), fun z1 z2 => absurd ⟨z1, z2⟩ hs⟩ dL_act_169
    · refine lv_iconst (v := 1) hx hb dL_act_161 (by decide) ?_
      refine lv_goto (tgt := 166) hx hb dL_act_162 (by decide) ?_
      refine nVi (As := [.int (nI m_20), .int 1]) (rest := _) hx hb hml hown hts hP hK hD hZ hA hS ⟨Nat.zero_le _, Nat.zero_le _⟩ hW.1.1 rfl (c_hold l E ad st N Rs a x (fun _ => 0) 0 ha hxx (Nat.zero_le _) hO.1.2.1 hW m_20 1 hm_20 (Or.inr rfl)) (cwV 2 hts gL_act_X4_hold rfl rfl rfl (by decide +kernel) ⟨Nat.le_of_ble_eq_true rfl, Nat.le_of_ble_eq_true rfl⟩) hl.1 rfl (Nat.le_of_ble_eq_true rfl) dL_act_166 (fun r9 s9 H locs hq hP hD hS => ?_)
      obtain ⟨hr9, hW9, -⟩ := hq
      exact hret _ _ _ _ _ _ _ _ (Nat.zero_le _) (Nat.zero_le _) hP hD hS ⟨_, _, _, _, svA_le ha, svX_lt, hO.hold hm_20 (Or.inr rfl), svR_P hOs hO, hW9, fun z => absurd z (by rw [hr9]; exact nn_01 (hO.1.2.1 _ hm_20)), fun z1 z2 => absurd ⟨z1, z2⟩ hs⟩ dL_act_169
  have K170 : ¬ (15 ≤ m_32 ∧ m_32 ≤ 17) → W pg l en (nRx 10 171) s mi ar bw mth cd H locs 0 0 Q (F0 mi 170 ls []) := by
    intro hs
    refine lv_aload_n hx hb dL_act_170 rfl (lv_at hl 3 rfl) ?_
    refine lv_iload hx hb dL_act_171 (lv_at hl 0 rfl) ?_
    refine lv_iload hx hb dL_act_173 (lv_at hl 1 rfl) ?_
    refine lv_bipush (v := 36) hx hb dL_act_175 (by decide) ?_
    refine nS_i (As := [.int x4_15, .int 36]) (rest := _) hx hb hml hown hts hP hK hD hZ hA hS ⟨Nat.zero_le _, Nat.zero_le _⟩ (l_low l E ad st x4_15 36 (by omega) (by omega)) (va_cwS 2 hts gL_act_L_low rfl rfl rfl (by decide +kernel) ⟨Nat.le_of_ble_eq_true rfl, Nat.le_of_ble_eq_true rfl⟩) hl.1 rfl (Nat.le_of_ble_eq_true rfl) dL_act_177 (fun r_18 s_19 H locs hq hP hD hS => ?_)
    obtain ⟨hr9, rfl⟩ := hq
    obtain ⟨m_177, em_177⟩ : ∃ n9, n9 = lwN x4_15 36 := ⟨_, rfl⟩
    have hm_177 : m_177 < 36 := by rw [em_177]; exact lwN_lt (by omega)
    rw [hr9, ← em_177]
    clear hr9
    refine nVi (As := [.int (nI m_20), .int (nI m_177)]) (rest := _) hx hb hml hown hts hP hK hD hZ hA hS ⟨Nat.zero_le _, Nat.zero_le _⟩ hW.1.1 rfl (c_swap l E ad st N Rs a x (fun _ => 0) 0 ha hxx (Nat.zero_le _) hO.1.2.1 hW m_20 m_177 hm_20 hm_177) (cwV 2 hts gL_act_X4_swap rfl rfl rfl (by decide +kernel) ⟨Nat.le_of_ble_eq_true rfl, Nat.le_of_ble_eq_true rfl⟩) hl.1 rfl (Nat.le_of_ble_eq_true rfl) dL_act_180 (fun r9 s9 H locs hq hP hD hS => ?_)
    obtain ⟨hr9, hW9, -⟩ := hq
    exact hret _ _ _ _ _ _ _ _ (Nat.zero_le _) (Nat.zero_le _) hP hD hS ⟨_, _, _, _, svA_le ha, svX_lt, hO.swap hm_20 hm_177, svR_P hOs hO, hW9, fun z => absurd z (by rw [hr9]; exact nn_dir (hO.swap hm_20 hm_177) hm_20), fun z1 z2 => absurd ⟨z1, z2⟩ hs⟩ dL_act_183
  have K184 : ¬ (15 ≤ m_32 ∧ m_32 ≤ 17) → W pg l en (nRx 10 171) s mi ar bw mth cd H locs 0 0 Q (F0 mi 184 ls []) := by
    intro hs
    refine lv_aload_n hx hb dL_act_184 rfl (lv_at hl 3 rfl) ?_
    refine lv_iload hx hb dL_act_185 (lv_at hl 0 rfl) ?_
    refine lv_iload hx hb dL_act_187 (lv_at hl 1 rfl) ?_
    refine lv_bipush (v := 8) hx hb dL_act_189 (by decide) ?_
    refine nS_i (As := [.int x4_15, .int 8]) (rest := _) hx hb hml hown hts hP hK hD hZ hA hS ⟨Nat.zero_le _, Nat.zero_le _⟩ (l_low l E ad st x4_15 8 (by omega) (by omega)) (va_cwS 2 hts gL_act_L_low rfl rfl rfl (by decide +kernel) ⟨Nat.le_of_ble_eq_true rfl, Nat.le_of_ble_eq_true rfl⟩) hl.1 rfl (Nat.le_of_ble_eq_true rfl) dL_act_191 (fun r_20 s_21 H locs hq hP hD hS => ?_)
    obtain ⟨hr9, rfl⟩ := hq
    obtain ⟨m_191, em_191⟩ : ∃ n9, n9 = lwN x4_15 8 := ⟨_, rfl⟩
    have hm_191 : m_191 < 8 := by rw [em_191]; exact lwN_lt (by omega)
    rw [hr9, ← em_191]
    clear hr9
    refine lv_iconst (v := 1) hx hb dL_act_194 (by decide) ?_
    refine lv_iload hx hb dL_act_195 (lv_at hl 1 rfl) ?_
    refine lv_iconst (v := 3) hx hb dL_act_197 (by decide) ?_
    refine lv_ishr hx hb dL_act_198 ?_
    refine lv_bipush (v := 50) hx hb dL_act_199 (by decide) ?_
    refine nS_i (As := [.int (x4_15 >>> (3 &&& 31)), .int 50]) (rest := _) hx hb hml hown hts hP hK hD hZ hA hS ⟨Nat.zero_le _, Nat.zero_le _⟩ (l_low l E ad st (x4_15 >>> (3 &&& 31)) 50 (by omega) (by omega)) (va_cwS 2 hts gL_act_L_low rfl rfl rfl (by decide +kernel) ⟨Nat.le_of_ble_eq_true rfl, Nat.le_of_ble_eq_true rfl⟩) hl.1 rfl (Nat.le_of_ble_eq_true rfl) dL_act_201 (fun r_22 s_23 H locs hq hP hD hS => ?_)
    obtain ⟨hr9, rfl⟩ := hq
    obtain ⟨m_201, em_201⟩ : ∃ n9, n9 = lwN (x4_15 >>> (3 &&& 31)) 50 := ⟨_, rfl⟩
    have hm_201 : m_201 < 50 := by rw [em_201]; exact lwN_lt (by omega)
    rw [hr9, ← em_201]
    clear hr9
    refine lv_iadd hx hb dL_act_204 ?_
    rw [show 1 + nI m_201 = nI (1 + m_201) from nI_add 1 m_201]
    obtain ⟨h91, h92⟩ := t_rng hm_201
    by_cases hf : gN N 4 m_20 ≤ 0 ∧ 6 ≤ cnI (fun k => isB (gN N 4) k) 36
    · refine nXS (As := [.ref (ad 0), .int (nI m_20), .int (nI m_191), .int (nI (1 + m_201))]) (rest := _) hx hb hml hown hts hP hK hD hZ hA hS ⟨Nat.le_of_ble_eq_true rfl, Nat.le_of_ble_eq_true rfl⟩ (l_bar_x l E ad st _ _ _ ⟨_, hW.1.1⟩ _ (x_bar_n l hlt E ad st N Rs a x (fun _ => 0) 0 ha hxx (Nat.zero_le _) hO.1.2.1 hW m_20 hm_20 m_191 (nI (1 + m_201)) hm_191 h91 h92 hf.1 hf.2)) (vx_cwSW 4 hts gL_act_L_bar rfl rfl rfl (by decide +kernel) ⟨Nat.le_of_ble_eq_true rfl, Nat.le_of_ble_eq_true rfl⟩) hl.1 rfl (Nat.le_of_ble_eq_true rfl) dL_act_205 (fun r9 s9 H locs hq hP hD hS => ?_)
      obtain ⟨hr9, rfl⟩ := hq
      exact hret _ _ _ _ _ _ _ _ (Nat.le_refl _) (Nat.le_refl _) hP hD hS ⟨N, Rs, a, x, ha, hxx, hO, hOs, hW, fun _ => ⟨rfl, rfl⟩, fun z1 z2 => absurd ⟨z1, z2⟩ hs⟩ dL_act_208
    · refine nXS (As := [.ref (ad 0), .int (nI m_20), .int (nI m_191), .int (nI (1 + m_201))]) (rest := _) hx hb hml hown hts hP hK hD hZ hA hS ⟨Nat.le_of_ble_eq_true rfl, Nat.le_of_ble_eq_true rfl⟩ (l_bar l E ad st _ _ _ ⟨_, hW.1.1⟩ _ (c_bar l E ad st N Rs a x (fun _ => 0) 0 ha hxx (Nat.zero_le _) hO.1.2.1 hW m_20 m_191 (nI (1 + m_201)) hm_20 hm_191 h91 h92 (fun z => Nat.not_le.mp fun z2 => hf ⟨z, z2⟩))) (vx_cwSW 4 hts gL_act_L_bar rfl rfl rfl (by decide +kernel) ⟨Nat.le_of_ble_eq_true rfl, Nat.le_of_ble_eq_true rfl⟩) hl.1 rfl (Nat.le_of_ble_eq_true rfl) dL_act_205 (fun r9 s9 H locs hq hP hD hS => ?_)
      obtain ⟨hr9, hW9, -⟩ := hq
      exact hret _ _ _ _ _ _ _ _ (Nat.le_refl _) (Nat.le_refl _) hP hD hS ⟨_, _, _, _, svA_le ha, svX_lt, hO.bar hm_20 hm_191 h91 h92 (fun z => by rw [brC_P]; exact Nat.not_le.mp fun z2 => hf ⟨by rw [gN4 hm_20]; exact z, z2⟩), svR_P hOs hO, hW9, fun z => absurd z (by rw [hr9]; exact nn_cn), fun z1 z2 => absurd ⟨z1, z2⟩ hs⟩ dL_act_208
  have K209 : ¬ (15 ≤ m_32 ∧ m_32 ≤ 17) → W pg l en (nRx 10 171) s mi ar bw mth cd H locs 0 0 Q (F0 mi 209 ls []) := by
    intro hs
    refine lv_aload_n hx hb dL_act_209 rfl (lv_at hl 3 rfl) ?_
    have J247 : ∀ (j : Nat) (H : Heap) (locs : List Loc), j < 36 → nP E ad st H → nD A ad st → va_S A s.heap H locs → W pg l en (nRx 10 171) s mi ar bw mth cd H locs 0 0 Q (F0 mi 247 ls [.int (nI j), .ref (ad 0)]) := by
      intro j H locs hj hP hD hS
      by_cases hf : gN N 4 j ≤ 0
      · refine nXS (As := [.ref (ad 0), .int (nI j)]) (rest := _) hx hb hml hown hts hP hK hD hZ hA hS ⟨Nat.le_of_ble_eq_true rfl, Nat.le_of_ble_eq_true rfl⟩ (l_unbar_x l E ad st _ ⟨_, hW.1.1⟩ _ (x_unbar_n l hlt E ad st N Rs a x (fun _ => 0) 0 ha hxx (Nat.zero_le _) hO.1.2.1 hW j hj hf)) (vx_cwSW 2 hts gL_act_L_unbar rfl rfl rfl (by decide +kernel) ⟨Nat.le_of_ble_eq_true rfl, Nat.le_of_ble_eq_true rfl⟩) hl.1 rfl (Nat.le_of_ble_eq_true rfl) dL_act_247 (fun r9 s9 H locs hq hP hD hS => ?_)
        obtain ⟨hr9, rfl⟩ := hq
        exact hret _ _ _ _ _ _ _ _ (Nat.le_refl _) (Nat.le_refl _) hP hD hS ⟨N, Rs, a, x, ha, hxx, hO, hOs, hW, fun _ => ⟨rfl, rfl⟩, fun z1 z2 => absurd ⟨z1, z2⟩ hs⟩ dL_act_250
      · refine nXS (As := [.ref (ad 0), .int (nI j)]) (rest := _) hx hb hml hown hts hP hK hD hZ hA hS ⟨Nat.le_of_ble_eq_true rfl, Nat.le_of_ble_eq_true rfl⟩ (l_unbar l E ad st _ ⟨_, hW.1.1⟩ _ (c_unbar l E ad st N Rs a x (fun _ => 0) 0 ha hxx (Nat.zero_le _) hO.1.2.1 hW j hj hf)) (vx_cwSW 2 hts gL_act_L_unbar rfl rfl rfl (by decide +kernel) ⟨Nat.le_of_ble_eq_true rfl, Nat.le_of_ble_eq_true rfl⟩) hl.1 rfl (Nat.le_of_ble_eq_true rfl) dL_act_247 (fun r9 s9 H locs hq hP hD hS => ?_)
        obtain ⟨hr9, hW9, -⟩ := hq
        exact hret _ _ _ _ _ _ _ _ (Nat.le_refl _) (Nat.le_refl _) hP hD hS ⟨_, _, _, _, svA_le ha, svX_lt, hO.unbar hj, svR_P hOs hO, hW9, fun z => absurd z (by rw [hr9]; exact nn_cn), fun z1 z2 => absurd ⟨z1, z2⟩ hs⟩ dL_act_250
    refine lv_aload_n hx hb dL_act_210 rfl (lv_at hl 3 rfl) ?_
    refine lv_iconst (v := 1) hx hb dL_act_211 (by decide) ?_
    refine nVi (As := [.int 1]) (rest := _) hx hb hml hown hts hP hK hD hZ hA hS ⟨Nat.zero_le _, Nat.zero_le _⟩ hN.1 rfl (c_count l E ad st N Rs a x (fun _ => 0) 0 ha hxx (Nat.zero_le _) hO.1.2.1 hW 1 (by omega)) (cwV 1 hts gL_act_X4_count rfl rfl rfl (by decide +kernel) ⟨Nat.le_of_ble_eq_true rfl, Nat.le_of_ble_eq_true rfl⟩) hl.1 rfl (Nat.le_of_ble_eq_true rfl) dL_act_212 (fun r_24 s_25 H locs hq hP hD hS => ?_)
    obtain ⟨hr9, rfl⟩ := hq
    rw [hr9]
    clear hr9
    refine lv_if_le (tgt := 245) hx hb dL_act_215 (by decide) (fun c215_25 => ?_) (fun c215_25 => ?_)
    · refine lv_iload hx hb dL_act_245 (lv_at hl 0 rfl) ?_
      exact J247 m_20 _ _ hm_20 hP hD hS
    · have hb0 : 0 < brC N := Nat.pos_of_ne_zero fun z => c215_25 (show nI (brC N) ≤ 0 from by rw [z]; decide)
      refine lv_iload hx hb dL_act_218 (lv_at hl 1 rfl) ?_
      refine lv_iconst (v := 3) hx hb dL_act_220 (by decide) ?_
      refine nS_i (As := [.int x4_15, .int 3]) (rest := _) hx hb hml hown hts hP hK hD hZ hA hS ⟨Nat.zero_le _, Nat.zero_le _⟩ (l_low l E ad st x4_15 3 (by omega) (by omega)) (va_cwS 2 hts gL_act_L_low rfl rfl rfl (by decide +kernel) ⟨Nat.le_of_ble_eq_true rfl, Nat.le_of_ble_eq_true rfl⟩) hl.1 rfl (Nat.le_of_ble_eq_true rfl) dL_act_221 (fun r_27 s_28 H locs hq hP hD hS => ?_)
      obtain ⟨hr9, rfl⟩ := hq
      obtain ⟨m_221, em_221⟩ : ∃ n9, n9 = lwN x4_15 3 := ⟨_, rfl⟩
      have hm_221 : m_221 < 3 := by rw [em_221]; exact lwN_lt (by omega)
      rw [hr9, ← em_221]
      clear hr9
      refine lv_if_le (tgt := 245) hx hb dL_act_224 (by decide) (fun c224_28 => ?_) (fun c224_28 => ?_)
      · refine lv_iload hx hb dL_act_245 (lv_at hl 0 rfl) ?_
        exact J247 m_20 _ _ hm_20 hP hD hS
      · refine lv_aload_n hx hb dL_act_227 rfl (lv_at hl 3 rfl) ?_
        refine lv_iload hx hb dL_act_228 (lv_at hl 1 rfl) ?_
        refine lv_aload_n hx hb dL_act_230 rfl (lv_at hl 3 rfl) ?_
        refine lv_iconst (v := 1) hx hb dL_act_231 (by decide) ?_
        refine nVi (As := [.int 1]) (rest := _) hx hb hml hown hts hP hK hD hZ hA hS ⟨Nat.zero_le _, Nat.zero_le _⟩ hN.1 rfl (c_count l E ad st N Rs a x (fun _ => 0) 0 ha hxx (Nat.zero_le _) hO.1.2.1 hW 1 (by omega)) (cwV 1 hts gL_act_X4_count rfl rfl rfl (by decide +kernel) ⟨Nat.le_of_ble_eq_true rfl, Nat.le_of_ble_eq_true rfl⟩) hl.1 rfl (Nat.le_of_ble_eq_true rfl) dL_act_232 (fun r_30 s_31 H locs hq hP hD hS => ?_)
        obtain ⟨hr9, rfl⟩ := hq
        rw [hr9]
        clear hr9
        refine nS_i (As := [.int x4_15, .int (nI (brC N))]) (rest := _) hx hb hml hown hts hP hK hD hZ hA hS ⟨Nat.zero_le _, Nat.zero_le _⟩ (l_low l E ad st x4_15 (brC N) (by omega) (by omega)) (va_cwS 2 hts gL_act_L_low rfl rfl rfl (by decide +kernel) ⟨Nat.le_of_ble_eq_true rfl, Nat.le_of_ble_eq_true rfl⟩) hl.1 rfl (Nat.le_of_ble_eq_true rfl) dL_act_235 (fun r_32 s_33 H locs hq hP hD hS => ?_)
        obtain ⟨hr9, rfl⟩ := hq
        obtain ⟨m_235, em_235⟩ : ∃ n9, n9 = lwN x4_15 (brC N) := ⟨_, rfl⟩
        have hm_235 : m_235 < (brC N) := by rw [em_235]; exact lwN_lt (by omega)
        rw [hr9, ← em_235]
        clear hr9
        refine lv_iconst (v := 0) hx hb dL_act_238 (by decide) ?_
        refine nVi (As := [.int (nI m_235), .int 0]) (rest := _) hx hb hml hown hts hP hK hD hZ hA hS ⟨Nat.zero_le _, Nat.zero_le _⟩ hN.1 rfl (c_barOf l E ad st N Rs a x (fun _ => 0) 0 ha hxx (Nat.zero_le _) hO.1.2.1 hW (nI m_235) 0 (nI_pos (by omega)) (by omega)) (cwV 2 hts gL_act_X4_barOf rfl rfl rfl (by decide +kernel) ⟨Nat.le_of_ble_eq_true rfl, Nat.le_of_ble_eq_true rfl⟩) hl.1 rfl (Nat.le_of_ble_eq_true rfl) dL_act_239 (fun r_34 s_35 H locs hq hP hD hS => ?_)
        obtain ⟨hr9, rfl⟩ := hq
        rw [hr9]
        clear hr9
        refine lv_goto (tgt := 247) hx hb dL_act_242 (by decide) ?_
        obtain ⟨j9, hj9, ej9, -, -, -⟩ := bar_at (N := N) hm_235
        rw [ej9]
        exact J247 j9 _ _ hj9 hP hD hS
  have K251 : ¬ (15 ≤ m_32 ∧ m_32 ≤ 17) → W pg l en (nRx 10 171) s mi ar bw mth cd H locs 0 0 Q (F0 mi 251 ls []) := by
    intro hs
    refine lv_aload_n hx hb dL_act_251 rfl (lv_at hl 3 rfl) ?_
    refine lv_iload hx hb dL_act_252 (lv_at hl 1 rfl) ?_
    refine lv_bipush (v := 51) hx hb dL_act_254 (by decide) ?_
    refine nS_i (As := [.int x4_15, .int 51]) (rest := _) hx hb hml hown hts hP hK hD hZ hA hS ⟨Nat.zero_le _, Nat.zero_le _⟩ (l_low l E ad st x4_15 51 (by omega) (by omega)) (va_cwS 2 hts gL_act_L_low rfl rfl rfl (by decide +kernel) ⟨Nat.le_of_ble_eq_true rfl, Nat.le_of_ble_eq_true rfl⟩) hl.1 rfl (Nat.le_of_ble_eq_true rfl) dL_act_256 (fun r_36 s_37 H locs hq hP hD hS => ?_)
    obtain ⟨hr9, rfl⟩ := hq
    obtain ⟨m_256, em_256⟩ : ∃ n9, n9 = lwN x4_15 51 := ⟨_, rfl⟩
    have hm_256 : m_256 < 51 := by rw [em_256]; exact lwN_lt (by omega)
    rw [hr9, ← em_256]
    clear hr9
    refine lv_iload_n hx hb dL_act_259 rfl (lv_at hl 2 rfl) ?_
    refine lv_bipush (v := 8) hx hb dL_act_260 (by decide) ?_
    refine nS_i (As := [.int x3_7, .int 8]) (rest := _) hx hb hml hown hts hP hK hD hZ hA hS ⟨Nat.zero_le _, Nat.zero_le _⟩ (l_low l E ad st x3_7 8 (by omega) (by omega)) (va_cwS 2 hts gL_act_L_low rfl rfl rfl (by decide +kernel) ⟨Nat.le_of_ble_eq_true rfl, Nat.le_of_ble_eq_true rfl⟩) hl.1 rfl (Nat.le_of_ble_eq_true rfl) dL_act_262 (fun r_38 s_39 H locs hq hP hD hS => ?_)
    obtain ⟨hr9, rfl⟩ := hq
    obtain ⟨m_262, em_262⟩ : ∃ n9, n9 = lwN x3_7 8 := ⟨_, rfl⟩
    have hm_262 : m_262 < 8 := by rw [em_262]; exact lwN_lt (by omega)
    rw [hr9, ← em_262]
    clear hr9
    refine nVi (As := [.int (nI m_256), .int (nI m_262)]) (rest := _) hx hb hml hown hts hP hK hD hZ hA hS ⟨Nat.zero_le _, Nat.zero_le _⟩ hW.1.1 rfl (c_coil l E ad st N Rs a x (fun _ => 0) 0 ha hxx (Nat.zero_le _) hO.1.2.1 hW (nI m_256) m_262 hm_262 (nI_pos (by omega)) (show nI m_256 ≤ nI 50 from nI_le (by omega) (by omega))) (cwV 2 hts gL_act_X4_coil rfl rfl rfl (by decide +kernel) ⟨Nat.le_of_ble_eq_true rfl, Nat.le_of_ble_eq_true rfl⟩) hl.1 rfl (Nat.le_of_ble_eq_true rfl) dL_act_265 (fun r9 s9 H locs hq hP hD hS => ?_)
    obtain ⟨hr9, hW9, -⟩ := hq
    exact hret _ _ _ _ _ _ _ _ (Nat.zero_le _) (Nat.zero_le _) hP hD hS ⟨_, _, _, _, svA_le ha, svX_lt, hO.coil hm_262 (by omega), svR_P hOs hO, hW9, fun z => absurd z (by rw [hr9]; exact nn_n hO.2.2.2.2.1 (by omega)), fun z1 z2 => absurd ⟨z1, z2⟩ hs⟩ dL_act_268
  have K269 : ¬ (15 ≤ m_32 ∧ m_32 ≤ 17) → W pg l en (nRx 10 171) s mi ar bw mth cd H locs 0 0 Q (F0 mi 269 ls []) := by
    intro hs
    refine lv_aload_n hx hb dL_act_269 rfl (lv_at hl 3 rfl) ?_
    refine lv_iconst (v := 0) hx hb dL_act_270 (by decide) ?_
    refine lv_iload hx hb dL_act_271 (lv_at hl 1 rfl) ?_
    refine lv_sipush (v := 201) hx hb dL_act_273 (by decide) ?_
    refine nS_i (As := [.int x4_15, .int 201]) (rest := _) hx hb hml hown hts hP hK hD hZ hA hS ⟨Nat.zero_le _, Nat.zero_le _⟩ (l_low l E ad st x4_15 201 (by omega) (by omega)) (va_cwS 2 hts gL_act_L_low rfl rfl rfl (by decide +kernel) ⟨Nat.le_of_ble_eq_true rfl, Nat.le_of_ble_eq_true rfl⟩) hl.1 rfl (Nat.le_of_ble_eq_true rfl) dL_act_276 (fun r_40 s_41 H locs hq hP hD hS => ?_)
    obtain ⟨hr9, rfl⟩ := hq
    obtain ⟨m_276, em_276⟩ : ∃ n9, n9 = lwN x4_15 201 := ⟨_, rfl⟩
    have hm_276 : m_276 < 201 := by rw [em_276]; exact lwN_lt (by omega)
    rw [hr9, ← em_276]
    clear hr9
    refine nVi (As := [.int 0, .int (nI m_276)]) (rest := _) hx hb hml hown hts hP hK hD hZ hA hS ⟨Nat.zero_le _, Nat.zero_le _⟩ hW.1.1 rfl (c_set l E ad st N Rs a x (fun _ => 0) 0 ha hxx (Nat.zero_le _) hO.1.2.1 hW 0 (nI m_276) (by omega) (nI_pos (by omega)) (show nI m_276 ≤ nI 200 from nI_le (by omega) (by omega))) (cwV 2 hts gL_act_X4_set rfl rfl rfl (by decide +kernel) ⟨Nat.le_of_ble_eq_true rfl, Nat.le_of_ble_eq_true rfl⟩) hl.1 rfl (Nat.le_of_ble_eq_true rfl) dL_act_279 (fun r9 s9 H locs hq hP hD hS => ?_)
    obtain ⟨hr9, hW9, -⟩ := hq
    exact hret _ _ _ _ _ _ _ _ (Nat.zero_le _) (Nat.zero_le _) hP hD hS ⟨_, _, _, _, svA_le ha, svX_lt, hO.set0 (by omega), svR_P hOs hO, hW9, fun z => absurd z (by rw [hr9]; exact nn_n hO.2.1 (by omega)), fun z1 z2 => absurd ⟨z1, z2⟩ hs⟩ dL_act_282
  have K283 : ¬ (15 ≤ m_32 ∧ m_32 ≤ 17) → W pg l en (nRx 10 171) s mi ar bw mth cd H locs 0 0 Q (F0 mi 283 ls []) := by
    intro hs
    refine lv_iload_n hx hb dL_act_283 rfl (lv_at hl 2 rfl) ?_
    refine lv_iconst (v := 2) hx hb dL_act_284 (by decide) ?_
    refine nS_i (As := [.int x3_7, .int 2]) (rest := _) hx hb hml hown hts hP hK hD hZ hA hS ⟨Nat.zero_le _, Nat.zero_le _⟩ (l_low l E ad st x3_7 2 (by omega) (by omega)) (va_cwS 2 hts gL_act_L_low rfl rfl rfl (by decide +kernel) ⟨Nat.le_of_ble_eq_true rfl, Nat.le_of_ble_eq_true rfl⟩) hl.1 rfl (Nat.le_of_ble_eq_true rfl) dL_act_285 (fun r_42 s_43 H locs hq hP hD hS => ?_)
    obtain ⟨hr9, rfl⟩ := hq
    obtain ⟨m_285, em_285⟩ : ∃ n9, n9 = lwN x3_7 2 := ⟨_, rfl⟩
    have hm_285 : m_285 < 2 := by rw [em_285]; exact lwN_lt (by omega)
    rw [hr9, ← em_285]
    clear hr9
    refine lv_if_ne (tgt := 306) hx hb dL_act_288 (by decide) (fun c288_43 => ?_) (fun c288_43 => ?_)
    · refine lv_aload_n hx hb dL_act_306 rfl (lv_at hl 3 rfl) ?_
      refine lv_iconst (v := 2) hx hb dL_act_307 (by decide) ?_
      refine lv_iload hx hb dL_act_308 (lv_at hl 1 rfl) ?_
      refine lv_bipush (v := 51) hx hb dL_act_310 (by decide) ?_
      refine nS_i (As := [.int x4_15, .int 51]) (rest := _) hx hb hml hown hts hP hK hD hZ hA hS ⟨Nat.zero_le _, Nat.zero_le _⟩ (l_low l E ad st x4_15 51 (by omega) (by omega)) (va_cwS 2 hts gL_act_L_low rfl rfl rfl (by decide +kernel) ⟨Nat.le_of_ble_eq_true rfl, Nat.le_of_ble_eq_true rfl⟩) hl.1 rfl (Nat.le_of_ble_eq_true rfl) dL_act_312 (fun r_45 s_46 H locs hq hP hD hS => ?_)
      obtain ⟨hr9, rfl⟩ := hq
      obtain ⟨m_312, em_312⟩ : ∃ n9, n9 = lwN x4_15 51 := ⟨_, rfl⟩
      have hm_312 : m_312 < 51 := by rw [em_312]; exact lwN_lt (by omega)
      rw [hr9, ← em_312]
      clear hr9
      refine nVi (As := [.int 2, .int (nI m_312)]) (rest := _) hx hb hml hown hts hP hK hD hZ hA hS ⟨Nat.zero_le _, Nat.zero_le _⟩ hW.1.1 rfl (c_set l E ad st N Rs a x (fun _ => 0) 0 ha hxx (Nat.zero_le _) hO.1.2.1 hW 2 (nI m_312) (by omega) (nI_pos (by omega)) (show nI m_312 ≤ nI 50 from nI_le (by omega) (by omega))) (cwV 2 hts gL_act_X4_set rfl rfl rfl (by decide +kernel) ⟨Nat.le_of_ble_eq_true rfl, Nat.le_of_ble_eq_true rfl⟩) hl.1 rfl (Nat.le_of_ble_eq_true rfl) dL_act_315 (fun r9 s9 H locs hq hP hD hS => ?_)
      obtain ⟨hr9, hW9, -⟩ := hq
      exact hret _ _ _ _ _ _ _ _ (Nat.zero_le _) (Nat.zero_le _) hP hD hS ⟨_, _, _, _, svA_le ha, svX_lt, hO.set2 (by omega), svR_P hOs hO, hW9, fun z => absurd z (by rw [hr9]; exact nn_n hO.2.2.2.1 (by omega)), fun z1 z2 => absurd ⟨z1, z2⟩ hs⟩ dL_act_318
    · refine lv_aload_n hx hb dL_act_291 rfl (lv_at hl 3 rfl) ?_
      refine lv_iconst (v := 1) hx hb dL_act_292 (by decide) ?_
      refine lv_iload hx hb dL_act_293 (lv_at hl 1 rfl) ?_
      refine lv_bipush (v := 21) hx hb dL_act_295 (by decide) ?_
      refine nS_i (As := [.int x4_15, .int 21]) (rest := _) hx hb hml hown hts hP hK hD hZ hA hS ⟨Nat.zero_le _, Nat.zero_le _⟩ (l_low l E ad st x4_15 21 (by omega) (by omega)) (va_cwS 2 hts gL_act_L_low rfl rfl rfl (by decide +kernel) ⟨Nat.le_of_ble_eq_true rfl, Nat.le_of_ble_eq_true rfl⟩) hl.1 rfl (Nat.le_of_ble_eq_true rfl) dL_act_297 (fun r_47 s_48 H locs hq hP hD hS => ?_)
      obtain ⟨hr9, rfl⟩ := hq
      obtain ⟨m_297, em_297⟩ : ∃ n9, n9 = lwN x4_15 21 := ⟨_, rfl⟩
      have hm_297 : m_297 < 21 := by rw [em_297]; exact lwN_lt (by omega)
      rw [hr9, ← em_297]
      clear hr9
      refine nVi (As := [.int 1, .int (nI m_297)]) (rest := _) hx hb hml hown hts hP hK hD hZ hA hS ⟨Nat.zero_le _, Nat.zero_le _⟩ hW.1.1 rfl (c_set l E ad st N Rs a x (fun _ => 0) 0 ha hxx (Nat.zero_le _) hO.1.2.1 hW 1 (nI m_297) (by omega) (nI_pos (by omega)) (show nI m_297 ≤ nI 20 from nI_le (by omega) (by omega))) (cwV 2 hts gL_act_X4_set rfl rfl rfl (by decide +kernel) ⟨Nat.le_of_ble_eq_true rfl, Nat.le_of_ble_eq_true rfl⟩) hl.1 rfl (Nat.le_of_ble_eq_true rfl) dL_act_300 (fun r9 s9 H locs hq hP hD hS => ?_)
      obtain ⟨hr9, hW9, -⟩ := hq
      refine lv_goto (tgt := 318) hx hb dL_act_303 (by decide) ?_
      exact hret _ _ _ _ _ _ _ _ (Nat.zero_le _) (Nat.zero_le _) hP hD hS ⟨_, _, _, _, svA_le ha, svX_lt, hO.set1 (by omega), svR_P hOs hO, hW9, fun z => absurd z (by rw [hr9]; exact nn_n hO.2.2.1 (by omega)), fun z1 z2 => absurd ⟨z1, z2⟩ hs⟩ dL_act_318
  have K319 : W pg l en (nRx 10 171) s mi ar bw mth cd H locs 0 0 Q (F0 mi 319 ls []) := by
    refine lv_aload_n hx hb dL_act_319 rfl (lv_at hl 3 rfl) ?_
    refine lv_iconst (v := 1) hx hb dL_act_320 (by decide) ?_
    refine lv_iload_n hx hb dL_act_321 rfl (lv_at hl 2 rfl) ?_
    refine lv_iconst (v := 5) hx hb dL_act_322 (by decide) ?_
    refine nS_i (As := [.int x3_7, .int 5]) (rest := _) hx hb hml hown hts hP hK hD hZ hA hS ⟨Nat.zero_le _, Nat.zero_le _⟩ (l_low l E ad st x3_7 5 (by omega) (by omega)) (va_cwS 2 hts gL_act_L_low rfl rfl rfl (by decide +kernel) ⟨Nat.le_of_ble_eq_true rfl, Nat.le_of_ble_eq_true rfl⟩) hl.1 rfl (Nat.le_of_ble_eq_true rfl) dL_act_323 (fun r_49 s_50 H locs hq hP hD hS => ?_)
    obtain ⟨hr9, rfl⟩ := hq
    obtain ⟨m_323, em_323⟩ : ∃ n9, n9 = lwN x3_7 5 := ⟨_, rfl⟩
    have hm_323 : m_323 < 5 := by rw [em_323]; exact lwN_lt (by omega)
    rw [hr9, ← em_323]
    clear hr9
    refine lv_iadd hx hb dL_act_326 ?_
    rw [show 1 + nI m_323 = nI (1 + m_323) from nI_add 1 m_323]
    refine nVi (As := [.int (nI (1 + m_323))]) (rest := _) hx hb hml hown hts hP hK hD hZ hA hS ⟨Nat.zero_le _, Nat.zero_le _⟩ hW.1.1 rfl (c_step l E ad st N Rs a x (fun _ => 0) 0 ha hxx (Nat.zero_le _) hO.1.2.1 hW (1 + m_323) (by omega) (by omega)) (cwV 1 hts gL_act_X4_step rfl rfl rfl (by decide +kernel) ⟨Nat.le_of_ble_eq_true rfl, Nat.le_of_ble_eq_true rfl⟩) hl.1 rfl (Nat.le_of_ble_eq_true rfl) dL_act_327 (fun r9 s9 H locs hq hP hD hS => ?_)
    obtain ⟨hr9, hW9, -⟩ := hq
    exact hret _ _ _ _ _ _ _ _ (Nat.zero_le _) (Nat.zero_le _) hP hD hS ⟨_, _, _, _, svA_le ha, svX_lt, hO.step _ _, svR_P hOs hO, hW9, fun z => absurd z (by obtain ⟨q9, h9, e9⟩ := tgN_n (gN N) (1 + m_323); rw [hr9, e9]; exact nI_pos (by omega)), fun _ _ => by rw [← show 1 + m_323 = 1 + lwN (scI E (k + 1)) 5 by rw [em_323, ex3_7]]; exact ⟨rfl, hr9⟩⟩ dL_act_330
  have K331 : ¬ (15 ≤ m_32 ∧ m_32 ≤ 17) → W pg l en (nRx 10 171) s mi ar bw mth cd H locs 0 0 Q (F0 mi 331 ls []) := by
    intro hs
    refine lv_aload_n hx hb dL_act_331 rfl (lv_at hl 3 rfl) ?_
    by_cases hf : a = 0
    · refine nXS (As := [.ref (ad 0)]) (rest := _) hx hb hml hown hts hP hK hD hZ hA hS ⟨Nat.le_of_ble_eq_true rfl, Nat.le_of_ble_eq_true rfl⟩ (l_undo_x l E ad st ⟨_, hW.1.1⟩ _ (x_undo l hlt E ad st N Rs a x (fun _ => 0) 0 ha hxx (Nat.zero_le _) hO.1.2.1 hW hf)) (vx_cwSW 1 hts gL_act_L_undo rfl rfl rfl (by decide +kernel) ⟨Nat.le_of_ble_eq_true rfl, Nat.le_of_ble_eq_true rfl⟩) hl.1 rfl (Nat.le_of_ble_eq_true rfl) dL_act_332 (fun r9 s9 H locs hq hP hD hS => ?_)
      obtain ⟨hr9, rfl⟩ := hq
      exact hret _ _ _ _ _ _ _ _ (Nat.le_refl _) (Nat.le_refl _) hP hD hS ⟨N, Rs, a, x, ha, hxx, hO, hOs, hW, fun _ => ⟨rfl, rfl⟩, fun z1 z2 => absurd ⟨z1, z2⟩ hs⟩ dL_act_335
    · refine nXS (As := [.ref (ad 0)]) (rest := _) hx hb hml hown hts hP hK hD hZ hA hS ⟨Nat.le_of_ble_eq_true rfl, Nat.le_of_ble_eq_true rfl⟩ (l_undo l E ad st ⟨_, hW.1.1⟩ _ (c_undo l E ad st N Rs a x (fun _ => 0) 0 ha hxx (Nat.zero_le _) hO.1.2.1 hW (Nat.pos_of_ne_zero hf) (fun i hi => (hOs i hi).1.2.1))) (vx_cwSW 1 hts gL_act_L_undo rfl rfl rfl (by decide +kernel) ⟨Nat.le_of_ble_eq_true rfl, Nat.le_of_ble_eq_true rfl⟩) hl.1 rfl (Nat.le_of_ble_eq_true rfl) dL_act_332 (fun r9 s9 H locs hq hP hD hS => ?_)
      obtain ⟨hr9, hW9, -⟩ := hq
      exact hret _ _ _ _ _ _ _ _ (Nat.le_refl _) (Nat.le_refl _) hP hD hS ⟨_, _, _, _, Nat.le_trans (Nat.sub_le _ _) ha, by split <;> omega, hOs _ (by split <;> omega), hOs, hW9, fun z => absurd z (by rw [hr9]; exact nI_pos (by omega)), fun z1 z2 => absurd ⟨z1, z2⟩ hs⟩ dL_act_335
  have h20 : m_32 = 0 ∨ m_32 = 1 ∨ m_32 = 2 ∨ m_32 = 3 ∨ m_32 = 4 ∨ m_32 = 5 ∨ m_32 = 6 ∨ m_32 = 7 ∨ m_32 = 8 ∨ m_32 = 9 ∨ m_32 = 10 ∨ m_32 = 11 ∨ m_32 = 12 ∨ m_32 = 13 ∨ m_32 = 14 ∨ m_32 = 15 ∨ m_32 = 16 ∨ m_32 = 17 ∨ m_32 = 18 ∨ m_32 = 19 := by omega
  clear hret
  rcases h20 with h9 | h9 | h9 | h9 | h9 | h9 | h9 | h9 | h9 | h9 | h9 | h9 | h9 | h9 | h9 | h9 | h9 | h9 | h9 | h9
  · exact lv_tableIn (off := 85) (tgt := 120) hx hb dL_act_35 (by rw [h9]; decide) (by rw [h9]; decide) (by rw [h9]; rfl) (by decide) (K120 (by rw [h9]; omega))
  · exact lv_tableIn (off := 85) (tgt := 120) hx hb dL_act_35 (by rw [h9]; decide) (by rw [h9]; decide) (by rw [h9]; rfl) (by decide) (K120 (by rw [h9]; omega))
  · exact lv_tableIn (off := 85) (tgt := 120) hx hb dL_act_35 (by rw [h9]; decide) (by rw [h9]; decide) (by rw [h9]; rfl) (by decide) (K120 (by rw [h9]; omega))
  · exact lv_tableIn (off := 99) (tgt := 134) hx hb dL_act_35 (by rw [h9]; decide) (by rw [h9]; decide) (by rw [h9]; rfl) (by decide) (K134 (by rw [h9]; omega))
  · exact lv_tableIn (off := 99) (tgt := 134) hx hb dL_act_35 (by rw [h9]; decide) (by rw [h9]; decide) (by rw [h9]; rfl) (by decide) (K134 (by rw [h9]; omega))
  · exact lv_tableIn (off := 114) (tgt := 149) hx hb dL_act_35 (by rw [h9]; decide) (by rw [h9]; decide) (by rw [h9]; rfl) (by decide) (K149 (by rw [h9]; omega))
  · exact lv_tableIn (off := 135) (tgt := 170) hx hb dL_act_35 (by rw [h9]; decide) (by rw [h9]; decide) (by rw [h9]; rfl) (by decide) (K170 (by rw [h9]; omega))
  · exact lv_tableIn (off := 149) (tgt := 184) hx hb dL_act_35 (by rw [h9]; decide) (by rw [h9]; decide) (by rw [h9]; rfl) (by decide) (K184 (by rw [h9]; omega))
  · exact lv_tableIn (off := 149) (tgt := 184) hx hb dL_act_35 (by rw [h9]; decide) (by rw [h9]; decide) (by rw [h9]; rfl) (by decide) (K184 (by rw [h9]; omega))
  · exact lv_tableIn (off := 149) (tgt := 184) hx hb dL_act_35 (by rw [h9]; decide) (by rw [h9]; decide) (by rw [h9]; rfl) (by decide) (K184 (by rw [h9]; omega))
  · exact lv_tableIn (off := 149) (tgt := 184) hx hb dL_act_35 (by rw [h9]; decide) (by rw [h9]; decide) (by rw [h9]; rfl) (by decide) (K184 (by rw [h9]; omega))
  · exact lv_tableIn (off := 174) (tgt := 209) hx hb dL_act_35 (by rw [h9]; decide) (by rw [h9]; decide) (by rw [h9]; rfl) (by decide) (K209 (by rw [h9]; omega))
  · exact lv_tableIn (off := 216) (tgt := 251) hx hb dL_act_35 (by rw [h9]; decide) (by rw [h9]; decide) (by rw [h9]; rfl) (by decide) (K251 (by rw [h9]; omega))
  · exact lv_tableIn (off := 234) (tgt := 269) hx hb dL_act_35 (by rw [h9]; decide) (by rw [h9]; decide) (by rw [h9]; rfl) (by decide) (K269 (by rw [h9]; omega))
  · exact lv_tableIn (off := 248) (tgt := 283) hx hb dL_act_35 (by rw [h9]; decide) (by rw [h9]; decide) (by rw [h9]; rfl) (by decide) (K283 (by rw [h9]; omega))
  · exact lv_tableIn (off := 284) (tgt := 319) hx hb dL_act_35 (by rw [h9]; decide) (by rw [h9]; decide) (by rw [h9]; rfl) (by decide) (K319)
  · exact lv_tableIn (off := 284) (tgt := 319) hx hb dL_act_35 (by rw [h9]; decide) (by rw [h9]; decide) (by rw [h9]; rfl) (by decide) (K319)
  · exact lv_tableIn (off := 284) (tgt := 319) hx hb dL_act_35 (by rw [h9]; decide) (by rw [h9]; decide) (by rw [h9]; rfl) (by decide) (K319)
  · exact lv_tableOut (tgt := 331) hx hb dL_act_35 (Or.inr (by rw [h9]; decide)) (by decide) (K331 (by rw [h9]; omega))
  · exact lv_tableOut (tgt := 331) hx hb dL_act_35 (Or.inr (by rw [h9]; decide)) (by decide) (K331 (by rw [h9]; omega))

set_option maxHeartbeats 4000000 in
set_option maxRecDepth 100000 in
theorem m_digest (l : Launch) (E : NE) (ad : Nat → Nat) (st : NW) (b : Nat) (N P : Nat → Int32) (kp : Nat) (C : Nat → Int32) (n : Nat) (th : Int32) (J : Nat → Nat → Int32) (hkp : kp ≤ 6) (hn : n ≤ 60) (hO : okN N) (hM : isR E ad st b sM (mG N P kp C n th J))  : nMl l yX5_digest wsX5_digest (nRm 9 213) E ad st [.ref (ad b)] (fun r s1 => r = digA N kp C n (obV N).toInt64 ∧ (∃ J1, isR E ad s1 b sM (mG N P kp C n 0 J1)) ∧ fr b st s1) := by
  refine nSl (cc := cX5_digest) (maxL := 5) (by decide) rfl (Nat.le_of_ble_eq_true rfl) ?_
  intro pg en s mi ar bw mth cd R Q A ls hx hb hml hown hts hRm hP hK hD hZ hA hl hret
  subst hRm
  have hown : s.vm.findClass RX5 = some mi.cls := hown
  have hS : va_S A s.heap s.heap [] := va_S.rf
  have hl : lv_has ls 5 [(0, .ref (ad b))] := hl
  have hf : fr b st st := fr.rf
  have hdB := hO.1.b
  have hinX5 : ∀ w ∈ wsX50, w ∈ wsX5_digest := by decide +kernel
  refine lv_aload_n hx hb dX5_digest_0 rfl (lv_at hl 0 rfl) ?_
  refine lv_iconst (v := 0) hx hb dX5_digest_1 (by decide) ?_
  refine rp (v := 0) (ty := .int) (T := TX5) (N := 14) (C := RX5) hx hb hts hinX5 tyX5 tyX5_ok nmX5 hown hK hP hD hS hM rfl 6 (by decide) (hts (.fieldLink RX5 28 "NeedleGridModel" "thrown" "I") (by decide +kernel)) rfl rfl (by decide +kernel) rfl rfl dX5_digest_2 (fun s_1 H locs hM hf_2 hP hD hS => ?_)
  have hf := hf.tr hf_2
  refine lv_ldc2 (v := 3167) hx hb hown (hts (.constantLong RX5 173 3167) (by decide +kernel)) dX5_digest_5 ?_
  refine lv_lstore_n (lv' := [(1, .long 3167), (0, .ref (ad b))]) hx hb dX5_digest_8 rfl hl (by decide) rfl (fun ls hl => ?_)
  refine lv_iconst (v := 0) hx hb dX5_digest_9 (by decide) ?_
  refine lv_istore_n (lv' := [(3, .int 0), (1, .long 3167), (0, .ref (ad b))]) hx hb dX5_digest_10 rfl hl (by decide) rfl (fun ls hl => ?_)
  have LP_3 : ∀ (k9 i : Nat), i ≤ 9 → 9 - i < k9 → ∀ (sL_4 : NW) (H : Heap) (locs : List Loc) (ls : Array Slot) (Ja : Nat → Nat → Int32), isR E ad sL_4 b sM ((mG N P kp C n 0 Ja)) → fr b st sL_4 → nP E ad sL_4 H → nD A ad sL_4 → va_S A s.heap H locs → lv_has ls 5 [(1, .long (hsI (cntA N kp) 3167 i)), (3, .int (nI i)), (0, .ref (ad b))] → W pg l en (nRm 9 213) s mi ar bw mth cd H locs 0 0 Q (F0 mi 11 ls []) := by
    intro k9
    induction k9 with
    | zero => intro i _ h9; exact absurd h9 (Nat.not_lt_zero _)
    | succ k9 ih11 =>
      intro i hi hk9 sL_4 H locs ls Ja hM hf hP hD hS hl
      refine lv_iload_n hx hb dX5_digest_11 rfl (lv_at hl 1 rfl) ?_
      refine lv_bipush (v := 9) hx hb dX5_digest_12 (by decide) ?_
      refine lv_icmp_ge (tgt := 36) hx hb dX5_digest_14 (by decide) (fun c14_4 => ?_) (fun c14_4 => ?_)
      · have h36 : 9 ≤ i := (nI_geL (n := 9) rfl (by decide) (by omega)).mp c14_4
        obtain rfl : i = 9 := by omega
        refine lv_iconst (v := 0) hx hb dX5_digest_36 (by decide) ?_
        refine lv_istore_n (lv' := [(3, .int 0), (1, .long (hsI (cntA N kp) 3167 9)), (0, .ref (ad b))]) hx hb dX5_digest_37 rfl hl (by decide) rfl (fun ls hl => ?_)
        have LP_6 : ∀ (k9 j : Nat), j ≤ 3 → 3 - j < k9 → ∀ (sL_7 : NW) (H : Heap) (locs : List Loc) (ls : Array Slot) (Jb : Nat → Nat → Int32), isR E ad sL_7 b sM ((mG N P kp C n 0 Jb)) → fr b st sL_7 → nP E ad sL_7 H → nD A ad sL_7 → va_S A s.heap H locs → lv_has ls 5 [(1, .long (hsI N (hsI (cntA N kp) 3167 9) j)), (3, .int (nI j)), (0, .ref (ad b))] → W pg l en (nRm 9 213) s mi ar bw mth cd H locs 0 0 Q (F0 mi 38 ls []) := by
          intro k9
          induction k9 with
          | zero => intro j _ h9; exact absurd h9 (Nat.not_lt_zero _)
          | succ k9 ih38 =>
            intro j hi hk9 sL_7 H locs ls Jb hM hf hP hD hS hl
            refine lv_iload_n hx hb dX5_digest_38 rfl (lv_at hl 1 rfl) ?_
            refine lv_iconst (v := 3) hx hb dX5_digest_39 (by decide) ?_
            refine lv_icmp_ge (tgt := 63) hx hb dX5_digest_40 (by decide) (fun c40_7 => ?_) (fun c40_7 => ?_)
            · have h36 : 3 ≤ j := (nI_geL (n := 3) rfl (by decide) (by omega)).mp c40_7
              obtain rfl : j = 3 := by omega
              refine lv_iconst (v := 0) hx hb dX5_digest_63 (by decide) ?_
              refine lv_istore_n (lv' := [(3, .int 0), (1, .long (hsI N (hsI (cntA N kp) 3167 9) 3)), (0, .ref (ad b))]) hx hb dX5_digest_64 rfl hl (by decide) rfl (fun ls hl => ?_)
              have LP_9 : ∀ (k9 q : Nat), q ≤ 288 → 288 - q < k9 → ∀ (sL_10 : NW) (H : Heap) (locs : List Loc) (ls : Array Slot) (Jc : Nat → Nat → Int32), isR E ad sL_10 b sM ((mG N P kp C n 0 Jc)) → fr b st sL_10 → nP E ad sL_10 H → nD A ad sL_10 → va_S A s.heap H locs → lv_has ls 5 [(1, .long (hsI (cK N) (hsI N (hsI (cntA N kp) 3167 9) 3) q)), (3, .int (nI q)), (0, .ref (ad b))] → W pg l en (nRm 9 213) s mi ar bw mth cd H locs 0 0 Q (F0 mi 65 ls []) := by
                intro k9
                induction k9 with
                | zero => intro q _ h9; exact absurd h9 (Nat.not_lt_zero _)
                | succ k9 ih65 =>
                  intro q hi hk9 sL_10 H locs ls Jc hM hf hP hD hS hl
                  refine lv_iload_n hx hb dX5_digest_65 rfl (lv_at hl 1 rfl) ?_
                  refine lv_sipush (v := 288) hx hb dX5_digest_66 (by decide) ?_
                  refine lv_icmp_ge (tgt := 98) hx hb dX5_digest_69 (by decide) (fun c69_10 => ?_) (fun c69_10 => ?_)
                  · have h36 : 288 ≤ q := (nI_geL (n := 288) rfl (by decide) (by omega)).mp c69_10
                    obtain rfl : q = 288 := by omega
                    refine lv_aload_n hx hb dX5_digest_98 rfl (lv_at hl 2 rfl) ?_
                    refine rg (v := .ref (ad (b + 1 + 0))) (T := TX5) (N := 14) (C := RX5) hx hb hts hinX5 hown hK hP hM rfl 0 (by decide) (hts (.fieldLink RX5 7 "NeedleGridModel" "now" "[I") (by decide +kernel)) rfl dX5_digest_99 ?_
                    refine nS_i (As := [.ref (ad (b + 1 + 0))]) (rest := _) hx hb hml hown hts hP hK hD hZ hA hS ⟨Nat.zero_le _, Nat.zero_le _⟩ (m_lying l E ad sL_10 b (mG N P kp C n 0 Jc) hM ) (va_cwS 1 hts gX5_digest_X5_lying rfl rfl rfl (by decide +kernel) ⟨Nat.le_of_ble_eq_true rfl, Nat.le_of_ble_eq_true rfl⟩) hl.1 rfl (Nat.le_of_ble_eq_true rfl) dX5_digest_102 (fun r_12 s_14 H locs hq hP hD hS => ?_)
                    obtain ⟨hrr_12, rfl⟩ := hq
                    have hrr_12 : r_12 = nI (cnI (barP N) 36) := hrr_12
                    obtain ⟨M, hM9, hM36⟩ : ∃ M, M = barC N ∧ M ≤ 36 := ⟨_, rfl, cnI_le _ _⟩
                    have hr9 : r_12 = nI M := by rw [hrr_12, hM9, cnBar_g]; rfl
                    clear hrr_12
                    subst hr9
                    refine lv_istore_n (lv' := [(3, .int (nI M)), (1, .long (hsI (cK N) (hsI N (hsI (cntA N kp) 3167 9) 3) 288)), (0, .ref (ad b))]) hx hb dX5_digest_105 rfl hl (by decide) rfl (fun ls hl => ?_)
                    refine lv_iconst (v := 0) hx hb dX5_digest_106 (by decide) ?_
                    refine lv_istore (lv' := [(4, .int 0), (3, .int (nI M)), (1, .long (hsI (cK N) (hsI N (hsI (cntA N kp) 3167 9) 3) 288)), (0, .ref (ad b))]) hx hb dX5_digest_107 hl (by decide) rfl (fun ls hl => ?_)
                    have LP_15 : ∀ (k9 y : Nat), y ≤ (3 * M) → (3 * M) - y < k9 → ∀ (sL_16 : NW) (H : Heap) (locs : List Loc) (ls : Array Slot) (Jd : Nat → Nat → Int32), isR E ad sL_16 b sM ((mG N P kp C n 0 Jd)) → fr b st sL_16 → nP E ad sL_16 H → nD A ad sL_16 → va_S A s.heap H locs → lv_has ls 5 [(1, .long (hsI (bK N) (hsI (cK N) (hsI N (hsI (cntA N kp) 3167 9) 3) 288) y)), (4, .int (nI y)), (3, .int (nI M)), (0, .ref (ad b))] → W pg l en (nRm 9 213) s mi ar bw mth cd H locs 0 0 Q (F0 mi 109 ls []) := by
                      intro k9
                      induction k9 with
                      | zero => intro y _ h9; exact absurd h9 (Nat.not_lt_zero _)
                      | succ k9 ih109 =>
                        intro y hi hk9 sL_16 H locs ls Jd hM hf hP hD hS hl
                        refine lv_iload hx hb dX5_digest_109 (lv_at hl 1 rfl) ?_
                        refine lv_iconst (v := 3) hx hb dX5_digest_111 (by decide) ?_
                        refine lv_iload_n hx hb dX5_digest_112 rfl (lv_at hl 2 rfl) ?_
                        refine lv_imul hx hb dX5_digest_113 ?_
                        rw [show 3 * nI M = nI (3 * M) from pk_mul 3 M]
                        refine lv_icmp_ge (tgt := 143) hx hb dX5_digest_114 (by decide) (fun c114_16 => ?_) (fun c114_16 => ?_)
                        · have h36 : (3 * M) ≤ y := (nI_leI (by omega) (by omega)).mp c114_16
                          obtain rfl : y = (3 * M) := by omega
                          refine lv_iconst (v := 0) hx hb dX5_digest_143 (by decide) ?_
                          refine lv_istore (lv' := [(4, .int 0), (1, .long (hsI (bK N) (hsI (cK N) (hsI N (hsI (cntA N kp) 3167 9) 3) 288) (3 * M))), (3, .int (nI M)), (0, .ref (ad b))]) hx hb dX5_digest_144 hl (by decide) rfl (fun ls hl => ?_)
                          have LP_18 : ∀ (k9 z : Nat), z ≤ 8 → 8 - z < k9 → ∀ (sL_19 : NW) (H : Heap) (locs : List Loc) (ls : Array Slot) (Je : Nat → Nat → Int32), isR E ad sL_19 b sM ((mG N P kp C n 0 Je)) → fr b st sL_19 → nP E ad sL_19 H → nD A ad sL_19 → va_S A s.heap H locs → lv_has ls 5 [(1, .long (hsI (pntA N) (hsI (bK N) (hsI (cK N) (hsI N (hsI (cntA N kp) 3167 9) 3) 288) (3 * M)) z)), (4, .int (nI z)), (0, .ref (ad b))] → W pg l en (nRm 9 213) s mi ar bw mth cd H locs 0 0 Q (F0 mi 146 ls []) := by
                            intro k9
                            induction k9 with
                            | zero => intro z _ h9; exact absurd h9 (Nat.not_lt_zero _)
                            | succ k9 ih146 =>
                              intro z hi hk9 sL_19 H locs ls Je hM hf hP hD hS hl
                              refine lv_iload hx hb dX5_digest_146 (lv_at hl 1 rfl) ?_
                              refine lv_bipush (v := 8) hx hb dX5_digest_148 (by decide) ?_
                              refine lv_icmp_ge (tgt := 173) hx hb dX5_digest_150 (by decide) (fun c150_19 => ?_) (fun c150_19 => ?_)
                              · have h36 : 8 ≤ z := (nI_geL (n := 8) rfl (by decide) (by omega)).mp c150_19
                                obtain rfl : z = 8 := by omega
                                refine lv_ldc2 (v := 31) hx hb hown (hts (.constantLong RX5 175 31) (by decide +kernel)) dX5_digest_173 ?_
                                refine lv_lload_n hx hb dX5_digest_176 rfl (lv_at hl 0 rfl) ?_
                                refine lv_lmul hx hb dX5_digest_177 ?_
                                refine lv_aload_n hx hb dX5_digest_178 rfl (lv_at hl 2 rfl) ?_
                                refine nVi (As := []) (rest := _) hx hb hml hown hts hP hK hD hZ hA hS ⟨Nat.zero_le _, Nat.zero_le _⟩ hM.1 rfl (m_rests l E ad sL_19 b N P kp C n 0 Je hkp hn hO (hM.eq (all14 rfl rfl rfl rfl rfl rfl rfl rfl rfl rfl rfl rfl rfl rfl)) ) (cwV 0 hts gX5_digest_X5_rests rfl rfl rfl (by decide +kernel) ⟨Nat.le_of_ble_eq_true rfl, Nat.le_of_ble_eq_true rfl⟩) hl.1 rfl (Nat.le_of_ble_eq_true rfl) dX5_digest_179 (fun r_21 s_24 H locs hq hP hD hS => ?_)
                                obtain ⟨hrr_21, ⟨J_23, hM⟩, hf_22⟩ := hq
                                have hf := hf.tr hf_22
                                refine lv_i2l (v := r_21.toInt64) hx hb dX5_digest_182 rfl ?_
                                refine lv_ladd hx hb dX5_digest_183 ?_
                                refine lv_topl (fun x1_184 ex1_184 => ?_)
                                refine lv_lstore_n (lv' := [(1, .long x1_184), (4, .int (nI 8)), (0, .ref (ad b))]) hx hb dX5_digest_184 rfl hl (by decide) rfl (fun ls hl => ?_)
                                refine lv_ldc2 (v := 31) hx hb hown (hts (.constantLong RX5 175 31) (by decide +kernel)) dX5_digest_185 ?_
                                refine lv_ldc2 (v := 31) hx hb hown (hts (.constantLong RX5 175 31) (by decide +kernel)) dX5_digest_188 ?_
                                refine lv_ldc2 (v := 31) hx hb hown (hts (.constantLong RX5 175 31) (by decide +kernel)) dX5_digest_191 ?_
                                refine lv_lload_n hx hb dX5_digest_194 rfl (lv_at hl 0 rfl) ?_
                                refine lv_lmul hx hb dX5_digest_195 ?_
                                refine lv_aload_n hx hb dX5_digest_196 rfl (lv_at hl 2 rfl) ?_
                                refine lv_iconst (v := 0) hx hb dX5_digest_197 (by decide) ?_
                                refine lv_bipush (v := 9) hx hb dX5_digest_198 (by decide) ?_
                                refine nVi (As := [.int 0, .int 9]) (rest := _) hx hb hml hown hts hP hK hD hZ hA hS ⟨Nat.zero_le _, Nat.zero_le _⟩ hM.1 rfl (m_pointed l E ad s_24 b N P kp C n 0 J_23 hkp hn hO (hM.eq (all14 rfl rfl rfl rfl rfl rfl rfl rfl rfl rfl rfl rfl rfl rfl)) 0 9 (by omega) (by omega)) (cwV 2 hts gX5_digest_X5_pointed rfl rfl rfl (by decide +kernel) ⟨Nat.le_of_ble_eq_true rfl, Nat.le_of_ble_eq_true rfl⟩) hl.1 rfl (Nat.le_of_ble_eq_true rfl) dX5_digest_200 (fun r_25 s_28 H locs hq hP hD hS => ?_)
                                obtain ⟨hrr_25, ⟨J_27, hM⟩, hf_26⟩ := hq
                                have hf := hf.tr hf_26
                                refine lv_i2l (v := r_25.toInt64) hx hb dX5_digest_203 rfl ?_
                                refine lv_ladd hx hb dX5_digest_204 ?_
                                refine lv_lmul hx hb dX5_digest_205 ?_
                                refine lv_aload_n hx hb dX5_digest_206 rfl (lv_at hl 2 rfl) ?_
                                refine lv_bipush (v := 14) hx hb dX5_digest_207 (by decide) ?_
                                refine lv_bipush (v := 9) hx hb dX5_digest_209 (by decide) ?_
                                refine nVi (As := [.int 14, .int 9]) (rest := _) hx hb hml hown hts hP hK hD hZ hA hS ⟨Nat.zero_le _, Nat.zero_le _⟩ hM.1 rfl (m_pointed l E ad s_28 b N P kp C n 0 J_27 hkp hn hO (hM.eq (all14 rfl rfl rfl rfl rfl rfl rfl rfl rfl rfl rfl rfl rfl rfl)) 14 9 (by omega) (by omega)) (cwV 2 hts gX5_digest_X5_pointed rfl rfl rfl (by decide +kernel) ⟨Nat.le_of_ble_eq_true rfl, Nat.le_of_ble_eq_true rfl⟩) hl.1 rfl (Nat.le_of_ble_eq_true rfl) dX5_digest_211 (fun r_29 s_32 H locs hq hP hD hS => ?_)
                                obtain ⟨hrr_29, ⟨J_31, hM⟩, hf_30⟩ := hq
                                have hf := hf.tr hf_30
                                refine lv_i2l (v := r_29.toInt64) hx hb dX5_digest_214 rfl ?_
                                refine lv_ladd hx hb dX5_digest_215 ?_
                                refine lv_lmul hx hb dX5_digest_216 ?_
                                refine lv_aload_n hx hb dX5_digest_217 rfl (lv_at hl 2 rfl) ?_
                                refine lv_bipush (v := 35) hx hb dX5_digest_218 (by decide) ?_
                                refine lv_bipush (v := 9) hx hb dX5_digest_220 (by decide) ?_
                                refine nVi (As := [.int 35, .int 9]) (rest := _) hx hb hml hown hts hP hK hD hZ hA hS ⟨Nat.zero_le _, Nat.zero_le _⟩ hM.1 rfl (m_pointed l E ad s_32 b N P kp C n 0 J_31 hkp hn hO (hM.eq (all14 rfl rfl rfl rfl rfl rfl rfl rfl rfl rfl rfl rfl rfl rfl)) 35 9 (by omega) (by omega)) (cwV 2 hts gX5_digest_X5_pointed rfl rfl rfl (by decide +kernel) ⟨Nat.le_of_ble_eq_true rfl, Nat.le_of_ble_eq_true rfl⟩) hl.1 rfl (Nat.le_of_ble_eq_true rfl) dX5_digest_222 (fun r_33 s_36 H locs hq hP hD hS => ?_)
                                obtain ⟨hrr_33, ⟨J_35, hM⟩, hf_34⟩ := hq
                                have hf := hf.tr hf_34
                                refine lv_i2l (v := r_33.toInt64) hx hb dX5_digest_225 rfl ?_
                                refine lv_ladd hx hb dX5_digest_226 ?_
                                refine lv_topl (fun x1_227 ex1_227 => ?_)
                                refine lv_lstore_n (lv' := [(1, .long x1_227), (4, .int (nI 8)), (0, .ref (ad b))]) hx hb dX5_digest_227 rfl hl (by decide) rfl (fun ls hl => ?_)
                                refine lv_ldc2 (v := 31) hx hb hown (hts (.constantLong RX5 175 31) (by decide +kernel)) dX5_digest_228 ?_
                                refine lv_ldc2 (v := 31) hx hb hown (hts (.constantLong RX5 175 31) (by decide +kernel)) dX5_digest_231 ?_
                                refine lv_ldc2 (v := 31) hx hb hown (hts (.constantLong RX5 175 31) (by decide +kernel)) dX5_digest_234 ?_
                                refine lv_lload_n hx hb dX5_digest_237 rfl (lv_at hl 0 rfl) ?_
                                refine lv_lmul hx hb dX5_digest_238 ?_
                                refine lv_aload_n hx hb dX5_digest_239 rfl (lv_at hl 2 rfl) ?_
                                refine lv_bipush (v := 14) hx hb dX5_digest_240 (by decide) ?_
                                refine lv_iconst (v := 2) hx hb dX5_digest_242 (by decide) ?_
                                refine lv_bipush (v := 20) hx hb dX5_digest_243 (by decide) ?_
                                refine nVi (As := [.int 14, .int 2, .int 20]) (rest := _) hx hb hml hown hts hP hK hD hZ hA hS ⟨Nat.zero_le _, Nat.zero_le _⟩ hM.1 rfl (m_byBar l E ad s_36 b N P kp C n 0 J_35 hkp hn hO (hM.eq (all14 rfl rfl rfl rfl rfl rfl rfl rfl rfl rfl rfl rfl rfl rfl)) 14 2 20 (by omega) (by omega) (by decide)) (cwV 3 hts gX5_digest_X5_byBar rfl rfl rfl (by decide +kernel) ⟨Nat.le_of_ble_eq_true rfl, Nat.le_of_ble_eq_true rfl⟩) hl.1 rfl (Nat.le_of_ble_eq_true rfl) dX5_digest_245 (fun r_37 s_40 H locs hq hP hD hS => ?_)
                                obtain ⟨hrr_37, ⟨J_39, hM⟩, hf_38⟩ := hq
                                have hf := hf.tr hf_38
                                refine lv_i2l (v := r_37.toInt64) hx hb dX5_digest_248 rfl ?_
                                refine lv_ladd hx hb dX5_digest_249 ?_
                                refine lv_lmul hx hb dX5_digest_250 ?_
                                refine lv_aload_n hx hb dX5_digest_251 rfl (lv_at hl 2 rfl) ?_
                                refine lv_bipush (v := 20) hx hb dX5_digest_252 (by decide) ?_
                                refine lv_iconst (v := 0) hx hb dX5_digest_254 (by decide) ?_
                                refine lv_bipush (v := 30) hx hb dX5_digest_255 (by decide) ?_
                                refine nVi (As := [.int 20, .int 0, .int 30]) (rest := _) hx hb hml hown hts hP hK hD hZ hA hS ⟨Nat.zero_le _, Nat.zero_le _⟩ hM.1 rfl (m_best l E ad s_40 b N P kp C n 0 J_39 hkp hn hO (hM.eq (all14 rfl rfl rfl rfl rfl rfl rfl rfl rfl rfl rfl rfl rfl rfl)) 20 0 30 (by omega) (by omega) (by decide)) (cwV 3 hts gX5_digest_X5_best rfl rfl rfl (by decide +kernel) ⟨Nat.le_of_ble_eq_true rfl, Nat.le_of_ble_eq_true rfl⟩) hl.1 rfl (Nat.le_of_ble_eq_true rfl) dX5_digest_257 (fun r_41 s_44 H locs hq hP hD hS => ?_)
                                obtain ⟨hrr_41, ⟨J_43, hM⟩, hf_42⟩ := hq
                                have hf := hf.tr hf_42
                                refine lv_i2l (v := r_41.toInt64) hx hb dX5_digest_260 rfl ?_
                                refine lv_ladd hx hb dX5_digest_261 ?_
                                refine lv_lmul hx hb dX5_digest_262 ?_
                                refine lv_aload_n hx hb dX5_digest_263 rfl (lv_at hl 2 rfl) ?_
                                refine lv_bipush (v := 7) hx hb dX5_digest_264 (by decide) ?_
                                refine nVi (As := [.int 7]) (rest := _) hx hb hml hown hts hP hK hD hZ hA hS ⟨Nat.zero_le _, Nat.zero_le _⟩ hM.1 rfl (m_least l E ad s_44 b N P kp C n 0 J_43 hkp hn hO (hM.eq (all14 rfl rfl rfl rfl rfl rfl rfl rfl rfl rfl rfl rfl rfl rfl)) 7 (by omega)) (cwV 1 hts gX5_digest_X5_least rfl rfl rfl (by decide +kernel) ⟨Nat.le_of_ble_eq_true rfl, Nat.le_of_ble_eq_true rfl⟩) hl.1 rfl (Nat.le_of_ble_eq_true rfl) dX5_digest_266 (fun r_45 s_48 H locs hq hP hD hS => ?_)
                                obtain ⟨hrr_45, ⟨J_47, hM⟩, hf_46⟩ := hq
                                have hf := hf.tr hf_46
                                refine lv_i2l (v := r_45.toInt64) hx hb dX5_digest_269 rfl ?_
                                refine lv_ladd hx hb dX5_digest_270 ?_
                                refine lv_topl (fun x1_271 ex1_271 => ?_)
                                refine lv_lstore_n (lv' := [(1, .long x1_271), (4, .int (nI 8)), (0, .ref (ad b))]) hx hb dX5_digest_271 rfl hl (by decide) rfl (fun ls hl => ?_)
                                refine lv_ldc2 (v := 31) hx hb hown (hts (.constantLong RX5 175 31) (by decide +kernel)) dX5_digest_272 ?_
                                refine lv_ldc2 (v := 31) hx hb hown (hts (.constantLong RX5 175 31) (by decide +kernel)) dX5_digest_275 ?_
                                refine lv_lload_n hx hb dX5_digest_278 rfl (lv_at hl 0 rfl) ?_
                                refine lv_lmul hx hb dX5_digest_279 ?_
                                refine lv_aload_n hx hb dX5_digest_280 rfl (lv_at hl 2 rfl) ?_
                                refine nVd (As := []) (rest := _) hx hb hml hown hts hP hK hD hZ hA hS ⟨Nat.zero_le _, Nat.zero_le _⟩ hM.1 rfl (m_share l E ad s_48 b N P kp C n 0 J_47 hkp hn hO (hM.eq (all14 rfl rfl rfl rfl rfl rfl rfl rfl rfl rfl rfl rfl rfl rfl)) ) (cwV 0 hts gX5_digest_X5_share rfl rfl rfl (by decide +kernel) ⟨Nat.le_of_ble_eq_true rfl, Nat.le_of_ble_eq_true rfl⟩) hl.1 rfl (Nat.le_of_ble_eq_true rfl) dX5_digest_281 (fun r_49 s_52 H locs hq hP hD hS => ?_)
                                obtain ⟨hrr_49, ⟨J_51, hM⟩, hf_50⟩ := hq
                                have hf := hf.tr hf_50
                                refine nS_l (As := [.double r_49]) (rest := _) hx hb hml hown hts hP hK hD hZ hA hS ⟨Nat.zero_le _, Nat.zero_le _⟩ (j_bits l E ad s_52 r_49 (by rw [hrr_49]; exact obV_cmp)) (va_cwS 1 hts gX5_digest_Jxe99ae_doubleToLongBits_ccdee rfl rfl rfl (by decide +kernel) ⟨Nat.le_of_ble_eq_true rfl, Nat.le_of_ble_eq_true rfl⟩) hl.1 rfl (Nat.le_of_ble_eq_true rfl) dX5_digest_284 (fun r_53 s_54 H locs hq hP hD hS => ?_)
                                obtain ⟨hrr_53, rfl⟩ := hq
                                rw [hrr_49] at hrr_53
                                refine lv_ladd hx hb dX5_digest_287 ?_
                                refine lv_lmul hx hb dX5_digest_288 ?_
                                refine lv_aload_n hx hb dX5_digest_289 rfl (lv_at hl 2 rfl) ?_
                                refine rg (v := .int (nI n)) (T := TX5) (N := 14) (C := RX5) hx hb hts hinX5 hown hK hP hM rfl 5 (by decide) (hts (.fieldLink RX5 110 "NeedleGridModel" "typed" "I") (by decide +kernel)) rfl dX5_digest_290 ?_
                                refine lv_i2l (v := (nI n).toInt64) hx hb dX5_digest_293 rfl ?_
                                refine lv_ladd hx hb dX5_digest_294 ?_
                                refine lv_topl (fun x1_295 ex1_295 => ?_)
                                refine lv_lstore_n (lv' := [(1, .long x1_295), (4, .int (nI 8)), (0, .ref (ad b))]) hx hb dX5_digest_295 rfl hl (by decide) rfl (fun ls hl => ?_)
                                obtain ⟨h0, hh0⟩ : ∃ h0, h0 = mx (mx (hd3 N (hd2 N (hd1 N kp))) (obV N).toInt64) (nI n).toInt64 := ⟨_, rfl⟩
                                have hv0 : x1_295 = h0 := by rw [ex1_295, ex1_271, ex1_227, ex1_184, hrr_21, hrr_25, hrr_29, hrr_33, hrr_37, hrr_41, hrr_45, hrr_53, hh0]; unfold hd3 hd2 hd1 mx; rw [show (288 : Nat) = 8 * 36 from rfl, hsC_flat, hsB_flat, hM9]
                                skip
                                rw [hv0] at hl
                                refine lv_iconst (v := 0) hx hb dX5_digest_296 (by decide) ?_
                                refine lv_istore (lv' := [(4, .int 0), (1, .long h0), (0, .ref (ad b))]) hx hb dX5_digest_297 hl (by decide) rfl (fun ls hl => ?_)
                                have LP_55 : ∀ (k9 x : Nat), x ≤ n → n - x < k9 → ∀ (sL_56 : NW) (H : Heap) (locs : List Loc) (ls : Array Slot) (Jf : Nat → Nat → Int32), isR E ad sL_56 b sM ((mG N P kp C n 0 Jf)) → fr b st sL_56 → nP E ad sL_56 H → nD A ad sL_56 → va_S A s.heap H locs → lv_has ls 5 [(1, .long (hsI C h0 x)), (4, .int (nI x)), (0, .ref (ad b))] → W pg l en (nRm 9 213) s mi ar bw mth cd H locs 0 0 Q (F0 mi 299 ls []) := by
                                  intro k9
                                  induction k9 with
                                  | zero => intro x _ h9; exact absurd h9 (Nat.not_lt_zero _)
                                  | succ k9 ih299 =>
                                    intro x hi hk9 sL_56 H locs ls Jf hM hf hP hD hS hl
                                    refine lv_iload hx hb dX5_digest_299 (lv_at hl 1 rfl) ?_
                                    refine lv_aload_n hx hb dX5_digest_301 rfl (lv_at hl 2 rfl) ?_
                                    refine rg (v := .int (nI n)) (T := TX5) (N := 14) (C := RX5) hx hb hts hinX5 hown hK hP hM rfl 5 (by decide) (hts (.fieldLink RX5 110 "NeedleGridModel" "typed" "I") (by decide +kernel)) rfl dX5_digest_302 ?_
                                    refine lv_icmp_ge (tgt := 329) hx hb dX5_digest_305 (by decide) (fun c305_56 => ?_) (fun c305_56 => ?_)
                                    · have h36 : n ≤ x := (nI_leI (by omega) (by omega)).mp c305_56
                                      obtain rfl : n = x := by omega
                                      refine lv_lload_n hx hb dX5_digest_329 rfl (lv_at hl 0 rfl) ?_
                                      exact hret _ _ _ _ _ _ hP hD hS (⟨by rw [hh0]; rfl, ⟨Jf, hM.eq (all14 rfl rfl rfl rfl rfl rfl rfl rfl rfl rfl rfl rfl rfl rfl)⟩, hf⟩) dX5_digest_330
                                    · have hlt299 : x < n := by have := mt (nI_leI (a := n) (b := x) (by omega) (by omega)).mpr c305_56; omega
                                      refine lv_ldc2 (v := 31) hx hb hown (hts (.constantLong RX5 175 31) (by decide +kernel)) dX5_digest_308 ?_
                                      refine lv_lload_n hx hb dX5_digest_311 rfl (lv_at hl 0 rfl) ?_
                                      refine lv_lmul hx hb dX5_digest_312 ?_
                                      refine lv_aload_n hx hb dX5_digest_313 rfl (lv_at hl 2 rfl) ?_
                                      refine rg (v := .ref (ad (b + 1 + 4))) (T := TX5) (N := 14) (C := RX5) hx hb hts hinX5 hown hK hP hM rfl 4 (by decide) (hts (.fieldLink RX5 19 "NeedleGridModel" "text" "[I") (by decide +kernel)) rfl dX5_digest_314 ?_
                                      refine lv_iload hx hb dX5_digest_317 (lv_at hl 1 rfl) ?_
                                      refine ra (j := x) (n := 60) hx hb hK hP hM 4 rfl (by omega) (by decide) dX5_digest_319 ?_
                                      refine lv_i2l (v := (C x).toInt64) hx hb dX5_digest_320 rfl ?_
                                      refine lv_ladd hx hb dX5_digest_321 ?_
                                      refine lv_topl (fun x1_322 ex1_322 => ?_)
                                      refine lv_lstore_n (lv' := [(1, .long x1_322), (4, .int (nI x)), (0, .ref (ad b))]) hx hb dX5_digest_322 rfl hl (by decide) rfl (fun ls hl => ?_)
                                      refine lv_iinc (v := nI (x + 1)) (lv' := [(4, .int (nI (x + 1))), (1, .long x1_322), (0, .ref (ad b))]) hx hb dX5_digest_323 hl (k := 1) rfl (nI_1 _) (by decide) rfl (fun ls hl => ?_)
                                      refine lv_goto (tgt := 299) hx hb dX5_digest_326 (by decide) ?_
                                      exact ih299 (x + 1) (by omega) (by omega) _ _ _ _ Jf (hM.eq (all14 rfl rfl rfl rfl rfl rfl rfl rfl rfl rfl rfl rfl rfl rfl)) hf hP hD hS (by rw [show hsI C h0 (x + 1) = x1_322 from by rw [ex1_322]; rfl]; exact lv_sub hl [1, 0, 2] rfl)
                                exact LP_55 (n + 1) 0 (Nat.zero_le _) (by omega) _ _ _ _ J_51 (hM.eq (all14 rfl rfl rfl rfl rfl rfl rfl rfl rfl rfl rfl rfl rfl rfl)) hf hP hD hS (lv_sub hl [1, 0, 2] rfl)
                              · have hlt146 : z < 8 := by have := mt (nI_geL (n := 8) (i := z) rfl (by decide) (by omega)).mpr c150_19; omega
                                refine lv_ldc2 (v := 31) hx hb hown (hts (.constantLong RX5 175 31) (by decide +kernel)) dX5_digest_153 ?_
                                refine lv_lload_n hx hb dX5_digest_156 rfl (lv_at hl 0 rfl) ?_
                                refine lv_lmul hx hb dX5_digest_157 ?_
                                refine lv_aload_n hx hb dX5_digest_158 rfl (lv_at hl 2 rfl) ?_
                                refine lv_iload hx hb dX5_digest_159 (lv_at hl 1 rfl) ?_
                                refine nVi (As := [.int (nI z)]) (rest := _) hx hb hml hown hts hP hK hD hZ hA hS ⟨Nat.zero_le _, Nat.zero_le _⟩ hM.1 rfl (m_towards l E ad sL_19 b N P kp C n 0 Je hkp hn hO (hM.eq (all14 rfl rfl rfl rfl rfl rfl rfl rfl rfl rfl rfl rfl rfl rfl)) z (by omega)) (cwV 1 hts gX5_digest_X5_towards rfl rfl rfl (by decide +kernel) ⟨Nat.le_of_ble_eq_true rfl, Nat.le_of_ble_eq_true rfl⟩) hl.1 rfl (Nat.le_of_ble_eq_true rfl) dX5_digest_161 (fun r_59 s_62 H locs hq hP hD hS => ?_)
                                obtain ⟨hrr_59, ⟨J_61, hM⟩, hf_60⟩ := hq
                                have hf := hf.tr hf_60
                                refine lv_i2l (v := r_59.toInt64) hx hb dX5_digest_164 rfl ?_
                                refine lv_ladd hx hb dX5_digest_165 ?_
                                refine lv_topl (fun x1_166 ex1_166 => ?_)
                                refine lv_lstore_n (lv' := [(1, .long x1_166), (4, .int (nI z)), (0, .ref (ad b))]) hx hb dX5_digest_166 rfl hl (by decide) rfl (fun ls hl => ?_)
                                refine lv_iinc (v := nI (z + 1)) (lv' := [(4, .int (nI (z + 1))), (1, .long x1_166), (0, .ref (ad b))]) hx hb dX5_digest_167 hl (k := 1) rfl (nI_1 _) (by decide) rfl (fun ls hl => ?_)
                                refine lv_goto (tgt := 146) hx hb dX5_digest_170 (by decide) ?_
                                exact ih146 (z + 1) (by omega) (by omega) _ _ _ _ J_61 (hM.eq (all14 rfl rfl rfl rfl rfl rfl rfl rfl rfl rfl rfl rfl rfl rfl)) hf hP hD hS (by rw [show hsI (pntA N) (hsI (bK N) (hsI (cK N) (hsI N (hsI (cntA N kp) 3167 9) 3) 288) (3 * M)) (z + 1) = x1_166 from by rw [ex1_166, hrr_59]; exact rfl]; exact lv_sub hl [1, 0, 2] rfl)
                          exact LP_18 (8 + 1) 0 (Nat.zero_le _) (by omega) _ _ _ _ Jd (hM.eq (all14 rfl rfl rfl rfl rfl rfl rfl rfl rfl rfl rfl rfl rfl rfl)) hf hP hD hS (lv_sub hl [1, 0, 3] rfl)
                        · have hlt109 : y < (3 * M) := by have := mt (nI_leI (a := (3 * M)) (b := y) (by omega) (by omega)).mpr c114_16; omega
                          refine lv_ldc2 (v := 31) hx hb hown (hts (.constantLong RX5 175 31) (by decide +kernel)) dX5_digest_117 ?_
                          refine lv_lload_n hx hb dX5_digest_120 rfl (lv_at hl 0 rfl) ?_
                          refine lv_lmul hx hb dX5_digest_121 ?_
                          refine lv_aload_n hx hb dX5_digest_122 rfl (lv_at hl 3 rfl) ?_
                          refine lv_iload hx hb dX5_digest_123 (lv_at hl 1 rfl) ?_
                          refine lv_iconst (v := 3) hx hb dX5_digest_125 (by decide) ?_
                          refine lv_idiv hx hb dX5_digest_126 (by decide) ?_
                          rw [show nI y / 3 = nI (y / 3) from pk_div (d := 3) (by omega) (by decide) (by decide)]
                          refine lv_iload hx hb dX5_digest_127 (lv_at hl 1 rfl) ?_
                          refine lv_iconst (v := 3) hx hb dX5_digest_129 (by decide) ?_
                          refine lv_irem hx hb dX5_digest_130 (by decide) ?_
                          rw [show nI y - nI y / 3 * 3 = nI (y % 3) from pk_rem (d := 3) (by omega) (by decide) (by decide)]
                          refine nVi (As := [.int (nI (y / 3)), .int (nI (y % 3))]) (rest := _) hx hb hml hown hts hP hK hD hZ hA hS ⟨Nat.zero_le _, Nat.zero_le _⟩ hM.1 rfl (m_ofBar l E ad sL_16 b N P kp C n 0 Jd hkp hn hO (hM.eq (all14 rfl rfl rfl rfl rfl rfl rfl rfl rfl rfl rfl rfl rfl rfl)) (nI (y / 3)) (y % 3) (by omega)) (cwV 2 hts gX5_digest_X5_ofBar rfl rfl rfl (by decide +kernel) ⟨Nat.le_of_ble_eq_true rfl, Nat.le_of_ble_eq_true rfl⟩) hl.1 rfl (Nat.le_of_ble_eq_true rfl) dX5_digest_131 (fun r_64 s_67 H locs hq hP hD hS => ?_)
                          obtain ⟨hrr_64, ⟨J_66, hM⟩, hf_65⟩ := hq
                          have hf := hf.tr hf_65
                          refine lv_i2l (v := r_64.toInt64) hx hb dX5_digest_134 rfl ?_
                          refine lv_ladd hx hb dX5_digest_135 ?_
                          refine lv_topl (fun x1_136 ex1_136 => ?_)
                          refine lv_lstore_n (lv' := [(1, .long x1_136), (4, .int (nI y)), (3, .int (nI M)), (0, .ref (ad b))]) hx hb dX5_digest_136 rfl hl (by decide) rfl (fun ls hl => ?_)
                          refine lv_iinc (v := nI (y + 1)) (lv' := [(4, .int (nI (y + 1))), (1, .long x1_136), (3, .int (nI M)), (0, .ref (ad b))]) hx hb dX5_digest_137 hl (k := 1) rfl (nI_1 _) (by decide) rfl (fun ls hl => ?_)
                          refine lv_goto (tgt := 109) hx hb dX5_digest_140 (by decide) ?_
                          exact ih109 (y + 1) (by omega) (by omega) _ _ _ _ J_66 (hM.eq (all14 rfl rfl rfl rfl rfl rfl rfl rfl rfl rfl rfl rfl rfl rfl)) hf hP hD hS (by rw [show hsI (bK N) (hsI (cK N) (hsI N (hsI (cntA N kp) 3167 9) 3) 288) (y + 1) = x1_136 from by rw [ex1_136, hrr_64]; exact rfl]; exact lv_sub hl [1, 0, 2, 3] rfl)
                    exact LP_15 ((3 * M) + 1) 0 (Nat.zero_le _) (by omega) _ _ _ _ Jc (hM.eq (all14 rfl rfl rfl rfl rfl rfl rfl rfl rfl rfl rfl rfl rfl rfl)) hf hP hD hS (lv_sub hl [2, 0, 1, 3] rfl)
                  · have hlt65 : q < 288 := by have := mt (nI_geL (n := 288) (i := q) rfl (by decide) (by omega)).mpr c69_10; omega
                    refine lv_ldc2 (v := 31) hx hb hown (hts (.constantLong RX5 175 31) (by decide +kernel)) dX5_digest_72 ?_
                    refine lv_lload_n hx hb dX5_digest_75 rfl (lv_at hl 0 rfl) ?_
                    refine lv_lmul hx hb dX5_digest_76 ?_
                    refine lv_aload_n hx hb dX5_digest_77 rfl (lv_at hl 2 rfl) ?_
                    refine lv_iload_n hx hb dX5_digest_78 rfl (lv_at hl 1 rfl) ?_
                    refine lv_bipush (v := 8) hx hb dX5_digest_79 (by decide) ?_
                    refine lv_idiv hx hb dX5_digest_81 (by decide) ?_
                    rw [show nI q / 8 = nI (q / 8) from pk_div (d := 8) (by omega) (by decide) (by decide)]
                    refine lv_iload_n hx hb dX5_digest_82 rfl (lv_at hl 1 rfl) ?_
                    refine lv_bipush (v := 8) hx hb dX5_digest_83 (by decide) ?_
                    refine lv_irem hx hb dX5_digest_85 (by decide) ?_
                    rw [show nI q - nI q / 8 * 8 = nI (q % 8) from pk_rem (d := 8) (by omega) (by decide) (by decide)]
                    refine nVi (As := [.int (nI (q / 8)), .int (nI (q % 8))]) (rest := _) hx hb hml hown hts hP hK hD hZ hA hS ⟨Nat.zero_le _, Nat.zero_le _⟩ hM.1 rfl (m_ofCell l E ad sL_10 b N P kp C n 0 Jc hkp hn hO (hM.eq (all14 rfl rfl rfl rfl rfl rfl rfl rfl rfl rfl rfl rfl rfl rfl)) (q / 8) (q % 8) (by omega) (by omega)) (cwV 2 hts gX5_digest_X5_ofCell rfl rfl rfl (by decide +kernel) ⟨Nat.le_of_ble_eq_true rfl, Nat.le_of_ble_eq_true rfl⟩) hl.1 rfl (Nat.le_of_ble_eq_true rfl) dX5_digest_86 (fun r_69 s_72 H locs hq hP hD hS => ?_)
                    obtain ⟨hrr_69, ⟨J_71, hM⟩, hf_70⟩ := hq
                    have hf := hf.tr hf_70
                    refine lv_i2l (v := r_69.toInt64) hx hb dX5_digest_89 rfl ?_
                    refine lv_ladd hx hb dX5_digest_90 ?_
                    refine lv_topl (fun x1_91 ex1_91 => ?_)
                    refine lv_lstore_n (lv' := [(1, .long x1_91), (3, .int (nI q)), (0, .ref (ad b))]) hx hb dX5_digest_91 rfl hl (by decide) rfl (fun ls hl => ?_)
                    refine lv_iinc (v := nI (q + 1)) (lv' := [(3, .int (nI (q + 1))), (1, .long x1_91), (0, .ref (ad b))]) hx hb dX5_digest_92 hl (k := 1) rfl (nI_1 _) (by decide) rfl (fun ls hl => ?_)
                    refine lv_goto (tgt := 65) hx hb dX5_digest_95 (by decide) ?_
                    exact ih65 (q + 1) (by omega) (by omega) _ _ _ _ J_71 (hM.eq (all14 rfl rfl rfl rfl rfl rfl rfl rfl rfl rfl rfl rfl rfl rfl)) hf hP hD hS (by rw [show hsI (cK N) (hsI N (hsI (cntA N kp) 3167 9) 3) (q + 1) = x1_91 from by rw [ex1_91, hrr_69]; exact rfl]; exact lv_sub hl [1, 0, 2] rfl)
              exact LP_9 (288 + 1) 0 (Nat.zero_le _) (by omega) _ _ _ _ Jb (hM.eq (all14 rfl rfl rfl rfl rfl rfl rfl rfl rfl rfl rfl rfl rfl rfl)) hf hP hD hS (lv_sub hl [1, 0, 2] rfl)
            · have hlt38 : j < 3 := by have := mt (nI_geL (n := 3) (i := j) rfl (by decide) (by omega)).mpr c40_7; omega
              refine lv_ldc2 (v := 31) hx hb hown (hts (.constantLong RX5 175 31) (by decide +kernel)) dX5_digest_43 ?_
              refine lv_lload_n hx hb dX5_digest_46 rfl (lv_at hl 0 rfl) ?_
              refine lv_lmul hx hb dX5_digest_47 ?_
              refine lv_aload_n hx hb dX5_digest_48 rfl (lv_at hl 2 rfl) ?_
              refine rg (v := .ref (ad (b + 1 + 0))) (T := TX5) (N := 14) (C := RX5) hx hb hts hinX5 hown hK hP hM rfl 0 (by decide) (hts (.fieldLink RX5 7 "NeedleGridModel" "now" "[I") (by decide +kernel)) rfl dX5_digest_49 ?_
              refine lv_iload_n hx hb dX5_digest_52 rfl (lv_at hl 1 rfl) ?_
              refine ra (j := j) (n := 186) hx hb hK hP hM 0 rfl (by omega) (by decide) dX5_digest_53 ?_
              refine lv_i2l (v := (N j).toInt64) hx hb dX5_digest_54 rfl ?_
              refine lv_ladd hx hb dX5_digest_55 ?_
              refine lv_topl (fun x1_56 ex1_56 => ?_)
              refine lv_lstore_n (lv' := [(1, .long x1_56), (3, .int (nI j)), (0, .ref (ad b))]) hx hb dX5_digest_56 rfl hl (by decide) rfl (fun ls hl => ?_)
              refine lv_iinc (v := nI (j + 1)) (lv' := [(3, .int (nI (j + 1))), (1, .long x1_56), (0, .ref (ad b))]) hx hb dX5_digest_57 hl (k := 1) rfl (nI_1 _) (by decide) rfl (fun ls hl => ?_)
              refine lv_goto (tgt := 38) hx hb dX5_digest_60 (by decide) ?_
              exact ih38 (j + 1) (by omega) (by omega) _ _ _ _ Jb (hM.eq (all14 rfl rfl rfl rfl rfl rfl rfl rfl rfl rfl rfl rfl rfl rfl)) hf hP hD hS (by rw [show hsI N (hsI (cntA N kp) 3167 9) (j + 1) = x1_56 from by rw [ex1_56]; rfl]; exact lv_sub hl [1, 0, 2] rfl)
        exact LP_6 (3 + 1) 0 (Nat.zero_le _) (by omega) _ _ _ _ Ja (hM.eq (all14 rfl rfl rfl rfl rfl rfl rfl rfl rfl rfl rfl rfl rfl rfl)) hf hP hD hS (lv_sub hl [1, 0, 2] rfl)
      · have hlt11 : i < 9 := by have := mt (nI_geL (n := 9) (i := i) rfl (by decide) (by omega)).mpr c14_4; omega
        refine lv_ldc2 (v := 31) hx hb hown (hts (.constantLong RX5 175 31) (by decide +kernel)) dX5_digest_17 ?_
        refine lv_lload_n hx hb dX5_digest_20 rfl (lv_at hl 0 rfl) ?_
        refine lv_lmul hx hb dX5_digest_21 ?_
        refine lv_aload_n hx hb dX5_digest_22 rfl (lv_at hl 2 rfl) ?_
        refine lv_iload_n hx hb dX5_digest_23 rfl (lv_at hl 1 rfl) ?_
        refine nVi (As := [.int (nI i)]) (rest := _) hx hb hml hown hts hP hK hD hZ hA hS ⟨Nat.zero_le _, Nat.zero_le _⟩ hM.1 rfl (m_counted l E ad sL_4 b N P kp C n 0 Ja hkp hn hO (hM.eq (all14 rfl rfl rfl rfl rfl rfl rfl rfl rfl rfl rfl rfl rfl rfl)) i (by omega)) (cwV 1 hts gX5_digest_X5_counted rfl rfl rfl (by decide +kernel) ⟨Nat.le_of_ble_eq_true rfl, Nat.le_of_ble_eq_true rfl⟩) hl.1 rfl (Nat.le_of_ble_eq_true rfl) dX5_digest_24 (fun r_75 s_78 H locs hq hP hD hS => ?_)
        obtain ⟨hrr_75, ⟨J_77, hM⟩, hf_76⟩ := hq
        have hf := hf.tr hf_76
        refine lv_i2l (v := r_75.toInt64) hx hb dX5_digest_27 rfl ?_
        refine lv_ladd hx hb dX5_digest_28 ?_
        refine lv_topl (fun x1_29 ex1_29 => ?_)
        refine lv_lstore_n (lv' := [(1, .long x1_29), (3, .int (nI i)), (0, .ref (ad b))]) hx hb dX5_digest_29 rfl hl (by decide) rfl (fun ls hl => ?_)
        refine lv_iinc (v := nI (i + 1)) (lv' := [(3, .int (nI (i + 1))), (1, .long x1_29), (0, .ref (ad b))]) hx hb dX5_digest_30 hl (k := 1) rfl (nI_1 _) (by decide) rfl (fun ls hl => ?_)
        refine lv_goto (tgt := 11) hx hb dX5_digest_33 (by decide) ?_
        exact ih11 (i + 1) (by omega) (by omega) _ _ _ _ J_77 (hM.eq (all14 rfl rfl rfl rfl rfl rfl rfl rfl rfl rfl rfl rfl rfl rfl)) hf hP hD hS (by rw [show hsI (cntA N kp) 3167 (i + 1) = x1_29 from by rw [ex1_29, hrr_75]; exact rfl]; exact lv_sub hl [1, 0, 2] rfl)
  exact LP_3 (9 + 1) 0 (Nat.zero_le _) (by omega) _ _ _ _ J (hM.eq (all14 rfl rfl rfl rfl rfl rfl rfl rfl rfl rfl rfl rfl rfl rfl)) hf hP hD hS (lv_sub hl [1, 0, 2] rfl)

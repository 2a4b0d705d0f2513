set_option maxHeartbeats 4000000 in
set_option maxRecDepth 100000 in
theorem c_copyFrom (l : Launch) (E : NE) (ad : Nat → Nat) (st : NW) (b b2 : Nat) (hsep : b2 + 16 ≤ b ∨ b + 16 ≤ b2) (G G2 : Nat → Nat → Int32) (hR : isR E ad st b sG G) (hR2 : isR E ad st b2 sG G2) (hz : ∀ k, k < 36 → G2 2 k = 0 ∨ G2 2 k = 1) : nMv l yX2_copyFrom wsX2_copyFrom (nRm 0 0) E ad st [.ref (ad b), .ref (ad b2)] (fun s1 => isR E ad s1 b sG G2 ∧ fr b st s1) := by
  refine nSv (cc := cX2_copyFrom) (maxL := 3) (by decide) rfl (Nat.le_of_ble_eq_true rfl) ?_
  intro pg en s mi ar bw mth cd R Q A ls hx hb hml hown hts hRm hP hK hD hZ hA hl hret
  subst hRm
  have hown : s.vm.findClass RX2 = some mi.cls := hown
  have hS : va_S A s.heap s.heap [] := va_S.rf
  have hl : lv_has ls 3 [(0, .ref (ad b)), (1, .ref (ad b2))] := hl
  have hf : fr b st st := fr.rf
  have hinX2 : ∀ w ∈ wsX20, w ∈ wsX2_copyFrom := by decide +kernel
  refine lv_iconst (v := 0) hx hb dX2_copyFrom_0 (by decide) ?_
  refine lv_istore_n (lv' := [(2, .int 0), (0, .ref (ad b)), (1, .ref (ad b2))]) hx hb dX2_copyFrom_1 rfl hl (by decide) rfl (fun ls hl => ?_)
  have LP_1 : ∀ (k9 i : Nat), i ≤ 36 → 36 - i < k9 → ∀ (sL_2 : NW) (H : Heap) (locs : List Loc) (ls : Array Slot), isR E ad sL_2 b sG (gu (gu (gu (gu (gu (gu (gu (gu (gu G 0 (fil (G2 0) (G 0) i)) 1 (fil (G2 1) (G 1) i)) 2 (fil (G2 2) (G 2) i)) 3 (fil (G2 3) (G 3) i)) 4 (fil (G2 4) (G 4) i)) 9 (fil (G2 9) (G 9) i)) 10 (fil (G2 10) (G 10) i)) 11 (fil (G2 11) (G 11) i)) 12 (fil (G2 12) (G 12) i)) → isR E ad sL_2 b2 sG (G2) → fr b st sL_2 → nP E ad sL_2 H → nD A ad sL_2 → va_S A s.heap H locs → lv_has ls 3 [(2, .int (nI i)), (0, .ref (ad b)), (1, .ref (ad b2))] → W pg l en (nRm 0 0) s mi ar bw mth cd H locs 0 0 Q (F0 mi 2 ls []) := by
    intro k9
    induction k9 with
    | zero => intro i _ h9; exact absurd h9 (Nat.not_lt_zero _)
    | succ k9 ih2 =>
      intro i hi hk9 sL_2 H locs ls hR hR2 hf hP hD hS hl
      refine lv_iload_n hx hb dX2_copyFrom_2 rfl (lv_at hl 0 rfl) ?_
      refine lv_bipush (v := 36) hx hb dX2_copyFrom_3 (by decide) ?_
      refine lv_icmp_ge (tgt := 122) hx hb dX2_copyFrom_5 (by decide) (fun c5_2 => ?_) (fun c5_2 => ?_)
      · have h36 : 36 ≤ i := (nI_geL (n := 36) rfl (by decide) (by omega)).mp c5_2
        obtain rfl : i = 36 := by omega
        refine lv_iconst (v := 0) hx hb dX2_copyFrom_122 (by decide) ?_
        refine lv_istore_n (lv' := [(2, .int 0), (0, .ref (ad b)), (1, .ref (ad b2))]) hx hb dX2_copyFrom_123 rfl hl (by decide) rfl (fun ls hl => ?_)
        have LP_4 : ∀ (k9 j : Nat), j ≤ 3 → 3 - j < k9 → ∀ (sL_5 : NW) (H : Heap) (locs : List Loc) (ls : Array Slot), isR E ad sL_5 b sG (gu (gu (gu (gu (gu (gu (gu (gu (gu (gu G 0 (fil (G2 0) (G 0) 36)) 1 (fil (G2 1) (G 1) 36)) 2 (fil (G2 2) (G 2) 36)) 3 (fil (G2 3) (G 3) 36)) 4 (fil (G2 4) (G 4) 36)) 9 (fil (G2 9) (G 9) 36)) 10 (fil (G2 10) (G 10) 36)) 11 (fil (G2 11) (G 11) 36)) 12 (fil (G2 12) (G 12) 36)) 5 (fil (G2 5) (G 5) j)) → isR E ad sL_5 b2 sG (G2) → fr b st sL_5 → nP E ad sL_5 H → nD A ad sL_5 → va_S A s.heap H locs → lv_has ls 3 [(2, .int (nI j)), (0, .ref (ad b)), (1, .ref (ad b2))] → W pg l en (nRm 0 0) s mi ar bw mth cd H locs 0 0 Q (F0 mi 124 ls []) := by
          intro k9
          induction k9 with
          | zero => intro j _ h9; exact absurd h9 (Nat.not_lt_zero _)
          | succ k9 ih124 =>
            intro j hi hk9 sL_5 H locs ls hR hR2 hf hP hD hS hl
            refine lv_iload_n hx hb dX2_copyFrom_124 rfl (lv_at hl 0 rfl) ?_
            refine lv_iconst (v := 3) hx hb dX2_copyFrom_125 (by decide) ?_
            refine lv_icmp_ge (tgt := 147) hx hb dX2_copyFrom_126 (by decide) (fun c126_5 => ?_) (fun c126_5 => ?_)
            · have h36 : 3 ≤ j := (nI_geL (n := 3) rfl (by decide) (by omega)).mp c126_5
              obtain rfl : j = 3 := by omega
              refine lv_aload_n hx hb dX2_copyFrom_147 rfl (lv_at hl 1 rfl) ?_
              refine lv_aload_n hx hb dX2_copyFrom_148 rfl (lv_at hl 2 rfl) ?_
              refine rg (v := .int (G2 6 0)) (T := TX2) (N := 13) (C := RX2) hx hb hts hinX2 hown hK hP hR2 rfl 6 (by decide) (hts (.fieldLink RX2 46 "NeedleGrid$Grid" "turns" "I") (by decide +kernel)) rfl dX2_copyFrom_149 ?_
              refine rp (v := G2 6 0) (ty := .int) (T := TX2) (N := 13) (C := RX2) hx hb hts hinX2 tyX2 tyX2_ok nmX2 hown hK hP hD hS hR rfl 6 (by decide) (hts (.fieldLink RX2 46 "NeedleGrid$Grid" "turns" "I") (by decide +kernel)) rfl rfl (by decide +kernel) rfl rfl dX2_copyFrom_152 (fun s_7 H locs hR hf_8 hP hD hS => ?_)
              have hR2 := hR2.keep hf_8 hsep (by decide)
              have hf := hf.tr hf_8
              refine lv_aload_n hx hb dX2_copyFrom_155 rfl (lv_at hl 1 rfl) ?_
              refine lv_aload_n hx hb dX2_copyFrom_156 rfl (lv_at hl 2 rfl) ?_
              refine rg (v := .int (G2 7 0)) (T := TX2) (N := 13) (C := RX2) hx hb hts hinX2 hown hK hP hR2 rfl 7 (by decide) (hts (.fieldLink RX2 50 "NeedleGrid$Grid" "coilDirection" "I") (by decide +kernel)) rfl dX2_copyFrom_157 ?_
              refine rp (v := G2 7 0) (ty := .int) (T := TX2) (N := 13) (C := RX2) hx hb hts hinX2 tyX2 tyX2_ok nmX2 hown hK hP hD hS hR rfl 7 (by decide) (hts (.fieldLink RX2 50 "NeedleGrid$Grid" "coilDirection" "I") (by decide +kernel)) rfl rfl (by decide +kernel) rfl rfl dX2_copyFrom_160 (fun s_9 H locs hR hf_10 hP hD hS => ?_)
              have hR2 := hR2.keep hf_10 hsep (by decide)
              have hf := hf.tr hf_10
              refine lv_aload_n hx hb dX2_copyFrom_163 rfl (lv_at hl 1 rfl) ?_
              refine lv_aload_n hx hb dX2_copyFrom_164 rfl (lv_at hl 2 rfl) ?_
              refine rg (v := .int (G2 8 0)) (T := TX2) (N := 13) (C := RX2) hx hb hts hinX2 hown hK hP hR2 rfl 8 (by decide) (hts (.fieldLink RX2 53 "NeedleGrid$Grid" "stepsSoFar" "I") (by decide +kernel)) rfl dX2_copyFrom_165 ?_
              refine rp (v := G2 8 0) (ty := .int) (T := TX2) (N := 13) (C := RX2) hx hb hts hinX2 tyX2 tyX2_ok nmX2 hown hK hP hD hS hR rfl 8 (by decide) (hts (.fieldLink RX2 53 "NeedleGrid$Grid" "stepsSoFar" "I") (by decide +kernel)) rfl rfl (by decide +kernel) rfl rfl dX2_copyFrom_168 (fun s_11 H locs hR hf_12 hP hD hS => ?_)
              have hR2 := hR2.keep hf_12 hsep (by decide)
              have hf := hf.tr hf_12
              obtain ⟨s9, hR, hf9, hP, hD⟩ := isG_can hP hD hR (Y := G2) (fun j h => fil_in h) (fun j h => fil_in h) (fun j h => fil_in h) (fun j h => fil_in h) (fun j h => fil_in h) (fun j h => fil_in h) rfl rfl rfl (fun j h => fil_in h) (fun j h => fil_in h) (fun j h => fil_in h) (fun j h => fil_in h)
              exact hret _ _ _ _ _ hP hD hS (⟨hR, hf.tr hf9⟩) dX2_copyFrom_171
            · have hlt : j < 3 := by have := mt (nI_geL (n := 3) (i := j) rfl (by decide) (by omega)).mpr c126_5; omega
              refine lv_aload_n hx hb dX2_copyFrom_129 rfl (lv_at hl 1 rfl) ?_
              refine rg (v := .ref (ad (b + 1 + 5))) (T := TX2) (N := 13) (C := RX2) hx hb hts hinX2 hown hK hP hR rfl 5 (by decide) (hts (.fieldLink RX2 28 "NeedleGrid$Grid" "settings" "[I") (by decide +kernel)) rfl dX2_copyFrom_130 ?_
              refine lv_iload_n hx hb dX2_copyFrom_133 rfl (lv_at hl 0 rfl) ?_
              refine lv_aload_n hx hb dX2_copyFrom_134 rfl (lv_at hl 2 rfl) ?_
              refine rg (v := .ref (ad (b2 + 1 + 5))) (T := TX2) (N := 13) (C := RX2) hx hb hts hinX2 hown hK hP hR2 rfl 5 (by decide) (hts (.fieldLink RX2 28 "NeedleGrid$Grid" "settings" "[I") (by decide +kernel)) rfl dX2_copyFrom_135 ?_
              refine lv_iload_n hx hb dX2_copyFrom_138 rfl (lv_at hl 0 rfl) ?_
              refine ra (j := j) (n := 3) hx hb hK hP hR2 5 rfl (by omega) (by decide) dX2_copyFrom_139 ?_
              refine rs (j := j) (n := 3) (x := G2 5 j) hx hb hK hP hD hS hR 5 rfl (by decide) (by omega) (by decide) dX2_copyFrom_140 (fun s_13 H locs hR hf_14 hP hD hS => ?_)
              have hR2 := hR2.keep hf_14 hsep (by decide)
              have hf := hf.tr hf_14
              have hR : isR E ad s_13 b sG (gu (gu (gu (gu (gu (gu (gu (gu (gu (gu G 0 (fil (G2 0) (G 0) 36)) 1 (fil (G2 1) (G 1) 36)) 2 (fil (G2 2) (G 2) 36)) 3 (fil (G2 3) (G 3) 36)) 4 (fil (G2 4) (G 4) 36)) 9 (fil (G2 9) (G 9) 36)) 10 (fil (G2 10) (G 10) 36)) 11 (fil (G2 11) (G 11) 36)) 12 (fil (G2 12) (G 12) 36)) 5 (upd (fil (G2 5) (G 5) j) j (G2 5 j))) := hR.eq (all13 rfl rfl rfl rfl rfl rfl rfl rfl rfl rfl rfl rfl rfl)
              refine lv_iinc (v := nI (j + 1)) (lv' := [(2, .int (nI (j + 1))), (0, .ref (ad b)), (1, .ref (ad b2))]) hx hb dX2_copyFrom_141 hl (k := 0) rfl (nI_1 _) (by decide) rfl (fun ls hl => ?_)
              refine lv_goto (tgt := 124) hx hb dX2_copyFrom_144 (by decide) ?_
              exact ih124 (j + 1) (by omega) (by omega) _ _ _ _ (hR.eq (all13 rfl rfl rfl rfl rfl (fil_s (G2 5) (G 5) j) rfl rfl rfl rfl rfl rfl rfl)) hR2 hf hP hD hS (lv_sub hl [0, 1, 2] rfl)
        exact LP_4 (3 + 1) 0 (Nat.zero_le _) (by omega) _ _ _ _ (hR.eq (all13 rfl rfl rfl rfl rfl (fil_0 (G2 5) (G 5)).symm rfl rfl rfl rfl rfl rfl rfl)) hR2 hf hP hD hS (lv_sub hl [0, 1, 2] rfl)
      · have hlt : i < 36 := by have := mt (nI_geL (n := 36) (i := i) rfl (by decide) (by omega)).mpr c5_2; omega
        refine lv_aload_n hx hb dX2_copyFrom_8 rfl (lv_at hl 1 rfl) ?_
        refine rg (v := .ref (ad (b + 1 + 0))) (T := TX2) (N := 13) (C := RX2) hx hb hts hinX2 hown hK hP hR rfl 0 (by decide) (hts (.fieldLink RX2 9 "NeedleGrid$Grid" "directions" "[I") (by decide +kernel)) rfl dX2_copyFrom_9 ?_
        refine lv_iload_n hx hb dX2_copyFrom_12 rfl (lv_at hl 0 rfl) ?_
        refine lv_aload_n hx hb dX2_copyFrom_13 rfl (lv_at hl 2 rfl) ?_
        refine rg (v := .ref (ad (b2 + 1 + 0))) (T := TX2) (N := 13) (C := RX2) hx hb hts hinX2 hown hK hP hR2 rfl 0 (by decide) (hts (.fieldLink RX2 9 "NeedleGrid$Grid" "directions" "[I") (by decide +kernel)) rfl dX2_copyFrom_14 ?_
        refine lv_iload_n hx hb dX2_copyFrom_17 rfl (lv_at hl 0 rfl) ?_
        refine ra (j := i) (n := 36) hx hb hK hP hR2 0 rfl (by omega) (by decide) dX2_copyFrom_18 ?_
        refine rs (j := i) (n := 36) (x := G2 0 i) hx hb hK hP hD hS hR 0 rfl (by decide) (by omega) (by decide) dX2_copyFrom_19 (fun s_16 H locs hR hf_17 hP hD hS => ?_)
        have hR2 := hR2.keep hf_17 hsep (by decide)
        have hf := hf.tr hf_17
        have hR : isR E ad s_16 b sG (gu (gu (gu (gu (gu (gu (gu (gu (gu G 1 (fil (G2 1) (G 1) i)) 2 (fil (G2 2) (G 2) i)) 3 (fil (G2 3) (G 3) i)) 4 (fil (G2 4) (G 4) i)) 9 (fil (G2 9) (G 9) i)) 10 (fil (G2 10) (G 10) i)) 11 (fil (G2 11) (G 11) i)) 12 (fil (G2 12) (G 12) i)) 0 (upd (fil (G2 0) (G 0) i) i (G2 0 i))) := hR.eq (all13 rfl rfl rfl rfl rfl rfl rfl rfl rfl rfl rfl rfl rfl)
        refine lv_aload_n hx hb dX2_copyFrom_20 rfl (lv_at hl 1 rfl) ?_
        refine rg (v := .ref (ad (b + 1 + 1))) (T := TX2) (N := 13) (C := RX2) hx hb hts hinX2 hown hK hP hR rfl 1 (by decide) (hts (.fieldLink RX2 15 "NeedleGrid$Grid" "frictions" "[I") (by decide +kernel)) rfl dX2_copyFrom_21 ?_
        refine lv_iload_n hx hb dX2_copyFrom_24 rfl (lv_at hl 0 rfl) ?_
        refine lv_aload_n hx hb dX2_copyFrom_25 rfl (lv_at hl 2 rfl) ?_
        refine rg (v := .ref (ad (b2 + 1 + 1))) (T := TX2) (N := 13) (C := RX2) hx hb hts hinX2 hown hK hP hR2 rfl 1 (by decide) (hts (.fieldLink RX2 15 "NeedleGrid$Grid" "frictions" "[I") (by decide +kernel)) rfl dX2_copyFrom_26 ?_
        refine lv_iload_n hx hb dX2_copyFrom_29 rfl (lv_at hl 0 rfl) ?_
        refine ra (j := i) (n := 36) hx hb hK hP hR2 1 rfl (by omega) (by decide) dX2_copyFrom_30 ?_
        refine rs (j := i) (n := 36) (x := G2 1 i) hx hb hK hP hD hS hR 1 rfl (by decide) (by omega) (by decide) dX2_copyFrom_31 (fun s_18 H locs hR hf_19 hP hD hS => ?_)
        have hR2 := hR2.keep hf_19 hsep (by decide)
        have hf := hf.tr hf_19
        have hR : isR E ad s_18 b sG (gu (gu (gu (gu (gu (gu (gu (gu (gu G 2 (fil (G2 2) (G 2) i)) 3 (fil (G2 3) (G 3) i)) 4 (fil (G2 4) (G 4) i)) 9 (fil (G2 9) (G 9) i)) 10 (fil (G2 10) (G 10) i)) 11 (fil (G2 11) (G 11) i)) 12 (fil (G2 12) (G 12) i)) 0 (upd (fil (G2 0) (G 0) i) i (G2 0 i))) 1 (upd (fil (G2 1) (G 1) i) i (G2 1 i))) := hR.eq (all13 rfl rfl rfl rfl rfl rfl rfl rfl rfl rfl rfl rfl rfl)
        refine lv_aload_n hx hb dX2_copyFrom_32 rfl (lv_at hl 1 rfl) ?_
        refine rg (v := .ref (ad (b + 1 + 2))) (T := TX2) (N := 13) (C := RX2) hx hb hts hinX2 hown hK hP hR rfl 2 (by decide) (hts (.fieldLink RX2 18 "NeedleGrid$Grid" "held" "[Z") (by decide +kernel)) rfl dX2_copyFrom_33 ?_
        refine lv_iload_n hx hb dX2_copyFrom_36 rfl (lv_at hl 0 rfl) ?_
        refine lv_aload_n hx hb dX2_copyFrom_37 rfl (lv_at hl 2 rfl) ?_
        refine rg (v := .ref (ad (b2 + 1 + 2))) (T := TX2) (N := 13) (C := RX2) hx hb hts hinX2 hown hK hP hR2 rfl 2 (by decide) (hts (.fieldLink RX2 18 "NeedleGrid$Grid" "held" "[Z") (by decide +kernel)) rfl dX2_copyFrom_38 ?_
        refine lv_iload_n hx hb dX2_copyFrom_41 rfl (lv_at hl 0 rfl) ?_
        refine raZ (j := i) (n := 36) hx hb hK hP hR2 2 rfl (by omega) (by decide) dX2_copyFrom_42 ?_
        refine rsZ (j := i) (n := 36) (x := G2 2 i) hx hb hK hP hD hS hR 2 rfl (by decide) (by omega) (by decide) (hz i hlt) dX2_copyFrom_43 (fun s_20 H locs hR hf_21 hP hD hS => ?_)
        have hR2 := hR2.keep hf_21 hsep (by decide)
        have hf := hf.tr hf_21
        have hR : isR E ad s_20 b sG (gu (gu (gu (gu (gu (gu (gu (gu (gu G 3 (fil (G2 3) (G 3) i)) 4 (fil (G2 4) (G 4) i)) 9 (fil (G2 9) (G 9) i)) 10 (fil (G2 10) (G 10) i)) 11 (fil (G2 11) (G 11) i)) 12 (fil (G2 12) (G 12) i)) 0 (upd (fil (G2 0) (G 0) i) i (G2 0 i))) 1 (upd (fil (G2 1) (G 1) i) i (G2 1 i))) 2 (upd (fil (G2 2) (G 2) i) i (G2 2 i))) := hR.eq (all13 rfl rfl rfl rfl rfl rfl rfl rfl rfl rfl rfl rfl rfl)
        refine lv_aload_n hx hb dX2_copyFrom_44 rfl (lv_at hl 1 rfl) ?_
        refine rg (v := .ref (ad (b + 1 + 3))) (T := TX2) (N := 13) (C := RX2) hx hb hts hinX2 hown hK hP hR rfl 3 (by decide) (hts (.fieldLink RX2 22 "NeedleGrid$Grid" "barDirections" "[I") (by decide +kernel)) rfl dX2_copyFrom_45 ?_
        refine lv_iload_n hx hb dX2_copyFrom_48 rfl (lv_at hl 0 rfl) ?_
        refine lv_aload_n hx hb dX2_copyFrom_49 rfl (lv_at hl 2 rfl) ?_
        refine rg (v := .ref (ad (b2 + 1 + 3))) (T := TX2) (N := 13) (C := RX2) hx hb hts hinX2 hown hK hP hR2 rfl 3 (by decide) (hts (.fieldLink RX2 22 "NeedleGrid$Grid" "barDirections" "[I") (by decide +kernel)) rfl dX2_copyFrom_50 ?_
        refine lv_iload_n hx hb dX2_copyFrom_53 rfl (lv_at hl 0 rfl) ?_
        refine ra (j := i) (n := 36) hx hb hK hP hR2 3 rfl (by omega) (by decide) dX2_copyFrom_54 ?_
        refine rs (j := i) (n := 36) (x := G2 3 i) hx hb hK hP hD hS hR 3 rfl (by decide) (by omega) (by decide) dX2_copyFrom_55 (fun s_22 H locs hR hf_23 hP hD hS => ?_)
        have hR2 := hR2.keep hf_23 hsep (by decide)
        have hf := hf.tr hf_23
        have hR : isR E ad s_22 b sG (gu (gu (gu (gu (gu (gu (gu (gu (gu G 4 (fil (G2 4) (G 4) i)) 9 (fil (G2 9) (G 9) i)) 10 (fil (G2 10) (G 10) i)) 11 (fil (G2 11) (G 11) i)) 12 (fil (G2 12) (G 12) i)) 0 (upd (fil (G2 0) (G 0) i) i (G2 0 i))) 1 (upd (fil (G2 1) (G 1) i) i (G2 1 i))) 2 (upd (fil (G2 2) (G 2) i) i (G2 2 i))) 3 (upd (fil (G2 3) (G 3) i) i (G2 3 i))) := hR.eq (all13 rfl rfl rfl rfl rfl rfl rfl rfl rfl rfl rfl rfl rfl)
        refine lv_aload_n hx hb dX2_copyFrom_56 rfl (lv_at hl 1 rfl) ?_
        refine rg (v := .ref (ad (b + 1 + 4))) (T := TX2) (N := 13) (C := RX2) hx hb hts hinX2 hown hK hP hR rfl 4 (by decide) (hts (.fieldLink RX2 25 "NeedleGrid$Grid" "barStrengths" "[I") (by decide +kernel)) rfl dX2_copyFrom_57 ?_
        refine lv_iload_n hx hb dX2_copyFrom_60 rfl (lv_at hl 0 rfl) ?_
        refine lv_aload_n hx hb dX2_copyFrom_61 rfl (lv_at hl 2 rfl) ?_
        refine rg (v := .ref (ad (b2 + 1 + 4))) (T := TX2) (N := 13) (C := RX2) hx hb hts hinX2 hown hK hP hR2 rfl 4 (by decide) (hts (.fieldLink RX2 25 "NeedleGrid$Grid" "barStrengths" "[I") (by decide +kernel)) rfl dX2_copyFrom_62 ?_
        refine lv_iload_n hx hb dX2_copyFrom_65 rfl (lv_at hl 0 rfl) ?_
        refine ra (j := i) (n := 36) hx hb hK hP hR2 4 rfl (by omega) (by decide) dX2_copyFrom_66 ?_
        refine rs (j := i) (n := 36) (x := G2 4 i) hx hb hK hP hD hS hR 4 rfl (by decide) (by omega) (by decide) dX2_copyFrom_67 (fun s_24 H locs hR hf_25 hP hD hS => ?_)
        have hR2 := hR2.keep hf_25 hsep (by decide)
        have hf := hf.tr hf_25
        have hR : isR E ad s_24 b sG (gu (gu (gu (gu (gu (gu (gu (gu (gu G 9 (fil (G2 9) (G 9) i)) 10 (fil (G2 10) (G 10) i)) 11 (fil (G2 11) (G 11) i)) 12 (fil (G2 12) (G 12) i)) 0 (upd (fil (G2 0) (G 0) i) i (G2 0 i))) 1 (upd (fil (G2 1) (G 1) i) i (G2 1 i))) 2 (upd (fil (G2 2) (G 2) i) i (G2 2 i))) 3 (upd (fil (G2 3) (G 3) i) i (G2 3 i))) 4 (upd (fil (G2 4) (G 4) i) i (G2 4 i))) := hR.eq (all13 rfl rfl rfl rfl rfl rfl rfl rfl rfl rfl rfl rfl rfl)
        refine lv_aload_n hx hb dX2_copyFrom_68 rfl (lv_at hl 1 rfl) ?_
        refine rg (v := .ref (ad (b + 1 + 9))) (T := TX2) (N := 13) (C := RX2) hx hb hts hinX2 hown hK hP hR rfl 9 (by decide) (hts (.fieldLink RX2 31 "NeedleGrid$Grid" "stillX" "[I") (by decide +kernel)) rfl dX2_copyFrom_69 ?_
        refine lv_iload_n hx hb dX2_copyFrom_72 rfl (lv_at hl 0 rfl) ?_
        refine lv_aload_n hx hb dX2_copyFrom_73 rfl (lv_at hl 2 rfl) ?_
        refine rg (v := .ref (ad (b2 + 1 + 9))) (T := TX2) (N := 13) (C := RX2) hx hb hts hinX2 hown hK hP hR2 rfl 9 (by decide) (hts (.fieldLink RX2 31 "NeedleGrid$Grid" "stillX" "[I") (by decide +kernel)) rfl dX2_copyFrom_74 ?_
        refine lv_iload_n hx hb dX2_copyFrom_77 rfl (lv_at hl 0 rfl) ?_
        refine ra (j := i) (n := 36) hx hb hK hP hR2 9 rfl (by omega) (by decide) dX2_copyFrom_78 ?_
        refine rs (j := i) (n := 36) (x := G2 9 i) hx hb hK hP hD hS hR 9 rfl (by decide) (by omega) (by decide) dX2_copyFrom_79 (fun s_26 H locs hR hf_27 hP hD hS => ?_)
        have hR2 := hR2.keep hf_27 hsep (by decide)
        have hf := hf.tr hf_27
        have hR : isR E ad s_26 b sG (gu (gu (gu (gu (gu (gu (gu (gu (gu G 10 (fil (G2 10) (G 10) i)) 11 (fil (G2 11) (G 11) i)) 12 (fil (G2 12) (G 12) i)) 0 (upd (fil (G2 0) (G 0) i) i (G2 0 i))) 1 (upd (fil (G2 1) (G 1) i) i (G2 1 i))) 2 (upd (fil (G2 2) (G 2) i) i (G2 2 i))) 3 (upd (fil (G2 3) (G 3) i) i (G2 3 i))) 4 (upd (fil (G2 4) (G 4) i) i (G2 4 i))) 9 (upd (fil (G2 9) (G 9) i) i (G2 9 i))) := hR.eq (all13 rfl rfl rfl rfl rfl rfl rfl rfl rfl rfl rfl rfl rfl)
        refine lv_aload_n hx hb dX2_copyFrom_80 rfl (lv_at hl 1 rfl) ?_
        refine rg (v := .ref (ad (b + 1 + 10))) (T := TX2) (N := 13) (C := RX2) hx hb hts hinX2 hown hK hP hR rfl 10 (by decide) (hts (.fieldLink RX2 34 "NeedleGrid$Grid" "stillY" "[I") (by decide +kernel)) rfl dX2_copyFrom_81 ?_
        refine lv_iload_n hx hb dX2_copyFrom_84 rfl (lv_at hl 0 rfl) ?_
        refine lv_aload_n hx hb dX2_copyFrom_85 rfl (lv_at hl 2 rfl) ?_
        refine rg (v := .ref (ad (b2 + 1 + 10))) (T := TX2) (N := 13) (C := RX2) hx hb hts hinX2 hown hK hP hR2 rfl 10 (by decide) (hts (.fieldLink RX2 34 "NeedleGrid$Grid" "stillY" "[I") (by decide +kernel)) rfl dX2_copyFrom_86 ?_
        refine lv_iload_n hx hb dX2_copyFrom_89 rfl (lv_at hl 0 rfl) ?_
        refine ra (j := i) (n := 36) hx hb hK hP hR2 10 rfl (by omega) (by decide) dX2_copyFrom_90 ?_
        refine rs (j := i) (n := 36) (x := G2 10 i) hx hb hK hP hD hS hR 10 rfl (by decide) (by omega) (by decide) dX2_copyFrom_91 (fun s_28 H locs hR hf_29 hP hD hS => ?_)
        have hR2 := hR2.keep hf_29 hsep (by decide)
        have hf := hf.tr hf_29
        have hR : isR E ad s_28 b sG (gu (gu (gu (gu (gu (gu (gu (gu (gu G 11 (fil (G2 11) (G 11) i)) 12 (fil (G2 12) (G 12) i)) 0 (upd (fil (G2 0) (G 0) i) i (G2 0 i))) 1 (upd (fil (G2 1) (G 1) i) i (G2 1 i))) 2 (upd (fil (G2 2) (G 2) i) i (G2 2 i))) 3 (upd (fil (G2 3) (G 3) i) i (G2 3 i))) 4 (upd (fil (G2 4) (G 4) i) i (G2 4 i))) 9 (upd (fil (G2 9) (G 9) i) i (G2 9 i))) 10 (upd (fil (G2 10) (G 10) i) i (G2 10 i))) := hR.eq (all13 rfl rfl rfl rfl rfl rfl rfl rfl rfl rfl rfl rfl rfl)
        refine lv_aload_n hx hb dX2_copyFrom_92 rfl (lv_at hl 1 rfl) ?_
        refine rg (v := .ref (ad (b + 1 + 11))) (T := TX2) (N := 13) (C := RX2) hx hb hts hinX2 hown hK hP hR rfl 11 (by decide) (hts (.fieldLink RX2 37 "NeedleGrid$Grid" "fieldX" "[I") (by decide +kernel)) rfl dX2_copyFrom_93 ?_
        refine lv_iload_n hx hb dX2_copyFrom_96 rfl (lv_at hl 0 rfl) ?_
        refine lv_aload_n hx hb dX2_copyFrom_97 rfl (lv_at hl 2 rfl) ?_
        refine rg (v := .ref (ad (b2 + 1 + 11))) (T := TX2) (N := 13) (C := RX2) hx hb hts hinX2 hown hK hP hR2 rfl 11 (by decide) (hts (.fieldLink RX2 37 "NeedleGrid$Grid" "fieldX" "[I") (by decide +kernel)) rfl dX2_copyFrom_98 ?_
        refine lv_iload_n hx hb dX2_copyFrom_101 rfl (lv_at hl 0 rfl) ?_
        refine ra (j := i) (n := 36) hx hb hK hP hR2 11 rfl (by omega) (by decide) dX2_copyFrom_102 ?_
        refine rs (j := i) (n := 36) (x := G2 11 i) hx hb hK hP hD hS hR 11 rfl (by decide) (by omega) (by decide) dX2_copyFrom_103 (fun s_30 H locs hR hf_31 hP hD hS => ?_)
        have hR2 := hR2.keep hf_31 hsep (by decide)
        have hf := hf.tr hf_31
        have hR : isR E ad s_30 b sG (gu (gu (gu (gu (gu (gu (gu (gu (gu G 12 (fil (G2 12) (G 12) i)) 0 (upd (fil (G2 0) (G 0) i) i (G2 0 i))) 1 (upd (fil (G2 1) (G 1) i) i (G2 1 i))) 2 (upd (fil (G2 2) (G 2) i) i (G2 2 i))) 3 (upd (fil (G2 3) (G 3) i) i (G2 3 i))) 4 (upd (fil (G2 4) (G 4) i) i (G2 4 i))) 9 (upd (fil (G2 9) (G 9) i) i (G2 9 i))) 10 (upd (fil (G2 10) (G 10) i) i (G2 10 i))) 11 (upd (fil (G2 11) (G 11) i) i (G2 11 i))) := hR.eq (all13 rfl rfl rfl rfl rfl rfl rfl rfl rfl rfl rfl rfl rfl)
        refine lv_aload_n hx hb dX2_copyFrom_104 rfl (lv_at hl 1 rfl) ?_
        refine rg (v := .ref (ad (b + 1 + 12))) (T := TX2) (N := 13) (C := RX2) hx hb hts hinX2 hown hK hP hR rfl 12 (by decide) (hts (.fieldLink RX2 40 "NeedleGrid$Grid" "fieldY" "[I") (by decide +kernel)) rfl dX2_copyFrom_105 ?_
        refine lv_iload_n hx hb dX2_copyFrom_108 rfl (lv_at hl 0 rfl) ?_
        refine lv_aload_n hx hb dX2_copyFrom_109 rfl (lv_at hl 2 rfl) ?_
        refine rg (v := .ref (ad (b2 + 1 + 12))) (T := TX2) (N := 13) (C := RX2) hx hb hts hinX2 hown hK hP hR2 rfl 12 (by decide) (hts (.fieldLink RX2 40 "NeedleGrid$Grid" "fieldY" "[I") (by decide +kernel)) rfl dX2_copyFrom_110 ?_
        refine lv_iload_n hx hb dX2_copyFrom_113 rfl (lv_at hl 0 rfl) ?_
        refine ra (j := i) (n := 36) hx hb hK hP hR2 12 rfl (by omega) (by decide) dX2_copyFrom_114 ?_
        refine rs (j := i) (n := 36) (x := G2 12 i) hx hb hK hP hD hS hR 12 rfl (by decide) (by omega) (by decide) dX2_copyFrom_115 (fun s_32 H locs hR hf_33 hP hD hS => ?_)
        have hR2 := hR2.keep hf_33 hsep (by decide)
        have hf := hf.tr hf_33
        have hR : isR E ad s_32 b sG (gu (gu (gu (gu (gu (gu (gu (gu (gu G 0 (upd (fil (G2 0) (G 0) i) i (G2 0 i))) 1 (upd (fil (G2 1) (G 1) i) i (G2 1 i))) 2 (upd (fil (G2 2) (G 2) i) i (G2 2 i))) 3 (upd (fil (G2 3) (G 3) i) i (G2 3 i))) 4 (upd (fil (G2 4) (G 4) i) i (G2 4 i))) 9 (upd (fil (G2 9) (G 9) i) i (G2 9 i))) 10 (upd (fil (G2 10) (G 10) i) i (G2 10 i))) 11 (upd (fil (G2 11) (G 11) i) i (G2 11 i))) 12 (upd (fil (G2 12) (G 12) i) i (G2 12 i))) := hR.eq (all13 rfl rfl rfl rfl rfl rfl rfl rfl rfl rfl rfl rfl rfl)
        refine lv_iinc (v := nI (i + 1)) (lv' := [(2, .int (nI (i + 1))), (0, .ref (ad b)), (1, .ref (ad b2))]) hx hb dX2_copyFrom_116 hl (k := 0) rfl (nI_1 _) (by decide) rfl (fun ls hl => ?_)
        refine lv_goto (tgt := 2) hx hb dX2_copyFrom_119 (by decide) ?_
        exact ih2 (i + 1) (by omega) (by omega) _ _ _ _ (hR.eq (all13 (fil_s (G2 0) (G 0) i) (fil_s (G2 1) (G 1) i) (fil_s (G2 2) (G 2) i) (fil_s (G2 3) (G 3) i) (fil_s (G2 4) (G 4) i) rfl rfl rfl rfl (fil_s (G2 9) (G 9) i) (fil_s (G2 10) (G 10) i) (fil_s (G2 11) (G 11) i) (fil_s (G2 12) (G 12) i))) hR2 hf hP hD hS (lv_sub hl [0, 1, 2] rfl)
  exact LP_1 (36 + 1) 0 (Nat.zero_le _) (by omega) _ _ _ _ (hR.eq (all13 (fil_0 (G2 0) (G 0)).symm (fil_0 (G2 1) (G 1)).symm (fil_0 (G2 2) (G 2)).symm (fil_0 (G2 3) (G 3)).symm (fil_0 (G2 4) (G 4)).symm rfl rfl rfl rfl (fil_0 (G2 9) (G 9)).symm (fil_0 (G2 10) (G 10)).symm (fil_0 (G2 11) (G 11)).symm (fil_0 (G2 12) (G 12)).symm)) hR2 hf hP hD hS (lv_sub hl [0, 1, 2] rfl)


set_option maxHeartbeats 4000000 in
set_option maxRecDepth 100000 in
theorem c_copyFrom (l : Launch) (E : NE) (ad : Nat → Nat) (st : NW) (b b2 : Nat) (hsep : b2 + 16 ≤ b ∨ b + 16 ≤ b2) (G G2 : Nat → Nat → Int32) (hR : isR E ad st b sG G) (hR2 : isR E ad st b2 sG G2) (hz : ∀ k, k < 36 → G2 2 k = 0 ∨ G2 2 k = 1) : nMv l yX2_copyFrom wsX2_copyFrom (nRm 0 0) E ad st [.ref (ad b), .ref (ad b2)] (fun s1 => isR E ad s1 b sG G2 ∧ fr b st s1) := by
  refine nSv (cc := cX2_copyFrom) (maxL := 3) (by decide) rfl (Nat.le_of_ble_eq_true rfl) ?_
  intro pg en s mi ar bw mth cd R Q A ls hx hb hml hown hts hRm hP hK hD hZ hA hl hret
  subst hRm
  have hown : s.vm.findClass RX2 = some mi.cls := hown
  have hS : va_S A s.heap s.heap [] := va_S.rf
  have hl : lv_has ls 3 [(0, .ref (ad b)), (1, .ref (ad b2))] := hl
  have hf : fr b st st := fr.rf
  have hinX2 : ∀ w ∈ wsX20, w ∈ wsX2_copyFrom := by decide +kernel
  refine lv_iconst (v := 0) hx hb dX2_copyFrom_0 (by decide) ?_
  refine lv_istore_n (lv' := [(2, .int 0), (0, .ref (ad b)), (1, .ref (ad b2))]) hx hb dX2_copyFrom_1 rfl hl (by decide) rfl (fun ls hl => ?_)
  have LP_1 : ∀ (k9 i : Nat), i ≤ 36 → 36 - i < k9 → ∀ (sL_2 : NW) (H : Heap) (locs : List Loc) (ls : Array Slot), isR E ad sL_2 b sG (gu (gu (gu (gu (gu (gu (gu (gu (gu G 0 (fil (G2 0) (G 0) i)) 1 (fil (G2 1) (G 1) i)) 2 (fil (G2 2) (G 2) i)) 3 (fil (G2 3) (G 3) i)) 4 (fil (G2 4) (G 4) i)) 9 (fil (G2 9) (G 9) i)) 10 (fil (G2 10) (G 10) i)) 11 (fil (G2 11) (G 11) i)) 12 (fil (G2 12) (G 12) i)) → isR E ad sL_2 b2 sG (G2) → fr b st sL_2 → nP E ad sL_2 H → nD A ad sL_2 → va_S A s.heap H locs → lv_has ls 3 [(2, .int (nI i)), (0, .ref (ad b)), (1, .ref (ad b2))] → W pg l en (nRm 0 0) s mi ar bw mth cd H locs 0 0 Q (F0 mi 2 ls []) := by
    intro k9
    induction k9 with
    | zero => intro i _ h9; exact absurd h9 (Nat.not_lt_zero _)
    | succ k9 ih2 =>
      intro i hi hk9 sL_2 H locs ls hR hR2 hf hP hD hS hl
      refine lv_iload_n hx hb dX2_copyFrom_2 rfl (lv_at hl 0 rfl) ?_
      refine lv_bipush (v := 36) hx hb dX2_copyFrom_3 (by decide) ?_
      refine lv_icmp_ge (tgt := 122) hx hb dX2_copyFrom_5 (by decide) (fun c5_2 => ?_) (fun c5_2 => ?_)
      · have h36 : 36 ≤ i := (nI_geL (n := 36) rfl (by decide) (by omega)).mp c5_2
        obtain rfl : i = 36 := by omega
        refine lv_iconst (v := 0) hx hb dX2_copyFrom_122 (by decide) ?_
        refine lv_istore_n (lv' := [(2, .int 0), (0, .ref (ad b)), (1, .ref (ad b2))]) hx hb dX2_copyFrom_123 rfl hl (by decide) rfl (fun ls hl => ?_)
        have LP_4 : ∀ (k9 j : Nat), j ≤ 3 → 3 - j < k9 → ∀ (sL_5 : NW) (H : Heap) (locs : List Loc) (ls : Array Slot), isR E ad sL_5 b sG (gu (gu (gu (gu (gu (gu (gu (gu (gu (gu G 0 (fil (G2 0) (G 0) 36)) 1 (fil (G2 1) (G 1) 36)) 2 (fil (G2 2) (G 2) 36)) 3 (fil (G2 3) (G 3) 36)) 4 (fil (G2 4) (G 4) 36)) 9 (fil (G2 9) (G 9) 36)) 10 (fil (G2 10) (G 10) 36)) 11 (fil (G2 11) (G 11) 36)) 12 (fil (G2 12) (G 12) 36)) 5 (fil (G2 5) (G 5) j)) → isR E ad sL_5 b2 sG (G2) → fr b st sL_5 → nP E ad sL_5 H → nD A ad sL_5 → va_S A s.heap H locs → lv_has ls 3 [(2, .int (nI j)), (0, .ref (ad b)), (1, .ref (ad b2))] → W pg l en (nRm 0 0) s mi ar bw mth cd H locs 0 0 Q (F0 mi 124 ls []) := by
          intro k9
          induction k9 with
          | zero => intro j _ h9; exact absurd h9 (Nat.not_lt_zero _)
          | succ k9 ih124 =>
            intro j hi hk9 sL_5 H locs ls hR hR2 hf hP hD hS hl
            refine lv_iload_n hx hb dX2_copyFrom_124 rfl (lv_at hl 0 rfl) ?_
            refine lv_iconst (v := 3) hx hb dX2_copyFrom_125 (by decide) ?_
            refine lv_icmp_ge (tgt := 147) hx hb dX2_copyFrom_126 (by decide) (fun c126_5 => ?_) (fun c126_5 => ?_)
            · have h36 : 3 ≤ j := (nI_geL (n := 3) rfl (by decide) (by omega)).mp c126_5
              obtain rfl : j = 3 := by omega
              refine lv_aload_n hx hb dX2_copyFrom_147 rfl (lv_at hl 1 rfl) ?_
              refine lv_aload_n hx hb dX2_copyFrom_148 rfl (lv_at hl 2 rfl) ?_
              refine rg (v := .int (G2 6 0)) (T := TX2) (N := 13) (C := RX2) hx hb hts hinX2 hown hK hP hR2 rfl 6 (by decide) (hts (.fieldLink RX2 46 "NeedleGrid$Grid" "turns" "I") (by decide +kernel)) rfl dX2_copyFrom_149 ?_
              refine rp (v := G2 6 0) (ty := .int) (T := TX2) (N := 13) (C := RX2) hx hb hts hinX2 tyX2 tyX2_ok nmX2 hown hK hP hD hS hR rfl 6 (by decide) (hts (.fieldLink RX2 46 "NeedleGrid$Grid" "turns" "I") (by decide +kernel)) rfl rfl (by decide +kernel) rfl rfl dX2_copyFrom_152 (fun s_7 H locs hR hf_8 hP hD hS => ?_)
              have hR2 := hR2.keep hf_8 hsep (by decide)
              have hf := hf.tr hf_8
              refine lv_aload_n hx hb dX2_copyFrom_155 rfl (lv_at hl 1 rfl) ?_
              refine lv_aload_n hx hb dX2_copyFrom_156 rfl (lv_at hl 2 rfl) ?_
              refine rg (v := .int (G2 7 0)) (T := TX2) (N := 13) (C := RX2) hx hb hts hinX2 hown hK hP hR2 rfl 7 (by decide) (hts (.fieldLink RX2 50 "NeedleGrid$Grid" "coilDirection" "I") (by decide +kernel)) rfl dX2_copyFrom_157 ?_
              refine rp (v := G2 7 0) (ty := .int) (T := TX2) (N := 13) (C := RX2) hx hb hts hinX2 tyX2 tyX2_ok nmX2 hown hK hP hD hS hR rfl 7 (by decide) (hts (.fieldLink RX2 50 "NeedleGrid$Grid" "coilDirection" "I") (by decide +kernel)) rfl rfl (by decide +kernel) rfl rfl dX2_copyFrom_160 (fun s_9 H locs hR hf_10 hP hD hS => ?_)
              have hR2 := hR2.keep hf_10 hsep (by decide)
              have hf := hf.tr hf_10
              refine lv_aload_n hx hb dX2_copyFrom_163 rfl (lv_at hl 1 rfl) ?_
              refine lv_aload_n hx hb dX2_copyFrom_164 rfl (lv_at hl 2 rfl) ?_
              refine rg (v := .int (G2 8 0)) (T := TX2) (N := 13) (C := RX2) hx hb hts hinX2 hown hK hP hR2 rfl 8 (by decide) (hts (.fieldLink RX2 53 "NeedleGrid$Grid" "stepsSoFar" "I") (by decide +kernel)) rfl dX2_copyFrom_165 ?_
              refine rp (v := G2 8 0) (ty := .int) (T := TX2) (N := 13) (C := RX2) hx hb hts hinX2 tyX2 tyX2_ok nmX2 hown hK hP hD hS hR rfl 8 (by decide) (hts (.fieldLink RX2 53 "NeedleGrid$Grid" "stepsSoFar" "I") (by decide +kernel)) rfl rfl (by decide +kernel) rfl rfl dX2_copyFrom_168 (fun s_11 H locs hR hf_12 hP hD hS => ?_)
              have hR2 := hR2.keep hf_12 hsep (by decide)
              have hf := hf.tr hf_12
              obtain ⟨s9, hR, hf9, hP, hD⟩ := isG_can hP hD hR (Y := G2) (fun j h => fil_in h) (fun j h => fil_in h) (fun j h => fil_in h) (fun j h => fil_in h) (fun j h => fil_in h) (fun j h => fil_in h) rfl rfl rfl (fun j h => fil_in h) (fun j h => fil_in h) (fun j h => fil_in h) (fun j h => fil_in h)
              exact hret _ _ _ _ _ hP hD hS (⟨hR, hf.tr hf9⟩) dX2_copyFrom_171
            · have hlt : j < 3 := by have := mt (nI_geL (n := 3) (i := j) rfl (by decide) (by omega)).mpr c126_5; omega
              refine lv_aload_n hx hb dX2_copyFrom_129 rfl (lv_at hl 1 rfl) ?_
              refine rg (v := .ref (ad (b + 1 + 5))) (T := TX2) (N := 13) (C := RX2) hx hb hts hinX2 hown hK hP hR rfl 5 (by decide) (hts (.fieldLink RX2 28 "NeedleGrid$Grid" "settings" "[I") (by decide +kernel)) rfl dX2_copyFrom_130 ?_
              refine lv_iload_n hx hb dX2_copyFrom_133 rfl (lv_at hl 0 rfl) ?_
              refine lv_aload_n hx hb dX2_copyFrom_134 rfl (lv_at hl 2 rfl) ?_
              refine rg (v := .ref (ad (b2 + 1 + 5))) (T := TX2) (N := 13) (C := RX2) hx hb hts hinX2 hown hK hP hR2 rfl 5 (by decide) (hts (.fieldLink RX2 28 "NeedleGrid$Grid" "settings" "[I") (by decide +kernel)) rfl dX2_copyFrom_135 ?_
              refine lv_iload_n hx hb dX2_copyFrom_138 rfl (lv_at hl 0 rfl) ?_
              refine ra (j := j) (n := 3) hx hb hK hP hR2 5 rfl (by omega) (by decide) dX2_copyFrom_139 ?_
              refine rs (j := j) (n := 3) (x := G2 5 j) hx hb hK hP hD hS hR 5 rfl (by decide) (by omega) (by decide) dX2_copyFrom_140 (fun s_13 H locs hR hf_14 hP hD hS => ?_)
              have hR2 := hR2.keep hf_14 hsep (by decide)
              have hf := hf.tr hf_14
              have hR : isR E ad s_13 b sG (gu (gu (gu (gu (gu (gu (gu (gu (gu (gu G 0 (fil (G2 0) (G 0) 36)) 1 (fil (G2 1) (G 1) 36)) 2 (fil (G2 2) (G 2) 36)) 3 (fil (G2 3) (G 3) 36)) 4 (fil (G2 4) (G 4) 36)) 9 (fil (G2 9) (G 9) 36)) 10 (fil (G2 10) (G 10) 36)) 11 (fil (G2 11) (G 11) 36)) 12 (fil (G2 12) (G 12) 36)) 5 (upd (fil (G2 5) (G 5) j) j (G2 5 j))) := hR.eq (all13 rfl rfl rfl rfl rfl rfl rfl rfl rfl rfl rfl rfl rfl)
              refine lv_iinc (v := nI (j + 1)) (lv' := [(2, .int (nI (j + 1))), (0, .ref (ad b)), (1, .ref (ad b2))]) hx hb dX2_copyFrom_141 hl (k := 0) rfl (nI_1 _) (by decide) rfl (fun ls hl => ?_)
              refine lv_goto (tgt := 124) hx hb dX2_copyFrom_144 (by decide) ?_
              exact ih124 (j + 1) (by omega) (by omega) _ _ _ _ (hR.eq (all13 rfl rfl rfl rfl rfl (fil_s (G2 5) (G 5) j) rfl rfl rfl rfl rfl rfl rfl)) hR2 hf hP hD hS (lv_sub hl [0, 1, 2] rfl)
        exact LP_4 (3 + 1) 0 (Nat.zero_le _) (by omega) _ _ _ _ (hR.eq (all13 rfl rfl rfl rfl rfl (fil_0 (G2 5) (G 5)).symm rfl rfl rfl rfl rfl rfl rfl)) hR2 hf hP hD hS (lv_sub hl [0, 1, 2] rfl)
      · have hlt : i < 36 := by have := mt (nI_geL (n := 36) (i := i) rfl (by decide) (by omega)).mpr c5_2; omega
        refine lv_aload_n hx hb dX2_copyFrom_8 rfl (lv_at hl 1 rfl) ?_
        refine rg (v := .ref (ad (b + 1 + 0))) (T := TX2) (N := 13) (C := RX2) hx hb hts hinX2 hown hK hP hR rfl 0 (by decide) (hts (.fieldLink RX2 9 "NeedleGrid$Grid" "directions" "[I") (by decide +kernel)) rfl dX2_copyFrom_9 ?_
        refine lv_iload_n hx hb dX2_copyFrom_12 rfl (lv_at hl 0 rfl) ?_
        refine lv_aload_n hx hb dX2_copyFrom_13 rfl (lv_at hl 2 rfl) ?_
        refine rg (v := .ref (ad (b2 + 1 + 0))) (T := TX2) (N := 13) (C := RX2) hx hb hts hinX2 hown hK hP hR2 rfl 0 (by decide) (hts (.fieldLink RX2 9 "NeedleGrid$Grid" "directions" "[I") (by decide +kernel)) rfl dX2_copyFrom_14 ?_
        refine lv_iload_n hx hb dX2_copyFrom_17 rfl (lv_at hl 0 rfl) ?_
        refine ra (j := i) (n := 36) hx hb hK hP hR2 0 rfl (by omega) (by decide) dX2_copyFrom_18 ?_
        refine rs (j := i) (n := 36) (x := G2 0 i) hx hb hK hP hD hS hR 0 rfl (by decide) (by omega) (by decide) dX2_copyFrom_19 (fun s_16 H locs hR hf_17 hP hD hS => ?_)
        have hR2 := hR2.keep hf_17 hsep (by decide)
        have hf := hf.tr hf_17
        have hR : isR E ad s_16 b sG (gu (gu (gu (gu (gu (gu (gu (gu (gu G 1 (fil (G2 1) (G 1) i)) 2 (fil (G2 2) (G 2) i)) 3 (fil (G2 3) (G 3) i)) 4 (fil (G2 4) (G 4) i)) 9 (fil (G2 9) (G 9) i)) 10 (fil (G2 10) (G 10) i)) 11 (fil (G2 11) (G 11) i)) 12 (fil (G2 12) (G 12) i)) 0 (upd (fil (G2 0) (G 0) i) i (G2 0 i))) := hR.eq (all13 rfl rfl rfl rfl rfl rfl rfl rfl rfl rfl rfl rfl rfl)
        refine lv_aload_n hx hb dX2_copyFrom_20 rfl (lv_at hl 1 rfl) ?_
        refine rg (v := .ref (ad (b + 1 + 1))) (T := TX2) (N := 13) (C := RX2) hx hb hts hinX2 hown hK hP hR rfl 1 (by decide) (hts (.fieldLink RX2 15 "NeedleGrid$Grid" "frictions" "[I") (by decide +kernel)) rfl dX2_copyFrom_21 ?_
        refine lv_iload_n hx hb dX2_copyFrom_24 rfl (lv_at hl 0 rfl) ?_
        refine lv_aload_n hx hb dX2_copyFrom_25 rfl (lv_at hl 2 rfl) ?_
        refine rg (v := .ref (ad (b2 + 1 + 1))) (T := TX2) (N := 13) (C := RX2) hx hb hts hinX2 hown hK hP hR2 rfl 1 (by decide) (hts (.fieldLink RX2 15 "NeedleGrid$Grid" "frictions" "[I") (by decide +kernel)) rfl dX2_copyFrom_26 ?_
        refine lv_iload_n hx hb dX2_copyFrom_29 rfl (lv_at hl 0 rfl) ?_
        refine ra (j := i) (n := 36) hx hb hK hP hR2 1 rfl (by omega) (by decide) dX2_copyFrom_30 ?_
        refine rs (j := i) (n := 36) (x := G2 1 i) hx hb hK hP hD hS hR 1 rfl (by decide) (by omega) (by decide) dX2_copyFrom_31 (fun s_18 H locs hR hf_19 hP hD hS => ?_)
        have hR2 := hR2.keep hf_19 hsep (by decide)
        have hf := hf.tr hf_19
        have hR : isR E ad s_18 b sG (gu (gu (gu (gu (gu (gu (gu (gu (gu G 2 (fil (G2 2) (G 2) i)) 3 (fil (G2 3) (G 3) i)) 4 (fil (G2 4) (G 4) i)) 9 (fil (G2 9) (G 9) i)) 10 (fil (G2 10) (G 10) i)) 11 (fil (G2 11) (G 11) i)) 12 (fil (G2 12) (G 12) i)) 0 (upd (fil (G2 0) (G 0) i) i (G2 0 i))) 1 (upd (fil (G2 1) (G 1) i) i (G2 1 i))) := hR.eq (all13 rfl rfl rfl rfl rfl rfl rfl rfl rfl rfl rfl rfl rfl)
        refine lv_aload_n hx hb dX2_copyFrom_32 rfl (lv_at hl 1 rfl) ?_
        refine rg (v := .ref (ad (b + 1 + 2))) (T := TX2) (N := 13) (C := RX2) hx hb hts hinX2 hown hK hP hR rfl 2 (by decide) (hts (.fieldLink RX2 18 "NeedleGrid$Grid" "held" "[Z") (by decide +kernel)) rfl dX2_copyFrom_33 ?_
        refine lv_iload_n hx hb dX2_copyFrom_36 rfl (lv_at hl 0 rfl) ?_
        refine lv_aload_n hx hb dX2_copyFrom_37 rfl (lv_at hl 2 rfl) ?_
        refine rg (v := .ref (ad (b2 + 1 + 2))) (T := TX2) (N := 13) (C := RX2) hx hb hts hinX2 hown hK hP hR2 rfl 2 (by decide) (hts (.fieldLink RX2 18 "NeedleGrid$Grid" "held" "[Z") (by decide +kernel)) rfl dX2_copyFrom_38 ?_
        refine lv_iload_n hx hb dX2_copyFrom_41 rfl (lv_at hl 0 rfl) ?_
        refine raZ (j := i) (n := 36) hx hb hK hP hR2 2 rfl (by omega) (by decide) dX2_copyFrom_42 ?_
        refine rsZ (j := i) (n := 36) (x := G2 2 i) hx hb hK hP hD hS hR 2 rfl (by decide) (by omega) (by decide) (hz i hlt) dX2_copyFrom_43 (fun s_20 H locs hR hf_21 hP hD hS => ?_)
        have hR2 := hR2.keep hf_21 hsep (by decide)
        have hf := hf.tr hf_21
        have hR : isR E ad s_20 b sG (gu (gu (gu (gu (gu (gu (gu (gu (gu G 3 (fil (G2 3) (G 3) i)) 4 (fil (G2 4) (G 4) i)) 9 (fil (G2 9) (G 9) i)) 10 (fil (G2 10) (G 10) i)) 11 (fil (G2 11) (G 11) i)) 12 (fil (G2 12) (G 12) i)) 0 (upd (fil (G2 0) (G 0) i) i (G2 0 i))) 1 (upd (fil (G2 1) (G 1) i) i (G2 1 i))) 2 (upd (fil (G2 2) (G 2) i) i (G2 2 i))) := hR.eq (all13 rfl rfl rfl rfl rfl rfl rfl rfl rfl rfl rfl rfl rfl)
        refine lv_aload_n hx hb dX2_copyFrom_44 rfl (lv_at hl 1 rfl) ?_
        refine rg (v := .ref (ad (b + 1 + 3))) (T := TX2) (N := 13) (C := RX2) hx hb hts hinX2 hown hK hP hR rfl 3 (by decide) (hts (.fieldLink RX2 22 "NeedleGrid$Grid" "barDirections" "[I") (by decide +kernel)) rfl dX2_copyFrom_45 ?_
        refine lv_iload_n hx hb dX2_copyFrom_48 rfl (lv_at hl 0 rfl) ?_
        refine lv_aload_n hx hb dX2_copyFrom_49 rfl (lv_at hl 2 rfl) ?_
        refine rg (v := .ref (ad (b2 + 1 + 3))) (T := TX2) (N := 13) (C := RX2) hx hb hts hinX2 hown hK hP hR2 rfl 3 (by decide) (hts (.fieldLink RX2 22 "NeedleGrid$Grid" "barDirections" "[I") (by decide +kernel)) rfl dX2_copyFrom_50 ?_
        refine lv_iload_n hx hb dX2_copyFrom_53 rfl (lv_at hl 0 rfl) ?_
        refine ra (j := i) (n := 36) hx hb hK hP hR2 3 rfl (by omega) (by decide) dX2_copyFrom_54 ?_
        refine rs (j := i) (n := 36) (x := G2 3 i) hx hb hK hP hD hS hR 3 rfl (by decide) (by omega) (by decide) dX2_copyFrom_55 (fun s_22 H locs hR hf_23 hP hD hS => ?_)
        have hR2 := hR2.keep hf_23 hsep (by decide)
        have hf := hf.tr hf_23
        have hR : isR E ad s_22 b sG (gu (gu (gu (gu (gu (gu (gu (gu (gu G 4 (fil (G2 4) (G 4) i)) 9 (fil (G2 9) (G 9) i)) 10 (fil (G2 10) (G 10) i)) 11 (fil (G2 11) (G 11) i)) 12 (fil (G2 12) (G 12) i)) 0 (upd (fil (G2 0) (G 0) i) i (G2 0 i))) 1 (upd (fil (G2 1) (G 1) i) i (G2 1 i))) 2 (upd (fil (G2 2) (G 2) i) i (G2 2 i))) 3 (upd (fil (G2 3) (G 3) i) i (G2 3 i))) := hR.eq (all13 rfl rfl rfl rfl rfl rfl rfl rfl rfl rfl rfl rfl rfl)
        refine lv_aload_n hx hb dX2_copyFrom_56 rfl (lv_at hl 1 rfl) ?_
        refine rg (v := .ref (ad (b + 1 + 4))) (T := TX2) (N := 13) (C := RX2) hx hb hts hinX2 hown hK hP hR rfl 4 (by decide) (hts (.fieldLink RX2 25 "NeedleGrid$Grid" "barStrengths" "[I") (by decide +kernel)) rfl dX2_copyFrom_57 ?_
        refine lv_iload_n hx hb dX2_copyFrom_60 rfl (lv_at hl 0 rfl) ?_
        refine lv_aload_n hx hb dX2_copyFrom_61 rfl (lv_at hl 2 rfl) ?_
        refine rg (v := .ref (ad (b2 + 1 + 4))) (T := TX2) (N := 13) (C := RX2) hx hb hts hinX2 hown hK hP hR2 rfl 4 (by decide) (hts (.fieldLink RX2 25 "NeedleGrid$Grid" "barStrengths" "[I") (by decide +kernel)) rfl dX2_copyFrom_62 ?_
        refine lv_iload_n hx hb dX2_copyFrom_65 rfl (lv_at hl 0 rfl) ?_
        refine ra (j := i) (n := 36) hx hb hK hP hR2 4 rfl (by omega) (by decide) dX2_copyFrom_66 ?_
        refine rs (j := i) (n := 36) (x := G2 4 i) hx hb hK hP hD hS hR 4 rfl (by decide) (by omega) (by decide) dX2_copyFrom_67 (fun s_24 H locs hR hf_25 hP hD hS => ?_)
        have hR2 := hR2.keep hf_25 hsep (by decide)
        have hf := hf.tr hf_25
        have hR : isR E ad s_24 b sG (gu (gu (gu (gu (gu (gu (gu (gu (gu G 9 (fil (G2 9) (G 9) i)) 10 (fil (G2 10) (G 10) i)) 11 (fil (G2 11) (G 11) i)) 12 (fil (G2 12) (G 12) i)) 0 (upd (fil (G2 0) (G 0) i) i (G2 0 i))) 1 (upd (fil (G2 1) (G 1) i) i (G2 1 i))) 2 (upd (fil (G2 2) (G 2) i) i (G2 2 i))) 3 (upd (fil (G2 3) (G 3) i) i (G2 3 i))) 4 (upd (fil (G2 4) (G 4) i) i (G2 4 i))) := hR.eq (all13 rfl rfl rfl rfl rfl rfl rfl rfl rfl rfl rfl rfl rfl)
        refine lv_aload_n hx hb dX2_copyFrom_68 rfl (lv_at hl 1 rfl) ?_
        refine rg (v := .ref (ad (b + 1 + 9))) (T := TX2) (N := 13) (C := RX2) hx hb hts hinX2 hown hK hP hR rfl 9 (by decide) (hts (.fieldLink RX2 31 "NeedleGrid$Grid" "stillX" "[I") (by decide +kernel)) rfl dX2_copyFrom_69 ?_
        refine lv_iload_n hx hb dX2_copyFrom_72 rfl (lv_at hl 0 rfl) ?_
        refine lv_aload_n hx hb dX2_copyFrom_73 rfl (lv_at hl 2 rfl) ?_
        refine rg (v := .ref (ad (b2 + 1 + 9))) (T := TX2) (N := 13) (C := RX2) hx hb hts hinX2 hown hK hP hR2 rfl 9 (by decide) (hts (.fieldLink RX2 31 "NeedleGrid$Grid" "stillX" "[I") (by decide +kernel)) rfl dX2_copyFrom_74 ?_
        refine lv_iload_n hx hb dX2_copyFrom_77 rfl (lv_at hl 0 rfl) ?_
        refine ra (j := i) (n := 36) hx hb hK hP hR2 9 rfl (by omega) (by decide) dX2_copyFrom_78 ?_
        refine rs (j := i) (n := 36) (x := G2 9 i) hx hb hK hP hD hS hR 9 rfl (by decide) (by omega) (by decide) dX2_copyFrom_79 (fun s_26 H locs hR hf_27 hP hD hS => ?_)
        have hR2 := hR2.keep hf_27 hsep (by decide)
        have hf := hf.tr hf_27
        have hR : isR E ad s_26 b sG (gu (gu (gu (gu (gu (gu (gu (gu (gu G 10 (fil (G2 10) (G 10) i)) 11 (fil (G2 11) (G 11) i)) 12 (fil (G2 12) (G 12) i)) 0 (upd (fil (G2 0) (G 0) i) i (G2 0 i))) 1 (upd (fil (G2 1) (G 1) i) i (G2 1 i))) 2 (upd (fil (G2 2) (G 2) i) i (G2 2 i))) 3 (upd (fil (G2 3) (G 3) i) i (G2 3 i))) 4 (upd (fil (G2 4) (G 4) i) i (G2 4 i))) 9 (upd (fil (G2 9) (G 9) i) i (G2 9 i))) := hR.eq (all13 rfl rfl rfl rfl rfl rfl rfl rfl rfl rfl rfl rfl rfl)
        refine lv_aload_n hx hb dX2_copyFrom_80 rfl (lv_at hl 1 rfl) ?_
        refine rg (v := .ref (ad (b + 1 + 10))) (T := TX2) (N := 13) (C := RX2) hx hb hts hinX2 hown hK hP hR rfl 10 (by decide) (hts (.fieldLink RX2 34 "NeedleGrid$Grid" "stillY" "[I") (by decide +kernel)) rfl dX2_copyFrom_81 ?_
        refine lv_iload_n hx hb dX2_copyFrom_84 rfl (lv_at hl 0 rfl) ?_
        refine lv_aload_n hx hb dX2_copyFrom_85 rfl (lv_at hl 2 rfl) ?_
        refine rg (v := .ref (ad (b2 + 1 + 10))) (T := TX2) (N := 13) (C := RX2) hx hb hts hinX2 hown hK hP hR2 rfl 10 (by decide) (hts (.fieldLink RX2 34 "NeedleGrid$Grid" "stillY" "[I") (by decide +kernel)) rfl dX2_copyFrom_86 ?_
        refine lv_iload_n hx hb dX2_copyFrom_89 rfl (lv_at hl 0 rfl) ?_
        refine ra (j := i) (n := 36) hx hb hK hP hR2 10 rfl (by omega) (by decide) dX2_copyFrom_90 ?_
        refine rs (j := i) (n := 36) (x := G2 10 i) hx hb hK hP hD hS hR 10 rfl (by decide) (by omega) (by decide) dX2_copyFrom_91 (fun s_28 H locs hR hf_29 hP hD hS => ?_)
        have hR2 := hR2.keep hf_29 hsep (by decide)
        have hf := hf.tr hf_29
        have hR : isR E ad s_28 b sG (gu (gu (gu (gu (gu (gu (gu (gu (gu G 11 (fil (G2 11) (G 11) i)) 12 (fil (G2 12) (G 12) i)) 0 (upd (fil (G2 0) (G 0) i) i (G2 0 i))) 1 (upd (fil (G2 1) (G 1) i) i (G2 1 i))) 2 (upd (fil (G2 2) (G 2) i) i (G2 2 i))) 3 (upd (fil (G2 3) (G 3) i) i (G2 3 i))) 4 (upd (fil (G2 4) (G 4) i) i (G2 4 i))) 9 (upd (fil (G2 9) (G 9) i) i (G2 9 i))) 10 (upd (fil (G2 10) (G 10) i) i (G2 10 i))) := hR.eq (all13 rfl rfl rfl rfl rfl rfl rfl rfl rfl rfl rfl rfl rfl)
        refine lv_aload_n hx hb dX2_copyFrom_92 rfl (lv_at hl 1 rfl) ?_
        refine rg (v := .ref (ad (b + 1 + 11))) (T := TX2) (N := 13) (C := RX2) hx hb hts hinX2 hown hK hP hR rfl 11 (by decide) (hts (.fieldLink RX2 37 "NeedleGrid$Grid" "fieldX" "[I") (by decide +kernel)) rfl dX2_copyFrom_93 ?_
        refine lv_iload_n hx hb dX2_copyFrom_96 rfl (lv_at hl 0 rfl) ?_
        refine lv_aload_n hx hb dX2_copyFrom_97 rfl (lv_at hl 2 rfl) ?_
        refine rg (v := .ref (ad (b2 + 1 + 11))) (T := TX2) (N := 13) (C := RX2) hx hb hts hinX2 hown hK hP hR2 rfl 11 (by decide) (hts (.fieldLink RX2 37 "NeedleGrid$Grid" "fieldX" "[I") (by decide +kernel)) rfl dX2_copyFrom_98 ?_
        refine lv_iload_n hx hb dX2_copyFrom_101 rfl (lv_at hl 0 rfl) ?_
        refine ra (j := i) (n := 36) hx hb hK hP hR2 11 rfl (by omega) (by decide) dX2_copyFrom_102 ?_
        refine rs (j := i) (n := 36) (x := G2 11 i) hx hb hK hP hD hS hR 11 rfl (by decide) (by omega) (by decide) dX2_copyFrom_103 (fun s_30 H locs hR hf_31 hP hD hS => ?_)
        have hR2 := hR2.keep hf_31 hsep (by decide)
        have hf := hf.tr hf_31
        have hR : isR E ad s_30 b sG (gu (gu (gu (gu (gu (gu (gu (gu (gu G 12 (fil (G2 12) (G 12) i)) 0 (upd (fil (G2 0) (G 0) i) i (G2 0 i))) 1 (upd (fil (G2 1) (G 1) i) i (G2 1 i))) 2 (upd (fil (G2 2) (G 2) i) i (G2 2 i))) 3 (upd (fil (G2 3) (G 3) i) i (G2 3 i))) 4 (upd (fil (G2 4) (G 4) i) i (G2 4 i))) 9 (upd (fil (G2 9) (G 9) i) i (G2 9 i))) 10 (upd (fil (G2 10) (G 10) i) i (G2 10 i))) 11 (upd (fil (G2 11) (G 11) i) i (G2 11 i))) := hR.eq (all13 rfl rfl rfl rfl rfl rfl rfl rfl rfl rfl rfl rfl rfl)
        refine lv_aload_n hx hb dX2_copyFrom_104 rfl (lv_at hl 1 rfl) ?_
        refine rg (v := .ref (ad (b + 1 + 12))) (T := TX2) (N := 13) (C := RX2) hx hb hts hinX2 hown hK hP hR rfl 12 (by decide) (hts (.fieldLink RX2 40 "NeedleGrid$Grid" "fieldY" "[I") (by decide +kernel)) rfl dX2_copyFrom_105 ?_
        refine lv_iload_n hx hb dX2_copyFrom_108 rfl (lv_at hl 0 rfl) ?_
        refine lv_aload_n hx hb dX2_copyFrom_109 rfl (lv_at hl 2 rfl) ?_
        refine rg (v := .ref (ad (b2 + 1 + 12))) (T := TX2) (N := 13) (C := RX2) hx hb hts hinX2 hown hK hP hR2 rfl 12 (by decide) (hts (.fieldLink RX2 40 "NeedleGrid$Grid" "fieldY" "[I") (by decide +kernel)) rfl dX2_copyFrom_110 ?_
        refine lv_iload_n hx hb dX2_copyFrom_113 rfl (lv_at hl 0 rfl) ?_
        refine ra (j := i) (n := 36) hx hb hK hP hR2 12 rfl (by omega) (by decide) dX2_copyFrom_114 ?_
        refine rs (j := i) (n := 36) (x := G2 12 i) hx hb hK hP hD hS hR 12 rfl (by decide) (by omega) (by decide) dX2_copyFrom_115 (fun s_32 H locs hR hf_33 hP hD hS => ?_)
        have hR2 := hR2.keep hf_33 hsep (by decide)
        have hf := hf.tr hf_33
        have hR : isR E ad s_32 b sG (gu (gu (gu (gu (gu (gu (gu (gu (gu G 0 (upd (fil (G2 0) (G 0) i) i (G2 0 i))) 1 (upd (fil (G2 1) (G 1) i) i (G2 1 i))) 2 (upd (fil (G2 2) (G 2) i) i (G2 2 i))) 3 (upd (fil (G2 3) (G 3) i) i (G2 3 i))) 4 (upd (fil (G2 4) (G 4) i) i (G2 4 i))) 9 (upd (fil (G2 9) (G 9) i) i (G2 9 i))) 10 (upd (fil (G2 10) (G 10) i) i (G2 10 i))) 11 (upd (fil (G2 11) (G 11) i) i (G2 11 i))) 12 (upd (fil (G2 12) (G 12) i) i (G2 12 i))) := hR.eq (all13 rfl rfl rfl rfl rfl rfl rfl rfl rfl rfl rfl rfl rfl)
        refine lv_iinc (v := nI (i + 1)) (lv' := [(2, .int (nI (i + 1))), (0, .ref (ad b)), (1, .ref (ad b2))]) hx hb dX2_copyFrom_116 hl (k := 0) rfl (nI_1 _) (by decide) rfl (fun ls hl => ?_)
        refine lv_goto (tgt := 2) hx hb dX2_copyFrom_119 (by decide) ?_
        exact ih2 (i + 1) (by omega) (by omega) _ _ _ _ (hR.eq (all13 (fil_s (G2 0) (G 0) i) (fil_s (G2 1) (G 1) i) (fil_s (G2 2) (G 2) i) (fil_s (G2 3) (G 3) i) (fil_s (G2 4) (G 4) i) rfl rfl rfl rfl (fil_s (G2 9) (G 9) i) (fil_s (G2 10) (G 10) i) (fil_s (G2 11) (G 11) i) (fil_s (G2 12) (G 12) i))) hR2 hf hP hD hS (lv_sub hl [0, 1, 2] rfl)
  exact LP_1 (36 + 1) 0 (Nat.zero_le _) (by omega) _ _ _ _ (hR.eq (all13 (fil_0 (G2 0) (G 0)).symm (fil_0 (G2 1) (G 1)).symm (fil_0 (G2 2) (G 2)).symm (fil_0 (G2 3) (G 3)).symm (fil_0 (G2 4) (G 4)).symm rfl rfl rfl rfl (fil_0 (G2 9) (G 9)).symm (fil_0 (G2 10) (G 10)).symm (fil_0 (G2 11) (G 11)).symm (fil_0 (G2 12) (G 12)).symm)) hR2 hf hP hD hS (lv_sub hl [0, 1, 2] rfl)

set_option maxHeartbeats 4000000 in
set_option maxRecDepth 100000 in
theorem c_begin (l : Launch) (E : NE) (ad : Nat → Nat) (st : NW) (b : Nat) (R0 : Nat → Int32) (hB : isR E ad st b sB (rB R0))  : nMv l yX0_begin wsX0_begin (nRm 0 0) E ad st [.ref (ad b)] (fun s1 => isR E ad s1 b sB (rB (begR R0)) ∧ fr b st s1) := by
  refine nSv (cc := cX0_begin) (maxL := 1) (by decide) rfl (Nat.le_of_ble_eq_true rfl) ?_
  intro pg en s mi ar bw mth cd R Q A ls hx hb hml hown hts hRm hP hK hD hZ hA hl hret
  subst hRm
  have hown : s.vm.findClass RX0 = some mi.cls := hown
  have hS : va_S A s.heap s.heap [] := va_S.rf
  have hl : lv_has ls 1 [(0, .ref (ad b))] := hl
  have hf : fr b st st := fr.rf
  have hinX0 : ∀ w ∈ wsX00, w ∈ wsX0_begin := by decide +kernel
  refine lv_aload_n hx hb dX0_begin_0 rfl (lv_at hl 0 rfl) ?_
  refine lv_iconst (v := 0) hx hb dX0_begin_1 (by decide) ?_
  refine rp (v := 0) (ty := .int) (T := TX0) (N := 6) (C := RX0) hx hb hts hinX0 tyX0 tyX0_ok nmX0 hown hK hP hD hS hB rfl 0 (by decide) (hts (.fieldLink RX0 11 "NeedleGrid$BarReader" "due" "I") (by decide +kernel)) rfl rfl (by decide +kernel) rfl rfl dX0_begin_2 (fun s_1 H locs hB hf_2 hP hD hS => ?_)
  have hf := hf.tr hf_2
  refine lv_aload_n hx hb dX0_begin_5 rfl (lv_at hl 0 rfl) ?_
  refine lv_iconst (v := 1) hx hb dX0_begin_6 (by decide) ?_
  refine rp (v := 1) (ty := .int) (T := TX0) (N := 6) (C := RX0) hx hb hts hinX0 tyX0 tyX0_ok nmX0 hown hK hP hD hS hB rfl 1 (by decide) (hts (.fieldLink RX0 15 "NeedleGrid$BarReader" "parts" "I") (by decide +kernel)) rfl rfl (by decide +kernel) rfl rfl dX0_begin_7 (fun s_3 H locs hB hf_4 hP hD hS => ?_)
  have hf := hf.tr hf_4
  exact hret _ _ _ _ _ hP hD hS (⟨hB.eq (all6 rfl rfl rfl rfl rfl rfl), hf⟩) dX0_begin_10

set_option maxHeartbeats 4000000 in
set_option maxRecDepth 100000 in
theorem c_goOn (l : Launch) (E : NE) (ad : Nat → Nat) (st : NW) (b : Nat) (R0 : Nat → Int32) (hB : isR E ad st b sB (rB R0)) (x y : Int32) (hy : y = 0 ∨ y = 1) : nMi l yX0_goOn wsX0_goOn (nRm 0 0) E ad st [.ref (ad b), .int x, .int y] (fun r s1 => r = y ∧ isR E ad s1 b sB (rB (upd R0 0 x)) ∧ fr b st s1) := by
  refine nSz (cc := cX0_goOn) (maxL := 3) (by decide) rfl (Nat.le_of_ble_eq_true rfl) ?_
  intro pg en s mi ar bw mth cd R Q A ls hx hb hml hown hts hRm hP hK hD hZ hA hl hret
  subst hRm
  have hown : s.vm.findClass RX0 = some mi.cls := hown
  have hS : va_S A s.heap s.heap [] := va_S.rf
  have hl : lv_has ls 3 [(0, .ref (ad b)), (1, .int x), (2, .int y)] := hl
  have hf : fr b st st := fr.rf
  have hinX0 : ∀ w ∈ wsX00, w ∈ wsX0_goOn := by decide +kernel
  refine lv_aload_n hx hb dX0_goOn_0 rfl (lv_at hl 0 rfl) ?_
  refine lv_iload_n hx hb dX0_goOn_1 rfl (lv_at hl 1 rfl) ?_
  refine rp (v := x) (ty := .int) (T := TX0) (N := 6) (C := RX0) hx hb hts hinX0 tyX0 tyX0_ok nmX0 hown hK hP hD hS hB rfl 0 (by decide) (hts (.fieldLink RX0 11 "NeedleGrid$BarReader" "due" "I") (by decide +kernel)) rfl rfl (by decide +kernel) rfl rfl dX0_goOn_2 (fun s_1 H locs hB hf_2 hP hD hS => ?_)
  have hf := hf.tr hf_2
  refine lv_iload_n hx hb dX0_goOn_5 rfl (lv_at hl 2 rfl) ?_
  exact hret _ _ _ _ _ _ hP hD hS (⟨rfl, hB.eq (all6 rfl rfl rfl rfl rfl rfl), hf⟩) (hy) dX0_goOn_6

set_option maxHeartbeats 4000000 in
set_option maxRecDepth 100000 in
theorem c_isBehindStrength (l : Launch) (E : NE) (ad : Nat → Nat) (st : NW) (b : Nat) (R0 : Nat → Int32) (hB : isR E ad st b sB (rB R0))  : nMi l yX0_isBehindStrength wsX0_isBehindStrength (nRm 0 0) E ad st [.ref (ad b)] (fun r s1 => r = (if R0 0 = 4 then 1 else 0) ∧ st = s1) := by
  refine nSz (cc := cX0_isBehindStrength) (maxL := 1) (by decide) rfl (Nat.le_of_ble_eq_true rfl) ?_
  intro pg en s mi ar bw mth cd R Q A ls hx hb hml hown hts hRm hP hK hD hZ hA hl hret
  subst hRm
  have hown : s.vm.findClass RX0 = some mi.cls := hown
  have hS : va_S A s.heap s.heap [] := va_S.rf
  have hl : lv_has ls 1 [(0, .ref (ad b))] := hl
  have hf : fr b st st := fr.rf
  have hinX0 : ∀ w ∈ wsX00, w ∈ wsX0_isBehindStrength := by decide +kernel
  refine lv_aload_n hx hb dX0_isBehindStrength_0 rfl (lv_at hl 0 rfl) ?_
  refine rg (v := .int (R0 0)) (T := TX0) (N := 6) (C := RX0) hx hb hts hinX0 hown hK hP hB rfl 0 (by decide) (hts (.fieldLink RX0 11 "NeedleGrid$BarReader" "due" "I") (by decide +kernel)) rfl dX0_isBehindStrength_1 ?_
  refine lv_iconst (v := 4) hx hb dX0_isBehindStrength_4 (by decide) ?_
  refine lv_icmp_ne (tgt := 12) hx hb dX0_isBehindStrength_5 (by decide) (fun c5_0 => ?_) (fun c5_0 => ?_)
  · refine lv_iconst (v := 0) hx hb dX0_isBehindStrength_12 (by decide) ?_
    exact hret _ _ _ _ _ _ hP hD hS (⟨by simp only [if_neg c5_0], rfl⟩) (by first | exact Or.inl rfl | exact Or.inr rfl | assumption) dX0_isBehindStrength_13
  · refine lv_iconst (v := 1) hx hb dX0_isBehindStrength_8 (by decide) ?_
    refine lv_goto (tgt := 13) hx hb dX0_isBehindStrength_9 (by decide) ?_
    exact hret _ _ _ _ _ _ hP hD hS (⟨by simp only [if_pos c5_0], rfl⟩) (by first | exact Or.inl rfl | exact Or.inr rfl | assumption) dX0_isBehindStrength_13

set_option maxHeartbeats 4000000 in
set_option maxRecDepth 100000 in
theorem c_takeBehindStrength (l : Launch) (E : NE) (ad : Nat → Nat) (st : NW) (b : Nat) (R0 : Nat → Int32) (hB : isR E ad st b sB (rB R0)) (x : Int32) (hd : ¬ R0 0 = 0 ∧ ¬ R0 0 = 1 ∧ ¬ R0 0 = 2 ∧ ¬ R0 0 = 3) : nMi l yX0_takeBehindStrength wsX0_takeBehindStrength (nRm 1 22) E ad st [.ref (ad b), .int x] (fun r s1 => r = takeB R0 x ∧ isR E ad s1 b sB (rB (takeR R0 x)) ∧ fr b st s1) := by
  refine nSz (cc := cX0_takeBehindStrength) (maxL := 3) (by decide) rfl (Nat.le_of_ble_eq_true rfl) ?_
  intro pg en s mi ar bw mth cd R Q A ls hx hb hml hown hts hRm hP hK hD hZ hA hl hret
  subst hRm
  have hown : s.vm.findClass RX0 = some mi.cls := hown
  have hS : va_S A s.heap s.heap [] := va_S.rf
  have hl : lv_has ls 3 [(0, .ref (ad b)), (1, .int x)] := hl
  have hf : fr b st st := fr.rf
  have hinX0 : ∀ w ∈ wsX00, w ∈ wsX0_takeBehindStrength := by decide +kernel
  refine lv_iload_n hx hb dX0_takeBehindStrength_0 rfl (lv_at hl 1 rfl) ?_
  refine lv_bipush (v := 59) hx hb dX0_takeBehindStrength_1 (by decide) ?_
  refine lv_icmp_ne (tgt := 36) hx hb dX0_takeBehindStrength_3 (by decide) (fun c3_0 => ?_) (fun c3_0 => ?_)
  · refine lv_iload_n hx hb dX0_takeBehindStrength_36 rfl (lv_at hl 1 rfl) ?_
    refine lv_bipush (v := 48) hx hb dX0_takeBehindStrength_37 (by decide) ?_
    refine lv_isub hx hb dX0_takeBehindStrength_39 ?_
    refine lv_topi (fun x2_40 ex2_40 => ?_)
    refine lv_istore_n (lv' := [(2, .int x2_40), (0, .ref (ad b)), (1, .int x)]) hx hb dX0_takeBehindStrength_40 rfl hl (by decide) rfl (fun ls hl => ?_)
    refine lv_aload_n hx hb dX0_takeBehindStrength_41 rfl (lv_at hl 1 rfl) ?_
    refine lv_bipush (v := 10) hx hb dX0_takeBehindStrength_42 (by decide) ?_
    refine lv_aload_n hx hb dX0_takeBehindStrength_44 rfl (lv_at hl 1 rfl) ?_
    refine rg (v := .int (R0 5)) (T := TX0) (N := 6) (C := RX0) hx hb hts hinX0 hown hK hP hB rfl 5 (by decide) (hts (.fieldLink RX0 31 "NeedleGrid$BarReader" "strength" "I") (by decide +kernel)) rfl dX0_takeBehindStrength_45 ?_
    refine lv_imul hx hb dX0_takeBehindStrength_48 ?_
    refine lv_iload_n hx hb dX0_takeBehindStrength_49 rfl (lv_at hl 0 rfl) ?_
    refine lv_iadd hx hb dX0_takeBehindStrength_50 ?_
    refine rp (v := (10 * (R0 5)) + x2_40) (ty := .int) (T := TX0) (N := 6) (C := RX0) hx hb hts hinX0 tyX0 tyX0_ok nmX0 hown hK hP hD hS hB rfl 5 (by decide) (hts (.fieldLink RX0 31 "NeedleGrid$BarReader" "strength" "I") (by decide +kernel)) rfl rfl (by decide +kernel) rfl rfl dX0_takeBehindStrength_51 (fun s_2 H locs hB hf_3 hP hD hS => ?_)
    have hf := hf.tr hf_3
    refine lv_aload_n hx hb dX0_takeBehindStrength_54 rfl (lv_at hl 1 rfl) ?_
    refine lv_iconst (v := 4) hx hb dX0_takeBehindStrength_55 (by decide) ?_
    refine lv_iload_n hx hb dX0_takeBehindStrength_56 rfl (lv_at hl 0 rfl) ?_
    refine lv_if_lt (tgt := 79) hx hb dX0_takeBehindStrength_57 (by decide) (fun c57_3 => ?_) (fun c57_3 => ?_)
    · refine lv_iconst (v := 0) hx hb dX0_takeBehindStrength_79 (by decide) ?_
      refine nVi (As := [.int 4, .int 0]) (rest := _) hx hb hml hown hts hP hK hD hZ hA hS ⟨Nat.zero_le _, Nat.zero_le _⟩ hB.1 rfl (c_goOn l E ad s_2 b (upd R0 5 ((10 * (R0 5)) + x2_40)) (hB.eq (all6 rfl rfl rfl rfl rfl rfl)) 4 0 (by first | exact Or.inl rfl | exact Or.inr rfl)) (cwV 2 hts gX0_takeBehindStrength_X0_goOn rfl rfl rfl (by decide +kernel) ⟨Nat.le_of_ble_eq_true rfl, Nat.le_of_ble_eq_true rfl⟩) hl.1 rfl (Nat.le_of_ble_eq_true rfl) dX0_takeBehindStrength_80 (fun r_5 s_7 H locs hq hP hD hS => ?_)
      obtain ⟨hrr_5, hB, hf_6⟩ := hq
      have hf := hf.tr hf_6
      have hRR : takeR R0 x = (upd (upd R0 5 ((10 * (R0 5)) + x2_40)) 0 4) := by subst ex2_40 hrr_5; delta takeR; simp only [if_neg hd.1, if_neg hd.2.1, if_neg hd.2.2.1, if_neg hd.2.2.2, if_neg c3_0, if_pos c57_3]
      rw [← hRR] at hB
      exact hret _ _ _ _ _ _ hP hD hS (⟨by subst ex2_40 hrr_5; delta takeB; simp only [if_neg hd.1, if_neg hd.2.1, if_neg hd.2.2.1, if_neg hd.2.2.2, if_neg c3_0, if_pos c57_3], hB, hf⟩) (by subst ex2_40 hrr_5; first | exact Or.inl rfl | exact Or.inr rfl) dX0_takeBehindStrength_83
    · refine lv_iload_n hx hb dX0_takeBehindStrength_60 rfl (lv_at hl 0 rfl) ?_
      refine lv_bipush (v := 9) hx hb dX0_takeBehindStrength_61 (by decide) ?_
      refine lv_icmp_gt (tgt := 79) hx hb dX0_takeBehindStrength_63 (by decide) (fun c63_7 => ?_) (fun c63_7 => ?_)
      · refine lv_iconst (v := 0) hx hb dX0_takeBehindStrength_79 (by decide) ?_
        refine nVi (As := [.int 4, .int 0]) (rest := _) hx hb hml hown hts hP hK hD hZ hA hS ⟨Nat.zero_le _, Nat.zero_le _⟩ hB.1 rfl (c_goOn l E ad s_2 b (upd R0 5 ((10 * (R0 5)) + x2_40)) (hB.eq (all6 rfl rfl rfl rfl rfl rfl)) 4 0 (by first | exact Or.inl rfl | exact Or.inr rfl)) (cwV 2 hts gX0_takeBehindStrength_X0_goOn rfl rfl rfl (by decide +kernel) ⟨Nat.le_of_ble_eq_true rfl, Nat.le_of_ble_eq_true rfl⟩) hl.1 rfl (Nat.le_of_ble_eq_true rfl) dX0_takeBehindStrength_80 (fun r_9 s_11 H locs hq hP hD hS => ?_)
        obtain ⟨hrr_9, hB, hf_10⟩ := hq
        have hf := hf.tr hf_10
        have hRR : takeR R0 x = (upd (upd R0 5 ((10 * (R0 5)) + x2_40)) 0 4) := by subst ex2_40 hrr_9; delta takeR; simp only [if_neg hd.1, if_neg hd.2.1, if_neg hd.2.2.1, if_neg hd.2.2.2, if_neg c3_0, if_neg c57_3, if_pos c63_7]
        rw [← hRR] at hB
        exact hret _ _ _ _ _ _ hP hD hS (⟨by subst ex2_40 hrr_9; delta takeB; simp only [if_neg hd.1, if_neg hd.2.1, if_neg hd.2.2.1, if_neg hd.2.2.2, if_neg c3_0, if_neg c57_3, if_pos c63_7], hB, hf⟩) (by subst ex2_40 hrr_9; first | exact Or.inl rfl | exact Or.inr rfl) dX0_takeBehindStrength_83
      · refine lv_aload_n hx hb dX0_takeBehindStrength_66 rfl (lv_at hl 1 rfl) ?_
        refine rg (v := .int ((10 * (R0 5)) + x2_40)) (T := TX0) (N := 6) (C := RX0) hx hb hts hinX0 hown hK hP hB rfl 5 (by decide) (hts (.fieldLink RX0 31 "NeedleGrid$BarReader" "strength" "I") (by decide +kernel)) rfl dX0_takeBehindStrength_67 ?_
        refine lv_bipush (v := 50) hx hb dX0_takeBehindStrength_70 (by decide) ?_
        refine lv_icmp_gt (tgt := 79) hx hb dX0_takeBehindStrength_72 (by decide) (fun c72_11 => ?_) (fun c72_11 => ?_)
        · refine lv_iconst (v := 0) hx hb dX0_takeBehindStrength_79 (by decide) ?_
          refine nVi (As := [.int 4, .int 0]) (rest := _) hx hb hml hown hts hP hK hD hZ hA hS ⟨Nat.zero_le _, Nat.zero_le _⟩ hB.1 rfl (c_goOn l E ad s_2 b (upd R0 5 ((10 * (R0 5)) + x2_40)) (hB.eq (all6 rfl rfl rfl rfl rfl rfl)) 4 0 (by first | exact Or.inl rfl | exact Or.inr rfl)) (cwV 2 hts gX0_takeBehindStrength_X0_goOn rfl rfl rfl (by decide +kernel) ⟨Nat.le_of_ble_eq_true rfl, Nat.le_of_ble_eq_true rfl⟩) hl.1 rfl (Nat.le_of_ble_eq_true rfl) dX0_takeBehindStrength_80 (fun r_13 s_15 H locs hq hP hD hS => ?_)
          obtain ⟨hrr_13, hB, hf_14⟩ := hq
          have hf := hf.tr hf_14
          have hRR : takeR R0 x = (upd (upd R0 5 ((10 * (R0 5)) + x2_40)) 0 4) := by subst ex2_40 hrr_13; delta takeR; simp only [if_neg hd.1, if_neg hd.2.1, if_neg hd.2.2.1, if_neg hd.2.2.2, if_neg c3_0, if_neg c57_3, if_neg c63_7, if_pos c72_11]
          rw [← hRR] at hB
          exact hret _ _ _ _ _ _ hP hD hS (⟨by subst ex2_40 hrr_13; delta takeB; simp only [if_neg hd.1, if_neg hd.2.1, if_neg hd.2.2.1, if_neg hd.2.2.2, if_neg c3_0, if_neg c57_3, if_neg c63_7, if_pos c72_11], hB, hf⟩) (by subst ex2_40 hrr_13; first | exact Or.inl rfl | exact Or.inr rfl) dX0_takeBehindStrength_83
        · refine lv_iconst (v := 1) hx hb dX0_takeBehindStrength_75 (by decide) ?_
          refine lv_goto (tgt := 80) hx hb dX0_takeBehindStrength_76 (by decide) ?_
          refine nVi (As := [.int 4, .int 1]) (rest := _) hx hb hml hown hts hP hK hD hZ hA hS ⟨Nat.zero_le _, Nat.zero_le _⟩ hB.1 rfl (c_goOn l E ad s_2 b (upd R0 5 ((10 * (R0 5)) + x2_40)) (hB.eq (all6 rfl rfl rfl rfl rfl rfl)) 4 1 (by first | exact Or.inl rfl | exact Or.inr rfl)) (cwV 2 hts gX0_takeBehindStrength_X0_goOn rfl rfl rfl (by decide +kernel) ⟨Nat.le_of_ble_eq_true rfl, Nat.le_of_ble_eq_true rfl⟩) hl.1 rfl (Nat.le_of_ble_eq_true rfl) dX0_takeBehindStrength_80 (fun r_16 s_18 H locs hq hP hD hS => ?_)
          obtain ⟨hrr_16, hB, hf_17⟩ := hq
          have hf := hf.tr hf_17
          have hRR : takeR R0 x = (upd (upd R0 5 ((10 * (R0 5)) + x2_40)) 0 4) := by subst ex2_40 hrr_16; delta takeR; simp only [if_neg hd.1, if_neg hd.2.1, if_neg hd.2.2.1, if_neg hd.2.2.2, if_neg c3_0, if_neg c57_3, if_neg c63_7, if_neg c72_11]
          rw [← hRR] at hB
          exact hret _ _ _ _ _ _ hP hD hS (⟨by subst ex2_40 hrr_16; delta takeB; simp only [if_neg hd.1, if_neg hd.2.1, if_neg hd.2.2.1, if_neg hd.2.2.2, if_neg c3_0, if_neg c57_3, if_neg c63_7, if_neg c72_11], hB, hf⟩) (by subst ex2_40 hrr_16; first | exact Or.inl rfl | exact Or.inr rfl) dX0_takeBehindStrength_83
  · refine lv_aload_n hx hb dX0_takeBehindStrength_6 rfl (lv_at hl 0 rfl) ?_
    refine lv_dup hx hb dX0_takeBehindStrength_7 rfl ?_
    refine rg (v := .int (R0 1)) (T := TX0) (N := 6) (C := RX0) hx hb hts hinX0 hown hK hP hB rfl 1 (by decide) (hts (.fieldLink RX0 15 "NeedleGrid$BarReader" "parts" "I") (by decide +kernel)) rfl dX0_takeBehindStrength_8 ?_
    refine lv_iconst (v := 1) hx hb dX0_takeBehindStrength_11 (by decide) ?_
    refine lv_iadd hx hb dX0_takeBehindStrength_12 ?_
    refine rp (v := (R0 1) + 1) (ty := .int) (T := TX0) (N := 6) (C := RX0) hx hb hts hinX0 tyX0 tyX0_ok nmX0 hown hK hP hD hS hB rfl 1 (by decide) (hts (.fieldLink RX0 15 "NeedleGrid$BarReader" "parts" "I") (by decide +kernel)) rfl rfl (by decide +kernel) rfl rfl dX0_takeBehindStrength_13 (fun s_19 H locs hB hf_20 hP hD hS => ?_)
    have hf := hf.tr hf_20
    refine lv_aload_n hx hb dX0_takeBehindStrength_16 rfl (lv_at hl 0 rfl) ?_
    refine lv_iconst (v := 0) hx hb dX0_takeBehindStrength_17 (by decide) ?_
    refine lv_aload_n hx hb dX0_takeBehindStrength_18 rfl (lv_at hl 0 rfl) ?_
    refine rg (v := .int ((R0 1) + 1)) (T := TX0) (N := 6) (C := RX0) hx hb hts hinX0 hown hK hP hB rfl 1 (by decide) (hts (.fieldLink RX0 15 "NeedleGrid$BarReader" "parts" "I") (by decide +kernel)) rfl dX0_takeBehindStrength_19 ?_
    refine lv_bipush (v := 6) hx hb dX0_takeBehindStrength_22 (by decide) ?_
    refine lv_icmp_gt (tgt := 31) hx hb dX0_takeBehindStrength_24 (by decide) (fun c24_20 => ?_) (fun c24_20 => ?_)
    · refine lv_iconst (v := 0) hx hb dX0_takeBehindStrength_31 (by decide) ?_
      refine nVi (As := [.int 0, .int 0]) (rest := _) hx hb hml hown hts hP hK hD hZ hA hS ⟨Nat.zero_le _, Nat.zero_le _⟩ hB.1 rfl (c_goOn l E ad s_19 b (upd R0 1 ((R0 1) + 1)) (hB.eq (all6 rfl rfl rfl rfl rfl rfl)) 0 0 (by first | exact Or.inl rfl | exact Or.inr rfl)) (cwV 2 hts gX0_takeBehindStrength_X0_goOn rfl rfl rfl (by decide +kernel) ⟨Nat.le_of_ble_eq_true rfl, Nat.le_of_ble_eq_true rfl⟩) hl.1 rfl (Nat.le_of_ble_eq_true rfl) dX0_takeBehindStrength_32 (fun r_22 s_24 H locs hq hP hD hS => ?_)
      obtain ⟨hrr_22, hB, hf_23⟩ := hq
      have hf := hf.tr hf_23
      have hRR : takeR R0 x = (upd (upd R0 1 ((R0 1) + 1)) 0 0) := by subst hrr_22; delta takeR; simp only [if_neg hd.1, if_neg hd.2.1, if_neg hd.2.2.1, if_neg hd.2.2.2, if_pos c3_0, if_pos c24_20]
      rw [← hRR] at hB
      exact hret _ _ _ _ _ _ hP hD hS (⟨by subst hrr_22; delta takeB; simp only [if_neg hd.1, if_neg hd.2.1, if_neg hd.2.2.1, if_neg hd.2.2.2, if_pos c3_0, if_pos c24_20], hB, hf⟩) (by subst hrr_22; first | exact Or.inl rfl | exact Or.inr rfl) dX0_takeBehindStrength_35
    · refine lv_iconst (v := 1) hx hb dX0_takeBehindStrength_27 (by decide) ?_
      refine lv_goto (tgt := 32) hx hb dX0_takeBehindStrength_28 (by decide) ?_
      refine nVi (As := [.int 0, .int 1]) (rest := _) hx hb hml hown hts hP hK hD hZ hA hS ⟨Nat.zero_le _, Nat.zero_le _⟩ hB.1 rfl (c_goOn l E ad s_19 b (upd R0 1 ((R0 1) + 1)) (hB.eq (all6 rfl rfl rfl rfl rfl rfl)) 0 1 (by first | exact Or.inl rfl | exact Or.inr rfl)) (cwV 2 hts gX0_takeBehindStrength_X0_goOn rfl rfl rfl (by decide +kernel) ⟨Nat.le_of_ble_eq_true rfl, Nat.le_of_ble_eq_true rfl⟩) hl.1 rfl (Nat.le_of_ble_eq_true rfl) dX0_takeBehindStrength_32 (fun r_25 s_27 H locs hq hP hD hS => ?_)
      obtain ⟨hrr_25, hB, hf_26⟩ := hq
      have hf := hf.tr hf_26
      have hRR : takeR R0 x = (upd (upd R0 1 ((R0 1) + 1)) 0 0) := by subst hrr_25; delta takeR; simp only [if_neg hd.1, if_neg hd.2.1, if_neg hd.2.2.1, if_neg hd.2.2.2, if_pos c3_0, if_neg c24_20]
      rw [← hRR] at hB
      exact hret _ _ _ _ _ _ hP hD hS (⟨by subst hrr_25; delta takeB; simp only [if_neg hd.1, if_neg hd.2.1, if_neg hd.2.2.1, if_neg hd.2.2.2, if_pos c3_0, if_neg c24_20], hB, hf⟩) (by subst hrr_25; first | exact Or.inl rfl | exact Or.inr rfl) dX0_takeBehindStrength_35

set_option maxHeartbeats 4000000 in
set_option maxRecDepth 100000 in
theorem c_take (l : Launch) (E : NE) (ad : Nat → Nat) (st : NW) (b : Nat) (R0 : Nat → Int32) (hB : isR E ad st b sB (rB R0)) (x : Int32) : nMi l yX0_take wsX0_take (nRm 2 44) E ad st [.ref (ad b), .int x] (fun r s1 => r = takeB R0 x ∧ isR E ad s1 b sB (rB (takeR R0 x)) ∧ fr b st s1) := by
  refine nSz (cc := cX0_take) (maxL := 3) (by decide) rfl (Nat.le_of_ble_eq_true rfl) ?_
  intro pg en s mi ar bw mth cd R Q A ls hx hb hml hown hts hRm hP hK hD hZ hA hl hret
  subst hRm
  have hown : s.vm.findClass RX0 = some mi.cls := hown
  have hS : va_S A s.heap s.heap [] := va_S.rf
  have hl : lv_has ls 3 [(0, .ref (ad b)), (1, .int x)] := hl
  have hf : fr b st st := fr.rf
  have hinX0 : ∀ w ∈ wsX00, w ∈ wsX0_take := by decide +kernel
  refine lv_iload_n hx hb dX0_take_0 rfl (lv_at hl 1 rfl) ?_
  refine lv_bipush (v := 48) hx hb dX0_take_1 (by decide) ?_
  refine lv_isub hx hb dX0_take_3 ?_
  refine lv_topi (fun x2_4 ex2_4 => ?_)
  refine lv_istore_n (lv' := [(2, .int x2_4), (0, .ref (ad b)), (1, .int x)]) hx hb dX0_take_4 rfl hl (by decide) rfl (fun ls hl => ?_)
  refine lv_aload_n hx hb dX0_take_5 rfl (lv_at hl 1 rfl) ?_
  refine rg (v := .int (R0 0)) (T := TX0) (N := 6) (C := RX0) hx hb hts hinX0 hown hK hP hB rfl 0 (by decide) (hts (.fieldLink RX0 11 "NeedleGrid$BarReader" "due" "I") (by decide +kernel)) rfl dX0_take_6 ?_
  rcases tsw4 (R0 0) with hz | hz | hz | hz | ⟨hd, hz⟩
  · refine lv_tableIn (x := R0 0) (off := 31) (tgt := 40) hx hb dX0_take_9 (by rw [hz]; decide) (by rw [hz]; decide) (by rw [hz]; rfl) (by decide) ?_
    refine lv_aload_n hx hb dX0_take_40 rfl (lv_at hl 1 rfl) ?_
    refine lv_iload_n hx hb dX0_take_41 rfl (lv_at hl 0 rfl) ?_
    refine rp (v := x2_4) (ty := .int) (T := TX0) (N := 6) (C := RX0) hx hb hts hinX0 tyX0 tyX0_ok nmX0 hown hK hP hD hS hB rfl 2 (by decide) (hts (.fieldLink RX0 18 "NeedleGrid$BarReader" "column" "I") (by decide +kernel)) rfl rfl (by decide +kernel) rfl rfl dX0_take_42 (fun s_1 H locs hB hf_2 hP hD hS => ?_)
    have hf := hf.tr hf_2
    refine lv_aload_n hx hb dX0_take_45 rfl (lv_at hl 1 rfl) ?_
    refine lv_iconst (v := 1) hx hb dX0_take_46 (by decide) ?_
    refine lv_iload_n hx hb dX0_take_47 rfl (lv_at hl 0 rfl) ?_
    refine lv_if_lt (tgt := 61) hx hb dX0_take_48 (by decide) (fun c48_2 => ?_) (fun c48_2 => ?_)
    · refine lv_iconst (v := 0) hx hb dX0_take_61 (by decide) ?_
      refine nVi (As := [.int 1, .int 0]) (rest := _) hx hb hml hown hts hP hK hD hZ hA hS ⟨Nat.zero_le _, Nat.zero_le _⟩ hB.1 rfl (c_goOn l E ad s_1 b (upd R0 2 x2_4) (hB.eq (all6 rfl rfl rfl rfl rfl rfl)) 1 0 (by first | exact Or.inl rfl | exact Or.inr rfl)) (cwV 2 hts gX0_take_X0_goOn rfl rfl rfl (by decide +kernel) ⟨Nat.le_of_ble_eq_true rfl, Nat.le_of_ble_eq_true rfl⟩) hl.1 rfl (Nat.le_of_ble_eq_true rfl) dX0_take_62 (fun r_4 s_6 H locs hq hP hD hS => ?_)
      obtain ⟨hrr_4, hB, hf_5⟩ := hq
      have hf := hf.tr hf_5
      have hRR : takeR R0 x = (upd (upd R0 2 x2_4) 0 1) := by subst ex2_4 hrr_4; delta takeR; simp only [if_pos hz, if_pos c48_2]
      rw [← hRR] at hB
      exact hret _ _ _ _ _ _ hP hD hS (⟨by subst ex2_4 hrr_4; delta takeB; simp only [if_pos hz, if_pos c48_2], hB, hf⟩) (by subst ex2_4 hrr_4; first | exact Or.inl rfl | exact Or.inr rfl) dX0_take_65
    · refine lv_iload_n hx hb dX0_take_51 rfl (lv_at hl 0 rfl) ?_
      refine lv_bipush (v := 6) hx hb dX0_take_52 (by decide) ?_
      refine lv_icmp_ge (tgt := 61) hx hb dX0_take_54 (by decide) (fun c54_6 => ?_) (fun c54_6 => ?_)
      · refine lv_iconst (v := 0) hx hb dX0_take_61 (by decide) ?_
        refine nVi (As := [.int 1, .int 0]) (rest := _) hx hb hml hown hts hP hK hD hZ hA hS ⟨Nat.zero_le _, Nat.zero_le _⟩ hB.1 rfl (c_goOn l E ad s_1 b (upd R0 2 x2_4) (hB.eq (all6 rfl rfl rfl rfl rfl rfl)) 1 0 (by first | exact Or.inl rfl | exact Or.inr rfl)) (cwV 2 hts gX0_take_X0_goOn rfl rfl rfl (by decide +kernel) ⟨Nat.le_of_ble_eq_true rfl, Nat.le_of_ble_eq_true rfl⟩) hl.1 rfl (Nat.le_of_ble_eq_true rfl) dX0_take_62 (fun r_8 s_10 H locs hq hP hD hS => ?_)
        obtain ⟨hrr_8, hB, hf_9⟩ := hq
        have hf := hf.tr hf_9
        have hRR : takeR R0 x = (upd (upd R0 2 x2_4) 0 1) := by subst ex2_4 hrr_8; delta takeR; simp only [if_pos hz, if_neg c48_2, if_pos c54_6]
        rw [← hRR] at hB
        exact hret _ _ _ _ _ _ hP hD hS (⟨by subst ex2_4 hrr_8; delta takeB; simp only [if_pos hz, if_neg c48_2, if_pos c54_6], hB, hf⟩) (by subst ex2_4 hrr_8; first | exact Or.inl rfl | exact Or.inr rfl) dX0_take_65
      · refine lv_iconst (v := 1) hx hb dX0_take_57 (by decide) ?_
        refine lv_goto (tgt := 62) hx hb dX0_take_58 (by decide) ?_
        refine nVi (As := [.int 1, .int 1]) (rest := _) hx hb hml hown hts hP hK hD hZ hA hS ⟨Nat.zero_le _, Nat.zero_le _⟩ hB.1 rfl (c_goOn l E ad s_1 b (upd R0 2 x2_4) (hB.eq (all6 rfl rfl rfl rfl rfl rfl)) 1 1 (by first | exact Or.inl rfl | exact Or.inr rfl)) (cwV 2 hts gX0_take_X0_goOn rfl rfl rfl (by decide +kernel) ⟨Nat.le_of_ble_eq_true rfl, Nat.le_of_ble_eq_true rfl⟩) hl.1 rfl (Nat.le_of_ble_eq_true rfl) dX0_take_62 (fun r_11 s_13 H locs hq hP hD hS => ?_)
        obtain ⟨hrr_11, hB, hf_12⟩ := hq
        have hf := hf.tr hf_12
        have hRR : takeR R0 x = (upd (upd R0 2 x2_4) 0 1) := by subst ex2_4 hrr_11; delta takeR; simp only [if_pos hz, if_neg c48_2, if_neg c54_6]
        rw [← hRR] at hB
        exact hret _ _ _ _ _ _ hP hD hS (⟨by subst ex2_4 hrr_11; delta takeB; simp only [if_pos hz, if_neg c48_2, if_neg c54_6], hB, hf⟩) (by subst ex2_4 hrr_11; first | exact Or.inl rfl | exact Or.inr rfl) dX0_take_65
  · refine lv_tableIn (x := R0 0) (off := 57) (tgt := 66) hx hb dX0_take_9 (by rw [hz]; decide) (by rw [hz]; decide) (by rw [hz]; rfl) (by decide) ?_
    have hz0 : ¬ R0 0 = 0 := by rw [hz]; decide
    refine lv_aload_n hx hb dX0_take_66 rfl (lv_at hl 1 rfl) ?_
    refine lv_iload_n hx hb dX0_take_67 rfl (lv_at hl 0 rfl) ?_
    refine rp (v := x2_4) (ty := .int) (T := TX0) (N := 6) (C := RX0) hx hb hts hinX0 tyX0 tyX0_ok nmX0 hown hK hP hD hS hB rfl 3 (by decide) (hts (.fieldLink RX0 25 "NeedleGrid$BarReader" "row" "I") (by decide +kernel)) rfl rfl (by decide +kernel) rfl rfl dX0_take_68 (fun s_14 H locs hB hf_15 hP hD hS => ?_)
    have hf := hf.tr hf_15
    refine lv_aload_n hx hb dX0_take_71 rfl (lv_at hl 1 rfl) ?_
    refine lv_iconst (v := 2) hx hb dX0_take_72 (by decide) ?_
    refine lv_iload_n hx hb dX0_take_73 rfl (lv_at hl 0 rfl) ?_
    refine lv_if_lt (tgt := 87) hx hb dX0_take_74 (by decide) (fun c74_15 => ?_) (fun c74_15 => ?_)
    · refine lv_iconst (v := 0) hx hb dX0_take_87 (by decide) ?_
      refine nVi (As := [.int 2, .int 0]) (rest := _) hx hb hml hown hts hP hK hD hZ hA hS ⟨Nat.zero_le _, Nat.zero_le _⟩ hB.1 rfl (c_goOn l E ad s_14 b (upd R0 3 x2_4) (hB.eq (all6 rfl rfl rfl rfl rfl rfl)) 2 0 (by first | exact Or.inl rfl | exact Or.inr rfl)) (cwV 2 hts gX0_take_X0_goOn rfl rfl rfl (by decide +kernel) ⟨Nat.le_of_ble_eq_true rfl, Nat.le_of_ble_eq_true rfl⟩) hl.1 rfl (Nat.le_of_ble_eq_true rfl) dX0_take_88 (fun r_17 s_19 H locs hq hP hD hS => ?_)
      obtain ⟨hrr_17, hB, hf_18⟩ := hq
      have hf := hf.tr hf_18
      have hRR : takeR R0 x = (upd (upd R0 3 x2_4) 0 2) := by subst ex2_4 hrr_17; delta takeR; simp only [if_neg hz0, if_pos hz, if_pos c74_15]
      rw [← hRR] at hB
      exact hret _ _ _ _ _ _ hP hD hS (⟨by subst ex2_4 hrr_17; delta takeB; simp only [if_neg hz0, if_pos hz, if_pos c74_15], hB, hf⟩) (by subst ex2_4 hrr_17; first | exact Or.inl rfl | exact Or.inr rfl) dX0_take_91
    · refine lv_iload_n hx hb dX0_take_77 rfl (lv_at hl 0 rfl) ?_
      refine lv_bipush (v := 6) hx hb dX0_take_78 (by decide) ?_
      refine lv_icmp_ge (tgt := 87) hx hb dX0_take_80 (by decide) (fun c80_19 => ?_) (fun c80_19 => ?_)
      · refine lv_iconst (v := 0) hx hb dX0_take_87 (by decide) ?_
        refine nVi (As := [.int 2, .int 0]) (rest := _) hx hb hml hown hts hP hK hD hZ hA hS ⟨Nat.zero_le _, Nat.zero_le _⟩ hB.1 rfl (c_goOn l E ad s_14 b (upd R0 3 x2_4) (hB.eq (all6 rfl rfl rfl rfl rfl rfl)) 2 0 (by first | exact Or.inl rfl | exact Or.inr rfl)) (cwV 2 hts gX0_take_X0_goOn rfl rfl rfl (by decide +kernel) ⟨Nat.le_of_ble_eq_true rfl, Nat.le_of_ble_eq_true rfl⟩) hl.1 rfl (Nat.le_of_ble_eq_true rfl) dX0_take_88 (fun r_21 s_23 H locs hq hP hD hS => ?_)
        obtain ⟨hrr_21, hB, hf_22⟩ := hq
        have hf := hf.tr hf_22
        have hRR : takeR R0 x = (upd (upd R0 3 x2_4) 0 2) := by subst ex2_4 hrr_21; delta takeR; simp only [if_neg hz0, if_pos hz, if_neg c74_15, if_pos c80_19]
        rw [← hRR] at hB
        exact hret _ _ _ _ _ _ hP hD hS (⟨by subst ex2_4 hrr_21; delta takeB; simp only [if_neg hz0, if_pos hz, if_neg c74_15, if_pos c80_19], hB, hf⟩) (by subst ex2_4 hrr_21; first | exact Or.inl rfl | exact Or.inr rfl) dX0_take_91
      · refine lv_iconst (v := 1) hx hb dX0_take_83 (by decide) ?_
        refine lv_goto (tgt := 88) hx hb dX0_take_84 (by decide) ?_
        refine nVi (As := [.int 2, .int 1]) (rest := _) hx hb hml hown hts hP hK hD hZ hA hS ⟨Nat.zero_le _, Nat.zero_le _⟩ hB.1 rfl (c_goOn l E ad s_14 b (upd R0 3 x2_4) (hB.eq (all6 rfl rfl rfl rfl rfl rfl)) 2 1 (by first | exact Or.inl rfl | exact Or.inr rfl)) (cwV 2 hts gX0_take_X0_goOn rfl rfl rfl (by decide +kernel) ⟨Nat.le_of_ble_eq_true rfl, Nat.le_of_ble_eq_true rfl⟩) hl.1 rfl (Nat.le_of_ble_eq_true rfl) dX0_take_88 (fun r_24 s_26 H locs hq hP hD hS => ?_)
        obtain ⟨hrr_24, hB, hf_25⟩ := hq
        have hf := hf.tr hf_25
        have hRR : takeR R0 x = (upd (upd R0 3 x2_4) 0 2) := by subst ex2_4 hrr_24; delta takeR; simp only [if_neg hz0, if_pos hz, if_neg c74_15, if_neg c80_19]
        rw [← hRR] at hB
        exact hret _ _ _ _ _ _ hP hD hS (⟨by subst ex2_4 hrr_24; delta takeB; simp only [if_neg hz0, if_pos hz, if_neg c74_15, if_neg c80_19], hB, hf⟩) (by subst ex2_4 hrr_24; first | exact Or.inl rfl | exact Or.inr rfl) dX0_take_91
  · refine lv_tableIn (x := R0 0) (off := 83) (tgt := 92) hx hb dX0_take_9 (by rw [hz]; decide) (by rw [hz]; decide) (by rw [hz]; rfl) (by decide) ?_
    have hz0 : ¬ R0 0 = 0 := by rw [hz]; decide
    have hz1 : ¬ R0 0 = 1 := by rw [hz]; decide
    refine lv_aload_n hx hb dX0_take_92 rfl (lv_at hl 1 rfl) ?_
    refine lv_iload_n hx hb dX0_take_93 rfl (lv_at hl 2 rfl) ?_
    refine lv_bipush (v := 97) hx hb dX0_take_94 (by decide) ?_
    refine lv_isub hx hb dX0_take_96 ?_
    refine rp (v := x - 97) (ty := .int) (T := TX0) (N := 6) (C := RX0) hx hb hts hinX0 tyX0 tyX0_ok nmX0 hown hK hP hD hS hB rfl 4 (by decide) (hts (.fieldLink RX0 28 "NeedleGrid$BarReader" "direction" "I") (by decide +kernel)) rfl rfl (by decide +kernel) rfl rfl dX0_take_97 (fun s_27 H locs hB hf_28 hP hD hS => ?_)
    have hf := hf.tr hf_28
    refine lv_aload_n hx hb dX0_take_100 rfl (lv_at hl 1 rfl) ?_
    refine lv_iconst (v := 3) hx hb dX0_take_101 (by decide) ?_
    refine lv_aload_n hx hb dX0_take_102 rfl (lv_at hl 1 rfl) ?_
    refine rg (v := .int (x - 97)) (T := TX0) (N := 6) (C := RX0) hx hb hts hinX0 hown hK hP hB rfl 4 (by decide) (hts (.fieldLink RX0 28 "NeedleGrid$BarReader" "direction" "I") (by decide +kernel)) rfl dX0_take_103 ?_
    refine lv_if_lt (tgt := 122) hx hb dX0_take_106 (by decide) (fun c106_28 => ?_) (fun c106_28 => ?_)
    · refine lv_iconst (v := 0) hx hb dX0_take_122 (by decide) ?_
      refine nVi (As := [.int 3, .int 0]) (rest := _) hx hb hml hown hts hP hK hD hZ hA hS ⟨Nat.zero_le _, Nat.zero_le _⟩ hB.1 rfl (c_goOn l E ad s_27 b (upd R0 4 (x - 97)) (hB.eq (all6 rfl rfl rfl rfl rfl rfl)) 3 0 (by first | exact Or.inl rfl | exact Or.inr rfl)) (cwV 2 hts gX0_take_X0_goOn rfl rfl rfl (by decide +kernel) ⟨Nat.le_of_ble_eq_true rfl, Nat.le_of_ble_eq_true rfl⟩) hl.1 rfl (Nat.le_of_ble_eq_true rfl) dX0_take_123 (fun r_30 s_32 H locs hq hP hD hS => ?_)
      obtain ⟨hrr_30, hB, hf_31⟩ := hq
      have hf := hf.tr hf_31
      have hRR : takeR R0 x = (upd (upd R0 4 (x - 97)) 0 3) := by subst ex2_4 hrr_30; delta takeR; simp only [if_neg hz0, if_neg hz1, if_pos hz, if_pos c106_28]
      rw [← hRR] at hB
      exact hret _ _ _ _ _ _ hP hD hS (⟨by subst ex2_4 hrr_30; delta takeB; simp only [if_neg hz0, if_neg hz1, if_pos hz, if_pos c106_28], hB, hf⟩) (by subst ex2_4 hrr_30; first | exact Or.inl rfl | exact Or.inr rfl) dX0_take_126
    · refine lv_aload_n hx hb dX0_take_109 rfl (lv_at hl 1 rfl) ?_
      refine rg (v := .int (x - 97)) (T := TX0) (N := 6) (C := RX0) hx hb hts hinX0 hown hK hP hB rfl 4 (by decide) (hts (.fieldLink RX0 28 "NeedleGrid$BarReader" "direction" "I") (by decide +kernel)) rfl dX0_take_110 ?_
      refine lv_bipush (v := 8) hx hb dX0_take_113 (by decide) ?_
      refine lv_icmp_ge (tgt := 122) hx hb dX0_take_115 (by decide) (fun c115_32 => ?_) (fun c115_32 => ?_)
      · refine lv_iconst (v := 0) hx hb dX0_take_122 (by decide) ?_
        refine nVi (As := [.int 3, .int 0]) (rest := _) hx hb hml hown hts hP hK hD hZ hA hS ⟨Nat.zero_le _, Nat.zero_le _⟩ hB.1 rfl (c_goOn l E ad s_27 b (upd R0 4 (x - 97)) (hB.eq (all6 rfl rfl rfl rfl rfl rfl)) 3 0 (by first | exact Or.inl rfl | exact Or.inr rfl)) (cwV 2 hts gX0_take_X0_goOn rfl rfl rfl (by decide +kernel) ⟨Nat.le_of_ble_eq_true rfl, Nat.le_of_ble_eq_true rfl⟩) hl.1 rfl (Nat.le_of_ble_eq_true rfl) dX0_take_123 (fun r_34 s_36 H locs hq hP hD hS => ?_)
        obtain ⟨hrr_34, hB, hf_35⟩ := hq
        have hf := hf.tr hf_35
        have hRR : takeR R0 x = (upd (upd R0 4 (x - 97)) 0 3) := by subst ex2_4 hrr_34; delta takeR; simp only [if_neg hz0, if_neg hz1, if_pos hz, if_neg c106_28, if_pos c115_32]
        rw [← hRR] at hB
        exact hret _ _ _ _ _ _ hP hD hS (⟨by subst ex2_4 hrr_34; delta takeB; simp only [if_neg hz0, if_neg hz1, if_pos hz, if_neg c106_28, if_pos c115_32], hB, hf⟩) (by subst ex2_4 hrr_34; first | exact Or.inl rfl | exact Or.inr rfl) dX0_take_126
      · refine lv_iconst (v := 1) hx hb dX0_take_118 (by decide) ?_
        refine lv_goto (tgt := 123) hx hb dX0_take_119 (by decide) ?_
        refine nVi (As := [.int 3, .int 1]) (rest := _) hx hb hml hown hts hP hK hD hZ hA hS ⟨Nat.zero_le _, Nat.zero_le _⟩ hB.1 rfl (c_goOn l E ad s_27 b (upd R0 4 (x - 97)) (hB.eq (all6 rfl rfl rfl rfl rfl rfl)) 3 1 (by first | exact Or.inl rfl | exact Or.inr rfl)) (cwV 2 hts gX0_take_X0_goOn rfl rfl rfl (by decide +kernel) ⟨Nat.le_of_ble_eq_true rfl, Nat.le_of_ble_eq_true rfl⟩) hl.1 rfl (Nat.le_of_ble_eq_true rfl) dX0_take_123 (fun r_37 s_39 H locs hq hP hD hS => ?_)
        obtain ⟨hrr_37, hB, hf_38⟩ := hq
        have hf := hf.tr hf_38
        have hRR : takeR R0 x = (upd (upd R0 4 (x - 97)) 0 3) := by subst ex2_4 hrr_37; delta takeR; simp only [if_neg hz0, if_neg hz1, if_pos hz, if_neg c106_28, if_neg c115_32]
        rw [← hRR] at hB
        exact hret _ _ _ _ _ _ hP hD hS (⟨by subst ex2_4 hrr_37; delta takeB; simp only [if_neg hz0, if_neg hz1, if_pos hz, if_neg c106_28, if_neg c115_32], hB, hf⟩) (by subst ex2_4 hrr_37; first | exact Or.inl rfl | exact Or.inr rfl) dX0_take_126
  · refine lv_tableIn (x := R0 0) (off := 118) (tgt := 127) hx hb dX0_take_9 (by rw [hz]; decide) (by rw [hz]; decide) (by rw [hz]; rfl) (by decide) ?_
    have hz0 : ¬ R0 0 = 0 := by rw [hz]; decide
    have hz1 : ¬ R0 0 = 1 := by rw [hz]; decide
    have hz2 : ¬ R0 0 = 2 := by rw [hz]; decide
    refine lv_aload_n hx hb dX0_take_127 rfl (lv_at hl 1 rfl) ?_
    refine lv_iload_n hx hb dX0_take_128 rfl (lv_at hl 0 rfl) ?_
    refine rp (v := x2_4) (ty := .int) (T := TX0) (N := 6) (C := RX0) hx hb hts hinX0 tyX0 tyX0_ok nmX0 hown hK hP hD hS hB rfl 5 (by decide) (hts (.fieldLink RX0 31 "NeedleGrid$BarReader" "strength" "I") (by decide +kernel)) rfl rfl (by decide +kernel) rfl rfl dX0_take_129 (fun s_40 H locs hB hf_41 hP hD hS => ?_)
    have hf := hf.tr hf_41
    refine lv_aload_n hx hb dX0_take_132 rfl (lv_at hl 1 rfl) ?_
    refine lv_iconst (v := 4) hx hb dX0_take_133 (by decide) ?_
    refine lv_iload_n hx hb dX0_take_134 rfl (lv_at hl 0 rfl) ?_
    refine lv_iconst (v := 1) hx hb dX0_take_135 (by decide) ?_
    refine lv_icmp_lt (tgt := 149) hx hb dX0_take_136 (by decide) (fun c136_41 => ?_) (fun c136_41 => ?_)
    · refine lv_iconst (v := 0) hx hb dX0_take_149 (by decide) ?_
      refine nVi (As := [.int 4, .int 0]) (rest := _) hx hb hml hown hts hP hK hD hZ hA hS ⟨Nat.zero_le _, Nat.zero_le _⟩ hB.1 rfl (c_goOn l E ad s_40 b (upd R0 5 x2_4) (hB.eq (all6 rfl rfl rfl rfl rfl rfl)) 4 0 (by first | exact Or.inl rfl | exact Or.inr rfl)) (cwV 2 hts gX0_take_X0_goOn rfl rfl rfl (by decide +kernel) ⟨Nat.le_of_ble_eq_true rfl, Nat.le_of_ble_eq_true rfl⟩) hl.1 rfl (Nat.le_of_ble_eq_true rfl) dX0_take_150 (fun r_43 s_45 H locs hq hP hD hS => ?_)
      obtain ⟨hrr_43, hB, hf_44⟩ := hq
      have hf := hf.tr hf_44
      have hRR : takeR R0 x = (upd (upd R0 5 x2_4) 0 4) := by subst ex2_4 hrr_43; delta takeR; simp only [if_neg hz0, if_neg hz1, if_neg hz2, if_pos hz, if_pos c136_41]
      rw [← hRR] at hB
      exact hret _ _ _ _ _ _ hP hD hS (⟨by subst ex2_4 hrr_43; delta takeB; simp only [if_neg hz0, if_neg hz1, if_neg hz2, if_pos hz, if_pos c136_41], hB, hf⟩) (by subst ex2_4 hrr_43; first | exact Or.inl rfl | exact Or.inr rfl) dX0_take_153
    · refine lv_iload_n hx hb dX0_take_139 rfl (lv_at hl 0 rfl) ?_
      refine lv_bipush (v := 9) hx hb dX0_take_140 (by decide) ?_
      refine lv_icmp_gt (tgt := 149) hx hb dX0_take_142 (by decide) (fun c142_45 => ?_) (fun c142_45 => ?_)
      · refine lv_iconst (v := 0) hx hb dX0_take_149 (by decide) ?_
        refine nVi (As := [.int 4, .int 0]) (rest := _) hx hb hml hown hts hP hK hD hZ hA hS ⟨Nat.zero_le _, Nat.zero_le _⟩ hB.1 rfl (c_goOn l E ad s_40 b (upd R0 5 x2_4) (hB.eq (all6 rfl rfl rfl rfl rfl rfl)) 4 0 (by first | exact Or.inl rfl | exact Or.inr rfl)) (cwV 2 hts gX0_take_X0_goOn rfl rfl rfl (by decide +kernel) ⟨Nat.le_of_ble_eq_true rfl, Nat.le_of_ble_eq_true rfl⟩) hl.1 rfl (Nat.le_of_ble_eq_true rfl) dX0_take_150 (fun r_47 s_49 H locs hq hP hD hS => ?_)
        obtain ⟨hrr_47, hB, hf_48⟩ := hq
        have hf := hf.tr hf_48
        have hRR : takeR R0 x = (upd (upd R0 5 x2_4) 0 4) := by subst ex2_4 hrr_47; delta takeR; simp only [if_neg hz0, if_neg hz1, if_neg hz2, if_pos hz, if_neg c136_41, if_pos c142_45]
        rw [← hRR] at hB
        exact hret _ _ _ _ _ _ hP hD hS (⟨by subst ex2_4 hrr_47; delta takeB; simp only [if_neg hz0, if_neg hz1, if_neg hz2, if_pos hz, if_neg c136_41, if_pos c142_45], hB, hf⟩) (by subst ex2_4 hrr_47; first | exact Or.inl rfl | exact Or.inr rfl) dX0_take_153
      · refine lv_iconst (v := 1) hx hb dX0_take_145 (by decide) ?_
        refine lv_goto (tgt := 150) hx hb dX0_take_146 (by decide) ?_
        refine nVi (As := [.int 4, .int 1]) (rest := _) hx hb hml hown hts hP hK hD hZ hA hS ⟨Nat.zero_le _, Nat.zero_le _⟩ hB.1 rfl (c_goOn l E ad s_40 b (upd R0 5 x2_4) (hB.eq (all6 rfl rfl rfl rfl rfl rfl)) 4 1 (by first | exact Or.inl rfl | exact Or.inr rfl)) (cwV 2 hts gX0_take_X0_goOn rfl rfl rfl (by decide +kernel) ⟨Nat.le_of_ble_eq_true rfl, Nat.le_of_ble_eq_true rfl⟩) hl.1 rfl (Nat.le_of_ble_eq_true rfl) dX0_take_150 (fun r_50 s_52 H locs hq hP hD hS => ?_)
        obtain ⟨hrr_50, hB, hf_51⟩ := hq
        have hf := hf.tr hf_51
        have hRR : takeR R0 x = (upd (upd R0 5 x2_4) 0 4) := by subst ex2_4 hrr_50; delta takeR; simp only [if_neg hz0, if_neg hz1, if_neg hz2, if_pos hz, if_neg c136_41, if_neg c142_45]
        rw [← hRR] at hB
        exact hret _ _ _ _ _ _ hP hD hS (⟨by subst ex2_4 hrr_50; delta takeB; simp only [if_neg hz0, if_neg hz1, if_neg hz2, if_pos hz, if_neg c136_41, if_neg c142_45], hB, hf⟩) (by subst ex2_4 hrr_50; first | exact Or.inl rfl | exact Or.inr rfl) dX0_take_153
  · refine lv_tableOut (x := R0 0) (tgt := 154) hx hb dX0_take_9 hz (by decide) ?_
    refine lv_aload_n hx hb dX0_take_154 rfl (lv_at hl 1 rfl) ?_
    refine lv_iload_n hx hb dX0_take_155 rfl (lv_at hl 2 rfl) ?_
    refine nVi (As := [.int x]) (rest := _) hx hb hml hown hts hP hK hD hZ hA hS ⟨Nat.zero_le _, Nat.zero_le _⟩ hB.1 rfl (c_takeBehindStrength l E ad st b R0 hB x hd) (cwV 1 hts gX0_take_X0_takeBehindStrength rfl rfl rfl (by decide +kernel) ⟨Nat.le_of_ble_eq_true rfl, Nat.le_of_ble_eq_true rfl⟩) hl.1 rfl (Nat.le_of_ble_eq_true rfl) dX0_take_156 (fun r_53 s_55 H locs hq hP hD hS => ?_)
    obtain ⟨hrr_53, hB, hf_54⟩ := hq
    have hf := hf.tr hf_54
    exact hret _ _ _ _ _ _ hP hD hS (⟨hrr_53, hB, hf⟩) (by rw [hrr_53]; exact takeB_01 _ _) dX0_take_159

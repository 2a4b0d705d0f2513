set_option maxHeartbeats 4000000 in
set_option maxRecDepth 100000 in
theorem k_Grid (l : Launch) (E : NE) (ad : Nat → Nat) (st : NW) (b sz : Nat) (hg : gArr ad b sz) (hO : st b = some (.inr (2, [.null, .null, .null, .null, .null, .null, .int 0, .int 0, .int 0, .null, .null, .null, .null]))) : nCt l yX2_init wsX2_init (nRc 4 10 327 100) E ad st sz 10 327 [.ref (ad b)] (fun s1 => isR E ad s1 b sG (gN N0) ∧ fr b st s1) := by
  refine nSc (cc := cX2_init) (maxL := 2) (by decide) rfl rfl (Nat.le_of_ble_eq_true rfl) ?_
  intro pg en s mi ar bw mth cd R Q A ls hx hb hml hown hts hRm hP hK hD hZ hA hl hAO hin hsz hret
  subst hRm
  have hown : s.vm.findClass RX2 = some mi.cls := hown
  have hS : va_S A s.heap s.heap [] := va_S.rf
  have hl : lv_has ls 2 [(0, .ref (ad b))] := hl
  have hinX2 : ∀ w ∈ wsX20, w ∈ wsX2_init := by decide +kernel
  subst hsz
  obtain ⟨g0, g1, g2, g3, g4, g5, g9, g10, g11, g12⟩ := hg
  have hf : fr b st st := fr.rf
  have hp : pR E ad st b 2 _ [] G0 := ⟨hO, fun q hq => absurd hq List.not_mem_nil⟩
  have hge : s.heap.size + 0 ≤ s.heap.size := Nat.le_refl _
  refine lv_aload_n hx hb dX2_init_0 rfl (lv_at hl 0 rfl) ?_
  refine W.objInit hx hb hown (hts (.methodLink RX2 3 objectInit) (by decide +kernel)) (hts (.instanceMethod objectInit) (by decide +kernel)) (hts (.code objectInit ⟨#[0xb1]⟩ 1 none) (by decide +kernel)) rfl (by rw [hml]; exact hl.1) rfl dX2_init_1 (Nat.le_of_ble_eq_true rfl) (Nat.le_of_ble_eq_true rfl) ?_
  refine W.eq (g2 := F0 mi 4 ls []) rfl ?_
  refine lv_aload_n hx hb dX2_init_4 rfl (lv_at hl 0 rfl) ?_
  refine lv_bipush (v := 36) hx hb dX2_init_5 (by decide) ?_
  refine nField (k := 0) (ln := 36) (z := 0) (T := TX2) (N := 13) (C := RX2) (atype := .int) hx hb (Or.inl ⟨rfl, rfl⟩) (hts (.arrayClass .int) (by decide +kernel)) hK hP hD hS hA hts hinX2 tyX2 tyX2_ok nmX2 hown hp hf hge g0 (by decide) rfl (by decide) (by decide) (by decide) (by decide) (Nat.le_of_ble_eq_true rfl) (Nat.le_of_ble_eq_true rfl) dX2_init_7 rfl (by decide) (hts (.fieldLink RX2 9 "NeedleGrid$Grid" "directions" "[I") (by decide +kernel)) rfl hin rfl rfl rfl (Nat.le_of_ble_eq_true rfl) dX2_init_9 (fun st1 H locs hp hf hP hD hS hge => ?_)
  refine lv_aload_n hx hb dX2_init_12 rfl (lv_at hl 0 rfl) ?_
  refine lv_bipush (v := 36) hx hb dX2_init_13 (by decide) ?_
  refine nField (k := 1) (ln := 36) (z := 0) (T := TX2) (N := 13) (C := RX2) (atype := .int) hx hb (Or.inl ⟨rfl, rfl⟩) (hts (.arrayClass .int) (by decide +kernel)) hK hP hD hS hA hts hinX2 tyX2 tyX2_ok nmX2 hown hp hf hge g1 (by decide) rfl (by decide) (by decide) (by decide) (by decide) (Nat.le_of_ble_eq_true rfl) (Nat.le_of_ble_eq_true rfl) dX2_init_15 rfl (by decide) (hts (.fieldLink RX2 15 "NeedleGrid$Grid" "frictions" "[I") (by decide +kernel)) rfl hin rfl rfl rfl (Nat.le_of_ble_eq_true rfl) dX2_init_17 (fun st1 H locs hp hf hP hD hS hge => ?_)
  refine lv_aload_n hx hb dX2_init_20 rfl (lv_at hl 0 rfl) ?_
  refine lv_bipush (v := 36) hx hb dX2_init_21 (by decide) ?_
  refine nField (k := 2) (ln := 36) (z := 1) (T := TX2) (N := 13) (C := RX2) (atype := .boolean) hx hb (Or.inr ⟨rfl, rfl⟩) (hts (.arrayClass .boolean) (by decide +kernel)) hK hP hD hS hA hts hinX2 tyX2 tyX2_ok nmX2 hown hp hf hge g2 (by decide) rfl (by decide) (by decide) (by decide) (by decide) (Nat.le_of_ble_eq_true rfl) (Nat.le_of_ble_eq_true rfl) dX2_init_23 rfl (by decide) (hts (.fieldLink RX2 18 "NeedleGrid$Grid" "held" "[Z") (by decide +kernel)) rfl hin rfl rfl rfl (Nat.le_of_ble_eq_true rfl) dX2_init_25 (fun st1 H locs hp hf hP hD hS hge => ?_)
  refine lv_aload_n hx hb dX2_init_28 rfl (lv_at hl 0 rfl) ?_
  refine lv_bipush (v := 36) hx hb dX2_init_29 (by decide) ?_
  refine nField (k := 3) (ln := 36) (z := 0) (T := TX2) (N := 13) (C := RX2) (atype := .int) hx hb (Or.inl ⟨rfl, rfl⟩) (hts (.arrayClass .int) (by decide +kernel)) hK hP hD hS hA hts hinX2 tyX2 tyX2_ok nmX2 hown hp hf hge g3 (by decide) rfl (by decide) (by decide) (by decide) (by decide) (Nat.le_of_ble_eq_true rfl) (Nat.le_of_ble_eq_true rfl) dX2_init_31 rfl (by decide) (hts (.fieldLink RX2 22 "NeedleGrid$Grid" "barDirections" "[I") (by decide +kernel)) rfl hin rfl rfl rfl (Nat.le_of_ble_eq_true rfl) dX2_init_33 (fun st1 H locs hp hf hP hD hS hge => ?_)
  refine lv_aload_n hx hb dX2_init_36 rfl (lv_at hl 0 rfl) ?_
  refine lv_bipush (v := 36) hx hb dX2_init_37 (by decide) ?_
  refine nField (k := 4) (ln := 36) (z := 0) (T := TX2) (N := 13) (C := RX2) (atype := .int) hx hb (Or.inl ⟨rfl, rfl⟩) (hts (.arrayClass .int) (by decide +kernel)) hK hP hD hS hA hts hinX2 tyX2 tyX2_ok nmX2 hown hp hf hge g4 (by decide) rfl (by decide) (by decide) (by decide) (by decide) (Nat.le_of_ble_eq_true rfl) (Nat.le_of_ble_eq_true rfl) dX2_init_39 rfl (by decide) (hts (.fieldLink RX2 25 "NeedleGrid$Grid" "barStrengths" "[I") (by decide +kernel)) rfl hin rfl rfl rfl (Nat.le_of_ble_eq_true rfl) dX2_init_41 (fun st1 H locs hp hf hP hD hS hge => ?_)
  refine lv_aload_n hx hb dX2_init_44 rfl (lv_at hl 0 rfl) ?_
  refine lv_iconst (v := 3) hx hb dX2_init_45 (by decide) ?_
  refine wSz hge fun hsz9 => ?_
  refine nNewA (h := b + 1 + 5) (N := 3) (z := 0) (atype := .int) hx hb (Or.inl ⟨rfl, rfl⟩) (hts (.arrayClass .int) (by decide +kernel)) hK hP hD hS hA (by rw [hsz9]; exact g5) (by decide) (by decide) (by decide) (Nat.le_of_ble_eq_true rfl) (Nat.le_of_ble_eq_true rfl) dX2_init_46 (fun st1 H hn h1 hP hD hS hz9 => ?_)
  rw [hsz9] at hz9
  have hge : s.heap.size + 6 ≤ H.size := by rw [hz9]; exact Nat.le_refl _
  clear hz9 hsz9
  have hf := hf.oneA h1 (by decide)
  have hp : pR E ad st1 b 2 _ [(4, 0, 36), (3, 0, 36), (2, 1, 36), (1, 0, 36), (0, 0, 36)] G0 := ⟨(h1 _ ne_b).trans hp.1, fun q hq => (h1 _ (ne_h ((by decide : ∀ q ∈ (([(4, 0, 36), (3, 0, 36), (2, 1, 36), (1, 0, 36), (0, 0, 36)] : List (Nat × Nat × Nat))), q.1 ≠ 5) q hq))).trans (hp.2 q hq)⟩
  refine lv_dup hx hb dX2_init_48 rfl ?_
  refine lv_iconst (v := 0) hx hb dX2_init_49 (by decide) ?_
  refine lv_bipush (v := 20) hx hb dX2_init_50 (by decide) ?_
  refine nastC (j := 0) (n := 3) (x := 20) hx hb hK hP hD hS hn (by decide) (by decide) dX2_init_52 (fun st1 H2 locs hn h1 hP hD hS => ?_)
  have hf := hf.oneA h1 (by decide)
  have hp : pR E ad st1 b 2 _ [(4, 0, 36), (3, 0, 36), (2, 1, 36), (1, 0, 36), (0, 0, 36)] G0 := ⟨(h1 _ ne_b).trans hp.1, fun q hq => (h1 _ (ne_h ((by decide : ∀ q ∈ (([(4, 0, 36), (3, 0, 36), (2, 1, 36), (1, 0, 36), (0, 0, 36)] : List (Nat × Nat × Nat))), q.1 ≠ 5) q hq))).trans (hp.2 q hq)⟩
  refine lv_dup hx hb dX2_init_53 rfl ?_
  refine lv_iconst (v := 1) hx hb dX2_init_54 (by decide) ?_
  refine lv_iconst (v := 2) hx hb dX2_init_55 (by decide) ?_
  refine nastC (j := 1) (n := 3) (x := 2) hx hb hK hP hD hS hn (by decide) (by decide) dX2_init_56 (fun st1 H2 locs hn h1 hP hD hS => ?_)
  have hf := hf.oneA h1 (by decide)
  have hp : pR E ad st1 b 2 _ [(4, 0, 36), (3, 0, 36), (2, 1, 36), (1, 0, 36), (0, 0, 36)] G0 := ⟨(h1 _ ne_b).trans hp.1, fun q hq => (h1 _ (ne_h ((by decide : ∀ q ∈ (([(4, 0, 36), (3, 0, 36), (2, 1, 36), (1, 0, 36), (0, 0, 36)] : List (Nat × Nat × Nat))), q.1 ≠ 5) q hq))).trans (hp.2 q hq)⟩
  refine lv_dup hx hb dX2_init_57 rfl ?_
  refine lv_iconst (v := 2) hx hb dX2_init_58 (by decide) ?_
  refine lv_iconst (v := 3) hx hb dX2_init_59 (by decide) ?_
  refine nastC (j := 2) (n := 3) (x := 3) hx hb hK hP hD hS hn (by decide) (by decide) dX2_init_60 (fun st1 H2 locs hn h1 hP hD hS => ?_)
  have hf := hf.oneA h1 (by decide)
  have hp : pR E ad st1 b 2 _ [(4, 0, 36), (3, 0, 36), (2, 1, 36), (1, 0, 36), (0, 0, 36)] G0 := ⟨(h1 _ ne_b).trans hp.1, fun q hq => (h1 _ (ne_h ((by decide : ∀ q ∈ (([(4, 0, 36), (3, 0, 36), (2, 1, 36), (1, 0, 36), (0, 0, 36)] : List (Nat × Nat × Nat))), q.1 ≠ 5) q hq))).trans (hp.2 q hq)⟩
  have hge : s.heap.size + 6 ≤ H2.size := by have h9 := hP.lt (nn hn); rw [show ad (b + 1 + 5) = s.heap.size + 5 from g5] at h9; exact h9
  refine nPutF (v := .ref (ad (b + 1 + 5))) (T := TX2) (N := 13) (C := RX2) hx hb hts hinX2 tyX2 tyX2_ok nmX2 hown hK hP hD hS hp.1 rfl 5 (by decide) (hts (.fieldLink RX2 28 "NeedleGrid$Grid" "settings" "[I") (by decide +kernel)) rfl hin rfl rfl rfl (Nat.le_of_ble_eq_true rfl) dX2_init_61 (fun st1 H locs hn2 h2 hP hD hS hz9 => ?_)
  have hp := pR.put (E := E) (ad := ad) (keys := (5, 0, 3) :: [(4, 0, 36), (3, 0, 36), (2, 1, 36), (1, 0, 36), (0, 0, 36)]) (F := G0) ⟨hp.1, fun q hq => by rcases List.mem_cons.mp hq with rfl | hq; exact hn; exact hp.2 q hq⟩ h2 hn2
  have hf := hf.oneB h2
  have hge : s.heap.size + 6 ≤ H.size := by rw [hz9]; exact hge
  clear hz9 hn2 hn
  refine lv_aload_n hx hb dX2_init_64 rfl (lv_at hl 0 rfl) ?_
  refine lv_bipush (v := 36) hx hb dX2_init_65 (by decide) ?_
  refine nField (k := 9) (ln := 36) (z := 0) (T := TX2) (N := 13) (C := RX2) (atype := .int) hx hb (Or.inl ⟨rfl, rfl⟩) (hts (.arrayClass .int) (by decide +kernel)) hK hP hD hS hA hts hinX2 tyX2 tyX2_ok nmX2 hown hp hf hge g9 (by decide) rfl (by decide) (by decide) (by decide) (by decide) (Nat.le_of_ble_eq_true rfl) (Nat.le_of_ble_eq_true rfl) dX2_init_67 rfl (by decide) (hts (.fieldLink RX2 31 "NeedleGrid$Grid" "stillX" "[I") (by decide +kernel)) rfl hin rfl rfl rfl (Nat.le_of_ble_eq_true rfl) dX2_init_69 (fun st1 H locs hp hf hP hD hS hge => ?_)
  refine lv_aload_n hx hb dX2_init_72 rfl (lv_at hl 0 rfl) ?_
  refine lv_bipush (v := 36) hx hb dX2_init_73 (by decide) ?_
  refine nField (k := 10) (ln := 36) (z := 0) (T := TX2) (N := 13) (C := RX2) (atype := .int) hx hb (Or.inl ⟨rfl, rfl⟩) (hts (.arrayClass .int) (by decide +kernel)) hK hP hD hS hA hts hinX2 tyX2 tyX2_ok nmX2 hown hp hf hge g10 (by decide) rfl (by decide) (by decide) (by decide) (by decide) (Nat.le_of_ble_eq_true rfl) (Nat.le_of_ble_eq_true rfl) dX2_init_75 rfl (by decide) (hts (.fieldLink RX2 34 "NeedleGrid$Grid" "stillY" "[I") (by decide +kernel)) rfl hin rfl rfl rfl (Nat.le_of_ble_eq_true rfl) dX2_init_77 (fun st1 H locs hp hf hP hD hS hge => ?_)
  refine lv_aload_n hx hb dX2_init_80 rfl (lv_at hl 0 rfl) ?_
  refine lv_bipush (v := 36) hx hb dX2_init_81 (by decide) ?_
  refine nField (k := 11) (ln := 36) (z := 0) (T := TX2) (N := 13) (C := RX2) (atype := .int) hx hb (Or.inl ⟨rfl, rfl⟩) (hts (.arrayClass .int) (by decide +kernel)) hK hP hD hS hA hts hinX2 tyX2 tyX2_ok nmX2 hown hp hf hge g11 (by decide) rfl (by decide) (by decide) (by decide) (by decide) (Nat.le_of_ble_eq_true rfl) (Nat.le_of_ble_eq_true rfl) dX2_init_83 rfl (by decide) (hts (.fieldLink RX2 37 "NeedleGrid$Grid" "fieldX" "[I") (by decide +kernel)) rfl hin rfl rfl rfl (Nat.le_of_ble_eq_true rfl) dX2_init_85 (fun st1 H locs hp hf hP hD hS hge => ?_)
  refine lv_aload_n hx hb dX2_init_88 rfl (lv_at hl 0 rfl) ?_
  refine lv_bipush (v := 36) hx hb dX2_init_89 (by decide) ?_
  refine nField (k := 12) (ln := 36) (z := 0) (T := TX2) (N := 13) (C := RX2) (atype := .int) hx hb (Or.inl ⟨rfl, rfl⟩) (hts (.arrayClass .int) (by decide +kernel)) hK hP hD hS hA hts hinX2 tyX2 tyX2_ok nmX2 hown hp hf hge g12 (by decide) rfl (by decide) (by decide) (by decide) (by decide) (Nat.le_of_ble_eq_true rfl) (Nat.le_of_ble_eq_true rfl) dX2_init_91 rfl (by decide) (hts (.fieldLink RX2 40 "NeedleGrid$Grid" "fieldY" "[I") (by decide +kernel)) rfl hin rfl rfl rfl (Nat.le_of_ble_eq_true rfl) dX2_init_93 (fun st1 H locs hp hf hP hD hS hge => ?_)
  have hR : isR E ad st1 b sG G0 := pR.isR (S := sG) hp (fun k z n hk hz => by
    match k, hk with
    | 0, hk => cases hk; decide
    | 1, hk => cases hk; decide
    | 2, hk => cases hk; decide
    | 3, hk => cases hk; decide
    | 4, hk => cases hk; decide
    | 5, hk => cases hk; decide
    | 6, hk => cases hk
    | 7, hk => cases hk
    | 8, hk => cases hk
    | 9, hk => cases hk; decide
    | 10, hk => cases hk; decide
    | 11, hk => cases hk; decide
    | 12, hk => cases hk; decide
    | k + 13, hk => cases hk)
  clear hp
  refine lv_iconst (v := 0) hx hb dX2_init_96 (by decide) ?_
  refine lv_istore_n (lv' := [(1, .int 0), (0, .ref (ad b))]) hx hb dX2_init_97 rfl hl (by decide) rfl (fun ls hl => ?_)
  have LP_1 : ∀ (k9 i : Nat), i ≤ 36 → 36 - i < k9 → ∀ (sL_2 : NW) (H : Heap) (locs : List Loc) (ls : Array Slot), isR E ad sL_2 b sG (gu (gu G0 1 (fil (fun _ => 10) (G0 1) i)) 0 (fil (fun _ => 6) (G0 0) i)) → fr b st sL_2 → nP E ad sL_2 H → nD A ad sL_2 → va_S A s.heap H locs → lv_has ls 2 [(1, .int (nI i)), (0, .ref (ad b))] → W pg l en (nRc 4 10 327 100) s mi ar bw mth cd H locs 10 327 Q (F0 mi 98 ls []) := by
    intro k9
    induction k9 with
    | zero => intro i _ h9; exact absurd h9 (Nat.not_lt_zero _)
    | succ k9 ih98 =>
      intro i hi hk9 sL_2 H locs ls hR hf hP hD hS hl
      refine lv_iload_n hx hb dX2_init_98 rfl (lv_at hl 0 rfl) ?_
      refine lv_bipush (v := 36) hx hb dX2_init_99 (by decide) ?_
      refine lv_icmp_ge (tgt := 126) hx hb dX2_init_101 (by decide) (fun c101_2 => ?_) (fun c101_2 => ?_)
      · have h36 : 36 ≤ i := (nI_geL (n := 36) rfl (by decide) (by omega)).mp c101_2
        obtain rfl : i = 36 := by omega
        refine lv_aload_n hx hb dX2_init_126 rfl (lv_at hl 1 rfl) ?_
        refine nVv (As := []) (rest := _) hx hb hml hown hts hP hK hD hZ hA hS ⟨Nat.le_of_ble_eq_true rfl, Nat.le_of_ble_eq_true rfl⟩ hR.1 rfl (c_measureAll l E ad sL_2 b (gu (gu G0 1 (fil (fun _ => 10) (G0 1) 36)) 0 (fil (fun _ => 6) (G0 0) 36)) hR ) (cwV 0 hts gX2_init_X2_measureAll rfl rfl rfl (by decide +kernel) ⟨Nat.le_of_ble_eq_true rfl, Nat.le_of_ble_eq_true rfl⟩) hl.1 rfl (Nat.le_of_ble_eq_true rfl) dX2_init_127 (fun s_6 H locs hq hP hD hS => ?_)
        obtain ⟨hR, hf_5⟩ := hq
        have hf := hf.tr hf_5
        rw [G0_N] at hR
        refine wSize fun hle => ?_
        have hlt := hP.lt (nn (hR.2 12 0 36 rfl (by decide)))
        rw [g12] at hlt
        have hz9 := Nat.le_antisymm hle hlt
        exact hret _ _ _ _ _ hP hD hS (⟨hR, hf⟩) hz9 dX2_init_130
      · have hlt : i < 36 := by have := mt (nI_geL (n := 36) (i := i) rfl (by decide) (by omega)).mpr c101_2; omega
        refine lv_aload_n hx hb dX2_init_104 rfl (lv_at hl 1 rfl) ?_
        refine rg (v := .ref (ad (b + 1 + 0))) (T := TX2) (N := 13) (C := RX2) hx hb hts hinX2 hown hK hP hR rfl 0 (by decide) (hts (.fieldLink RX2 9 "NeedleGrid$Grid" "directions" "[I") (by decide +kernel)) rfl dX2_init_105 ?_
        refine lv_iload_n hx hb dX2_init_108 rfl (lv_at hl 0 rfl) ?_
        refine lv_bipush (v := 6) hx hb dX2_init_109 (by decide) ?_
        refine rs (j := i) (n := 36) (x := 6) hx hb hK hP hD hS hR 0 rfl (by decide) (by omega) (by decide) dX2_init_111 (fun s_7 H locs hR hf_8 hP hD hS => ?_)
        have hf := hf.tr hf_8
        have hR : isR E ad s_7 b sG (gu (gu G0 1 (fil (fun _ => 10) (G0 1) i)) 0 (upd (fil (fun _ => 6) (G0 0) i) i 6)) := hR.eq (all13 rfl rfl rfl rfl rfl rfl rfl rfl rfl rfl rfl rfl rfl)
        refine lv_aload_n hx hb dX2_init_112 rfl (lv_at hl 1 rfl) ?_
        refine rg (v := .ref (ad (b + 1 + 1))) (T := TX2) (N := 13) (C := RX2) hx hb hts hinX2 hown hK hP hR rfl 1 (by decide) (hts (.fieldLink RX2 15 "NeedleGrid$Grid" "frictions" "[I") (by decide +kernel)) rfl dX2_init_113 ?_
        refine lv_iload_n hx hb dX2_init_116 rfl (lv_at hl 0 rfl) ?_
        refine lv_bipush (v := 10) hx hb dX2_init_117 (by decide) ?_
        refine rs (j := i) (n := 36) (x := 10) hx hb hK hP hD hS hR 1 rfl (by decide) (by omega) (by decide) dX2_init_119 (fun s_9 H locs hR hf_10 hP hD hS => ?_)
        have hf := hf.tr hf_10
        have hR : isR E ad s_9 b sG (gu (gu G0 0 (upd (fil (fun _ => 6) (G0 0) i) i 6)) 1 (upd (fil (fun _ => 10) (G0 1) i) i 10)) := hR.eq (all13 rfl rfl rfl rfl rfl rfl rfl rfl rfl rfl rfl rfl rfl)
        refine lv_iinc (v := nI (i + 1)) (lv' := [(1, .int (nI (i + 1))), (0, .ref (ad b))]) hx hb dX2_init_120 hl (k := 0) rfl (nI_1 _) (by decide) rfl (fun ls hl => ?_)
        refine lv_goto (tgt := 98) hx hb dX2_init_123 (by decide) ?_
        exact ih98 (i + 1) (by omega) (by omega) _ _ _ _ (hR.eq (all13 (fil_s (fun _ => 6) (G0 0) i) (fil_s (fun _ => 10) (G0 1) i) rfl rfl rfl rfl rfl rfl rfl rfl rfl rfl rfl)) hf hP hD hS (lv_sub hl [0, 1] rfl)
  exact LP_1 (36 + 1) 0 (Nat.zero_le _) (by omega) _ _ _ _ (hR.eq (all13 (fil_0 (fun _ => 6) (G0 0)).symm (fil_0 (fun _ => 10) (G0 1)).symm rfl rfl rfl rfl rfl rfl rfl rfl rfl rfl rfl)) hf hP hD hS (lv_sub hl [0, 1] rfl)


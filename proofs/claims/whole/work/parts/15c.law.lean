theorem law_lt {L k : Nat} (hL : L ≤ 4096) (hk : k ≤ 4096) : nI L - 4 < nI k ↔ L < k + 4 := by
  by_cases h4 : 4 ≤ L
  · rw [show nI L - 4 = nI (L - 4) from nI_subL (n := 4) rfl h4, nI_ltI (by omega) (by omega)]
    omega
  · refine ⟨fun _ => by omega, fun _ => ?_⟩
    have h : nI L - nI 4 < 0 := pk_sneg (by decide) (by omega)
    have h : nI L - 4 < 0 := h
    rw [Int32.lt_iff_toInt_lt] at h ⊢
    have e0 : (0 : Int32).toInt = 0 := by decide
    rw [nI_toInt (by omega)]
    omega

/-- rounds of the law from j on -/
theorem law_loop {pg : Program} {l : Launch} {en : Env} {s : State} {mi : MethodId} {ar : Array Value} {bw : List Frame} {mth : Method} {cd : Code} {Q : State → Prop} {E : NE} {ad : Nat → Nat} {b L : Nat} {xs : Nat → Int32} (hlt : l.stackTraces = false) (hx : pg.tables.exec = Jvm.exec) (hb : cd.code = cL_law) (hml : cd.maxLocals = 9) (hown : s.vm.findClass RL = some mi.cls) (hts : ∀ w ∈ wsL_law, w.before ar s = true) (hX : va_X b L xs s s.heap) (hbl : b < s.heap.size) (hL : L ≤ 2048) (hK : va_K E.1 vwCl (nTys E) s) (hZ : nZ E (lwA s) s s.heap) (hNC : nNC s) (hend : ∀ (H1 : Heap) (locs1 : List Loc) (ls1 : Array Slot) (c1 s1 : Nat), c1 ≤ 601024 → s1 ≤ 7293034 → va_S (lwA s) s.heap H1 locs1 → W pg l en room_1 s mi ar bw mth cd H1 locs1 c1 s1 Q (F0 mi 1604 ls1 [])) : ∀ (k j : Nat), k + j = 513 → ∀ (st : NW) (H : Heap) (locs : List Loc) (ls : Array Slot) (cells slots : Nat), cells ≤ 102 + j → slots ≤ 4419 + 6 * j → LI E ad st → nP E ad st H → nD (lwA s) ad st → va_S (lwA s) s.heap H locs → lv_has ls 9 [(4, .int (nI (4 * j))), (0, .ref b), (1, .ref (ad 0)), (2, .ref (ad 208)), (3, .ref (ad 240))] → W pg l en room_1 s mi ar bw mth cd H locs cells slots Q (F0 mi 23 ls []) := by
  have hbA : ¬ lwA s b := Nat.not_le.mpr hbl
  intro k
  induction k with
  | zero =>
    intro j hkj st H locs ls cells slots hc1 hs1 hLI hP hD hS hl
    refine lv_iload hx hb dL_law_23 (lv_at hl 0 rfl) ?_
    refine lv_aload_n hx hb dL_law_25 rfl (lv_at hl 1 rfl) ?_
    refine va_slen hx hb hX hbl hbA hS dL_law_26 ?_
    refine lv_iconst (v := 4) hx hb dL_law_27 (by decide) ?_
    refine lv_isub hx hb dL_law_28 ?_
    refine lv_icmp_gt (tgt := 1604) hx hb dL_law_29 (by decide) (fun _ => ?_) (fun h => absurd ((law_lt (by omega) (by omega)).mpr (by omega)) h)
    exact hend H locs ls cells slots (by omega) (by omega) hS
  | succ k ih =>
    intro j hkj st H locs ls cells slots hc1 hs1 hLI hP hD hS hl
    refine lv_iload hx hb dL_law_23 (lv_at hl 0 rfl) ?_
    refine lv_aload_n hx hb dL_law_25 rfl (lv_at hl 1 rfl) ?_
    refine va_slen hx hb hX hbl hbA hS dL_law_26 ?_
    refine lv_iconst (v := 4) hx hb dL_law_27 (by decide) ?_
    refine lv_isub hx hb dL_law_28 ?_
    refine lv_icmp_gt (tgt := 1604) hx hb dL_law_29 (by decide) (fun _ => hend H locs ls cells slots (by omega) (by omega) hS) (fun h => ?_)
    have hj4 : 4 * j + 3 < L := by
      have := mt (law_lt (L := L) (k := 4 * j) (by omega) (by omega)).mpr h
      omega
    have hcc : cells + 1 ≤ room_1.cells ∧ slots + 6 ≤ room_1.slots := by
      show cells + 1 ≤ 601024 ∧ slots + 6 ≤ 7293034
      omega
    have K : ∀ (st1 : NW) (H1 : Heap) (locs1 : List Loc) (ls1 : Array Slot) (c1 s1 : Nat), c1 ≤ 102 + (j + 1) → s1 ≤ 4419 + 6 * (j + 1) → LI E ad st1 → nP E ad st1 H1 → nD (lwA s) ad st1 → va_S (lwA s) s.heap H1 locs1 → lv_has ls1 9 [(4, .int (nI (4 * j))), (0, .ref b), (1, .ref (ad 0)), (2, .ref (ad 208)), (3, .ref (ad 240))] → W pg l en room_1 s mi ar bw mth cd H1 locs1 c1 s1 Q (F0 mi 1598 ls1 []) := fun st1 H1 locs1 ls1 c1 s1 q1 q2 hLI hP hD hS hl => by
      refine lv_iinc (v := nI (4 * (j + 1))) (lv' := [(4, .int (nI (4 * (j + 1)))), (0, .ref b), (1, .ref (ad 0)), (2, .ref (ad 208)), (3, .ref (ad 240))]) hx hb dL_law_1598 hl (k := 0) rfl (nI_add (4 * j) 4) (by decide) rfl (fun ls hl => ?_)
      refine lv_goto (tgt := 23) hx hb dL_law_1601 (by decide) ?_
      exact ih (j + 1) (by omega) st1 H1 locs1 ls c1 s1 q1 q2 hLI hP hD hS hl
    have K0 := K st H locs ls cells slots (by omega) (by omega) hLI hP hD hS hl
    have K1 : ∀ (st1 : NW) (H1 : Heap) (locs1 : List Loc) (ls1 : Array Slot), LI E ad st1 → nP E ad st1 H1 → nD (lwA s) ad st1 → va_S (lwA s) s.heap H1 locs1 → lv_has ls1 9 [(4, .int (nI (4 * j))), (0, .ref b), (1, .ref (ad 0)), (2, .ref (ad 208)), (3, .ref (ad 240))] → W pg l en room_1 s mi ar bw mth cd H1 locs1 (cells + 1) (slots + 6) Q (F0 mi 1598 ls1 []) := fun st1 H1 locs1 ls1 => K st1 H1 locs1 ls1 (cells + 1) (slots + 6) (by omega) (by omega)
    clear K ih
    refine lv_aload_n hx hb dL_law_32 rfl (lv_at hl 1 rfl) ?_
    refine lv_iload hx hb dL_law_33 (lv_at hl 0 rfl) ?_
    refine va_sld hx hb hX hbl hbA hS (vp_in_nI (by omega) (by omega)) dL_law_35 ?_
    refine lv_bipush (v := 31) hx hb dL_law_36 (by decide) ?_
    refine lv_iand hx hb dL_law_38 ?_
    obtain ⟨m, hm, em⟩ := pk_andE (xs (nI (4 * j)).toNatClampNeg) (m := 31) 5 (by decide)
    rw [em]
    have hm : m < 32 := hm
    clear em
    match m, hm with
    | 0, _ => exact lv_tableIn (off := 117) (tgt := 156) hx hb dL_law_39 (by decide) (by decide) rfl (by decide) (lc_needle hlt hx hb hml hown hts hX hbl hL hK hZ hNC hj4 hcc hLI hP hD hS hl K1)
    | 1, _ => exact lv_tableIn (off := 185) (tgt := 224) hx hb dL_law_39 (by decide) (by decide) rfl (by decide) (lc_friction hlt hx hb hml hown hts hX hbl hL hK hZ hNC hj4 hcc hLI hP hD hS hl K1)
    | 2, _ => exact lv_tableIn (off := 253) (tgt := 292) hx hb dL_law_39 (by decide) (by decide) rfl (by decide) (lc_hold hlt hx hb hml hown hts hX hbl hL hK hZ hNC hj4 hcc hLI hP hD hS hl K1)
    | 3, _ => exact lv_tableIn (off := 337) (tgt := 376) hx hb dL_law_39 (by decide) (by decide) rfl (by decide) (lc_swap hlt hx hb hml hown hts hX hbl hL hK hZ hNC hj4 hcc hLI hP hD hS hl K1)
    | 4, _ => exact lv_tableIn (off := 405) (tgt := 444) hx hb dL_law_39 (by decide) (by decide) rfl (by decide) (lc_bar hlt hx hb hml hown hts hX hbl hL hK hZ hNC hj4 hcc hLI hP hD hS hl K1)
    | 5, _ => exact lv_tableIn (off := 485) (tgt := 524) hx hb dL_law_39 (by decide) (by decide) rfl (by decide) (lc_unbar hlt hx hb hml hown hts hX hbl hL hK hZ hNC hj4 hcc hLI hP hD hS hl K1)
    | 6, _ => exact lv_tableIn (off := 541) (tgt := 580) hx hb dL_law_39 (by decide) (by decide) rfl (by decide) (lc_coil hlt hx hb hml hown hts hX hbl hL hK hZ hNC hj4 hcc hLI hP hD hS hl K1)
    | 7, _ => exact lv_tableIn (off := 609) (tgt := 648) hx hb dL_law_39 (by decide) (by decide) rfl (by decide) (lc_set hlt hx hb hml hown hts hX hbl hL hK hZ hNC hj4 hcc hLI hP hD hS hl K1)
    | 8, _ => exact lv_tableIn (off := 677) (tgt := 716) hx hb dL_law_39 (by decide) (by decide) rfl (by decide) (lc_step hlt hx hb hml hown hts hX hbl hL hK hZ hNC hj4 hcc hLI hP hD hS hl K1)
    | 9, _ => exact lv_tableIn (off := 733) (tgt := 772) hx hb dL_law_39 (by decide) (by decide) rfl (by decide) (lc_append hlt hx hb hml hown hts hX hbl hL hK hZ hNC hj4 hcc hLI hP hD hS hl K1)
    | 10, _ => exact lv_tableIn (off := 789) (tgt := 828) hx hb dL_law_39 (by decide) (by decide) rfl (by decide) (lc_clearBuffer hlt hx hb hml hown hts hX hbl hL hK hZ hNC hj4 hcc hLI hP hD hS hl K1)
    | 11, _ => exact lv_tableIn (off := 802) (tgt := 841) hx hb dL_law_39 (by decide) (by decide) rfl (by decide) (lc_firstError hlt hx hb hml hown hts hX hbl hL hK hZ hNC hj4 hcc hLI hP hD hS hl K1)
    | 12, _ => exact lv_tableIn (off := 815) (tgt := 854) hx hb dL_law_39 (by decide) (by decide) rfl (by decide) (lc_bars hlt hx hb hml hown hts hX hbl hL hK hZ hNC hj4 hcc hLI hP hD hS hl K1)
    | 13, _ => exact lv_tableIn (off := 859) (tgt := 898) hx hb dL_law_39 (by decide) (by decide) rfl (by decide) (lc_undo hlt hx hb hml hown hts hX hbl hL hK hZ hNC hj4 hcc hLI hP hD hS hl K1)
    | 14, _ => exact lv_tableIn (off := 903) (tgt := 942) hx hb dL_law_39 (by decide) (by decide) rfl (by decide) (lc_cell hlt hx hb hml hown hts hX hbl hL hK hZ hNC hj4 hcc hLI hP hD hS hl K1)
    | 15, _ => exact lv_tableIn (off := 971) (tgt := 1010) hx hb dL_law_39 (by decide) (by decide) rfl (by decide) (lc_barOf hlt hx hb hml hown hts hX hbl hL hK hZ hNC hj4 hcc hLI hP hD hS hl K1)
    | 16, _ => exact lv_tableIn (off := 1039) (tgt := 1078) hx hb dL_law_39 (by decide) (by decide) rfl (by decide) (lc_count hlt hx hb hml hown hts hX hbl hL hK hZ hNC hj4 hcc hLI hP hD hS hl K1)
    | 17, _ => exact lv_tableIn (off := 1095) (tgt := 1134) hx hb dL_law_39 (by decide) (by decide) rfl (by decide) (lc_pointing hlt hx hb hml hown hts hX hbl hL hK hZ hNC hj4 hcc hLI hP hD hS hl K1)
    | 18, _ => exact lv_tableIn (off := 1151) (tgt := 1190) hx hb dL_law_39 (by decide) (by decide) rfl (by decide) (lc_setting hlt hx hb hml hown hts hX hbl hL hK hZ hNC hj4 hcc hLI hP hD hS hl K1)
    | 19, _ => exact lv_tableIn (off := 1207) (tgt := 1246) hx hb dL_law_39 (by decide) (by decide) rfl (by decide) (lc_restsIn hlt hx hb hml hown hts hX hbl hL hK hZ hNC hj4 hcc hLI hP hD hS hl K1)
    | 20, _ => exact lv_tableIn (off := 1220) (tgt := 1259) hx hb dL_law_39 (by decide) (by decide) rfl (by decide) (lc_points hlt hx hb hml hown hts hX hbl hL hK hZ hNC hj4 hcc hLI hP hD hS hl K1)
    | 21, _ => exact lv_tableIn (off := 1288) (tgt := 1327) hx hb dL_law_39 (by decide) (by decide) rfl (by decide) (lc_ifBar hlt hx hb hml hown hts hX hbl hL hK hZ hNC hj4 hcc hLI hP hD hS hl K1)
    | 22, _ => exact lv_tableIn (off := 1368) (tgt := 1407) hx hb dL_law_39 (by decide) (by decide) rfl (by decide) (lc_bestBar hlt hx hb hml hown hts hX hbl hL hK hZ hNC hj4 hcc hLI hP hD hS hl K1)
    | 23, _ => exact lv_tableIn (off := 1448) (tgt := 1487) hx hb dL_law_39 (by decide) (by decide) rfl (by decide) (lc_leastTurns hlt hx hb hml hown hts hX hbl hL hK hZ hNC hj4 hcc hLI hP hD hS hl K1)
    | 24, _ => exact lv_tableIn (off := 1504) (tgt := 1543) hx hb dL_law_39 (by decide) (by decide) rfl (by decide) (lc_obedience hlt hx hb hml hown hts hX hbl hL hK hZ hNC hj4 hcc hLI hP hD hS hl K1)
    | 25, _ => exact lv_tableIn (off := 1545) (tgt := 1584) hx hb dL_law_39 (by decide) (by decide) rfl (by decide) (lc_digest hlt hx hb hml hown hts hX hbl hL hK hZ hNC hj4 hcc hLI hP hD hS hl K1)
    | 26, _ => exact lv_tableOut (tgt := 1598) hx hb dL_law_39 (Or.inr (by decide)) (by decide) K0
    | 27, _ => exact lv_tableOut (tgt := 1598) hx hb dL_law_39 (Or.inr (by decide)) (by decide) K0
    | 28, _ => exact lv_tableOut (tgt := 1598) hx hb dL_law_39 (Or.inr (by decide)) (by decide) K0
    | 29, _ => exact lv_tableOut (tgt := 1598) hx hb dL_law_39 (Or.inr (by decide)) (by decide) K0
    | 30, _ => exact lv_tableOut (tgt := 1598) hx hb dL_law_39 (Or.inr (by decide)) (by decide) K0
    | 31, _ => exact lv_tableOut (tgt := 1598) hx hb dL_law_39 (Or.inr (by decide)) (by decide) K0
    | m + 32, z => exact absurd z (by omega)

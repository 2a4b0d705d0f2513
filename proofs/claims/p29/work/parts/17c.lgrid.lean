set_option maxHeartbeats 4000000 in
set_option maxRecDepth 100000 in
theorem l_grid (l : Launch) (E : NE) (ad : Nat → Nat) (st : NW) (N : Nat → Int32) (Rs : Nat → Nat → Int32) (a x : Nat) (ha : a ≤ 6) (hxx : x < 6) (hO : okP N) (hW : cW E ad st N Rs a x (fun _ => 0) 0) : nMi l yL_grid wsL_grid (nRm 5 114) E ad st [.ref (ad 0)] (fun r s1 => r = 1 ∧ st = s1) := by
  refine nSz (cc := cL_grid) (maxL := 12) (by decide) rfl (Nat.le_of_ble_eq_true rfl) ?_
  intro pg en s mi ar bw mth cd R Q A ls hx hb hml hown hts hRm hP hK hD hZ hA hl hret
  subst hRm
  have hown : s.vm.findClass RL = some mi.cls := hown
  have hS : va_S A s.heap s.heap [] := va_S.rf
  have hl : lv_has ls 12 [(0, .ref (ad 0))] := hl
  have hN := hW.1
  have hB6 := brC_6 hO
  have h6 : ¬ (6 : Int32) < nI (brC N) := fun z => by
    have := (nI_ltI (a := 6) (b := brC N) (by omega) (by omega)).mp z
    omega
  refine lv_iconst (v := 0) hx hb dL_grid_0 (by decide) ?_
  refine lv_istore_n (lv' := [(1, .int 0), (0, .ref (ad 0))]) hx hb dL_grid_1 rfl hl (by decide) rfl (fun ls hl => ?_)
  refine lv_iconst (v := 0) hx hb dL_grid_2 (by decide) ?_
  refine lv_istore_n (lv' := [(2, .int 0), (1, .int 0), (0, .ref (ad 0))]) hx hb dL_grid_3 rfl hl (by decide) rfl (fun ls hl => ?_)
  refine lv_iconst (v := 0) hx hb dL_grid_4 (by decide) ?_
  refine lv_istore_n (lv' := [(3, .int 0), (2, .int 0), (1, .int 0), (0, .ref (ad 0))]) hx hb dL_grid_5 rfl hl (by decide) rfl (fun ls hl => ?_)
  refine lv_iconst (v := 0) hx hb dL_grid_6 (by decide) ?_
  refine lv_istore (lv' := [(4, .int 0), (3, .int 0), (2, .int 0), (1, .int 0), (0, .ref (ad 0))]) hx hb dL_grid_7 hl (by decide) rfl (fun ls hl => ?_)
  refine lv_iconst (v := 0) hx hb dL_grid_9 (by decide) ?_
  refine lv_istore (lv' := [(5, .int 0), (4, .int 0), (3, .int 0), (2, .int 0), (1, .int 0), (0, .ref (ad 0))]) hx hb dL_grid_10 hl (by decide) rfl (fun ls hl => ?_)
  refine lv_aload_n hx hb dL_grid_12 rfl (lv_at hl 5 rfl) ?_
  refine lv_iconst (v := 1) hx hb dL_grid_13 (by decide) ?_
  refine nVi (As := [.int 1]) (rest := _) hx hb hml hown hts hP hK hD hZ hA hS ⟨Nat.zero_le _, Nat.zero_le _⟩ hN.1 rfl (c_count l E ad st N Rs a x (fun _ => 0) 0 ha hxx (Nat.zero_le _) hO.1.2.1 hW 1 (by omega)) (cwV 1 hts gL_grid_X4_count rfl rfl rfl (by decide +kernel) ⟨Nat.le_of_ble_eq_true rfl, Nat.le_of_ble_eq_true rfl⟩) hl.1 rfl (Nat.le_of_ble_eq_true rfl) dL_grid_14 (fun r_1 s_2 H locs hq hP hD hS => ?_)
  obtain ⟨hr9, rfl⟩ := hq
  rw [hr9]
  clear hr9
  refine lv_bipush (v := 6) hx hb dL_grid_17 (by decide) ?_
  refine lv_icmp_gt (tgt := 26) hx hb dL_grid_19 (by decide) (fun c19_2 => absurd (show 6 < nI (brC N) from c19_2) h6) (fun c19_2 => ?_)
  refine lv_iconst (v := 1) hx hb dL_grid_22 (by decide) ?_
  refine lv_goto (tgt := 27) hx hb dL_grid_23 (by decide) ?_
  refine lv_istore (lv' := [(6, .int 1), (5, .int 0), (4, .int 0), (3, .int 0), (2, .int 0), (1, .int 0), (0, .ref (ad 0))]) hx hb dL_grid_27 hl (by decide) rfl (fun ls hl => ?_)
  refine lv_iconst (v := 0) hx hb dL_grid_29 (by decide) ?_
  refine lv_istore (lv' := [(7, .int 0), (6, .int 1), (5, .int 0), (4, .int 0), (3, .int 0), (2, .int 0), (1, .int 0), (0, .ref (ad 0))]) hx hb dL_grid_30 hl (by decide) rfl (fun ls hl => ?_)
  have LP_4 : ∀ (k9 i : Nat), i ≤ 36 → 36 - i < k9 → ∀ (H : Heap) (locs : List Loc) (ls : Array Slot), nP E ad st H → nD A ad st → va_S A s.heap H locs → lv_has ls 12 [(7, .int (nI i)), (6, .int 1), (5, .int 0), (4, .int (frC N i)), (3, .int (obC N i)), (2, .int (trC N i)), (1, .int (hlC N i)), (0, .ref (ad 0))] → W pg l en (nRm 5 114) s mi ar bw mth cd H locs 0 0 Q (F0 mi 32 ls []) := by
    intro k9
    induction k9 with
    | zero => intro i _ h9; exact absurd h9 (Nat.not_lt_zero _)
    | succ k9 ih32 =>
      intro i hi hk9 H locs ls  hP hD hS hl
      refine lv_iload hx hb dL_grid_32 (lv_at hl 0 rfl) ?_
      refine lv_bipush (v := 36) hx hb dL_grid_34 (by decide) ?_
      refine lv_icmp_ge (tgt := 323) hx hb dL_grid_36 (by decide) (fun c36_4 => ?_) (fun c36_4 => ?_)
      · have h36 : 36 ≤ i := (nI_geL (n := 36) rfl (by decide) (by omega)).mp c36_4
        obtain rfl : i = 36 := by omega
        refine lv_iconst (v := 0) hx hb dL_grid_323 (by decide) ?_
        refine lv_istore (lv' := [(7, .int 0), (6, .int 1), (5, .int 0), (4, .int (frC N 36)), (3, .int (obC N 36)), (2, .int (trC N 36)), (1, .int (hlC N 36)), (0, .ref (ad 0))]) hx hb dL_grid_324 hl (by decide) rfl (fun ls hl => ?_)
        have LP_6 : ∀ (k9 d : Nat), d ≤ 8 → 8 - d < k9 → ∀ (H : Heap) (locs : List Loc) (ls : Array Slot), nP E ad st H → nD A ad st → va_S A s.heap H locs → lv_has ls 12 [(7, .int (nI d)), (6, .int 1), (5, .int (smI 0 (ptC N) d)), (4, .int (frC N 36)), (3, .int (obC N 36)), (2, .int (trC N 36)), (1, .int (hlC N 36)), (0, .ref (ad 0))] → W pg l en (nRm 5 114) s mi ar bw mth cd H locs 0 0 Q (F0 mi 326 ls []) := by
          intro k9
          induction k9 with
          | zero => intro d _ h9; exact absurd h9 (Nat.not_lt_zero _)
          | succ k9 ih326 =>
            intro d hi hk9 H locs ls  hP hD hS hl
            refine lv_iload hx hb dL_grid_326 (lv_at hl 0 rfl) ?_
            refine lv_bipush (v := 8) hx hb dL_grid_328 (by decide) ?_
            refine lv_icmp_ge (tgt := 350) hx hb dL_grid_330 (by decide) (fun c330_6 => ?_) (fun c330_6 => ?_)
            · have h36 : 8 ≤ d := (nI_geL (n := 8) rfl (by decide) (by omega)).mp c330_6
              obtain rfl : d = 8 := by omega
              refine lv_iconst (v := 0) hx hb dL_grid_350 (by decide) ?_
              refine lv_istore (lv' := [(7, .int 0), (6, .int 1), (5, .int (smI 0 (ptC N) 8)), (4, .int (frC N 36)), (3, .int (obC N 36)), (2, .int (trC N 36)), (1, .int (hlC N 36)), (0, .ref (ad 0))]) hx hb dL_grid_351 hl (by decide) rfl (fun ls hl => ?_)
              have LP_8 : ∀ (k9 j : Nat), j ≤ (brC N + 1) → (brC N + 1) - j < k9 → ∀ (H : Heap) (locs : List Loc) (ls : Array Slot), nP E ad st H → nD A ad st → va_S A s.heap H locs → lv_has ls 12 [(7, .int (nI j)), (6, .int 1), (5, .int (smI 0 (ptC N) 8)), (4, .int (frC N 36)), (3, .int (obC N 36)), (2, .int (trC N 36)), (1, .int (hlC N 36)), (0, .ref (ad 0))] → W pg l en (nRm 5 114) s mi ar bw mth cd H locs 0 0 Q (F0 mi 353 ls []) := by
                intro k9
                induction k9 with
                | zero => intro j _ h9; exact absurd h9 (Nat.not_lt_zero _)
                | succ k9 ih353 =>
                  intro j hi hk9 H locs ls  hP hD hS hl
                  refine lv_iload hx hb dL_grid_353 (lv_at hl 0 rfl) ?_
                  refine lv_aload_n hx hb dL_grid_355 rfl (lv_at hl 7 rfl) ?_
                  refine lv_iconst (v := 1) hx hb dL_grid_356 (by decide) ?_
                  refine nVi (As := [.int 1]) (rest := _) hx hb hml hown hts hP hK hD hZ hA hS ⟨Nat.zero_le _, Nat.zero_le _⟩ hN.1 rfl (c_count l E ad st N Rs a x (fun _ => 0) 0 ha hxx (Nat.zero_le _) hO.1.2.1 hW 1 (by omega)) (cwV 1 hts gL_grid_X4_count rfl rfl rfl (by decide +kernel) ⟨Nat.le_of_ble_eq_true rfl, Nat.le_of_ble_eq_true rfl⟩) hl.1 rfl (Nat.le_of_ble_eq_true rfl) dL_grid_357 (fun r_9 s_10 H locs hq hP hD hS => ?_)
                  obtain ⟨hr9, rfl⟩ := hq
                  rw [hr9]
                  clear hr9
                  refine lv_icmp_gt (tgt := 457) hx hb dL_grid_360 (by decide) (fun c360_10 => ?_) (fun c360_10 => ?_)
                  · refine lv_iload hx hb dL_grid_457 (lv_at hl 1 rfl) ?_
                    refine lv_if_eq (tgt := 530) hx hb dL_grid_459 (by decide) (fun c459_11 => absurd c459_11 (by decide)) (fun c459_11 => ?_)
                    refine lv_iload hx hb dL_grid_462 (lv_at hl 2 rfl) ?_
                    refine lv_bipush (v := 36) hx hb dL_grid_464 (by decide) ?_
                    refine lv_icmp_ne (tgt := 530) hx hb dL_grid_466 (by decide) (fun c466_12 => absurd (pt_36 hO) c466_12) (fun c466_12 => ?_)
                    refine lv_iload_n hx hb dL_grid_469 rfl (lv_at hl 6 rfl) ?_
                    refine lv_aload_n hx hb dL_grid_470 rfl (lv_at hl 7 rfl) ?_
                    refine lv_iconst (v := 4) hx hb dL_grid_471 (by decide) ?_
                    refine nVi (As := [.int 4]) (rest := _) hx hb hml hown hts hP hK hD hZ hA hS ⟨Nat.zero_le _, Nat.zero_le _⟩ hN.1 rfl (c_count l E ad st N Rs a x (fun _ => 0) 0 ha hxx (Nat.zero_le _) hO.1.2.1 hW 4 (by omega)) (cwV 1 hts gL_grid_X4_count rfl rfl rfl (by decide +kernel) ⟨Nat.le_of_ble_eq_true rfl, Nat.le_of_ble_eq_true rfl⟩) hl.1 rfl (Nat.le_of_ble_eq_true rfl) dL_grid_472 (fun r_14 s_15 H locs hq hP hD hS => ?_)
                    obtain ⟨hr9, rfl⟩ := hq
                    rw [hr9]
                    clear hr9
                    refine lv_icmp_ne (tgt := 530) hx hb dL_grid_475 (by decide) (fun c475_15 => absurd rfl c475_15) (fun c475_15 => ?_)
                    refine lv_iload_n hx hb dL_grid_478 rfl (lv_at hl 5 rfl) ?_
                    refine lv_aload_n hx hb dL_grid_479 rfl (lv_at hl 7 rfl) ?_
                    refine lv_iconst (v := 5) hx hb dL_grid_480 (by decide) ?_
                    refine nVi (As := [.int 5]) (rest := _) hx hb hml hown hts hP hK hD hZ hA hS ⟨Nat.zero_le _, Nat.zero_le _⟩ hN.1 rfl (c_count l E ad st N Rs a x (fun _ => 0) 0 ha hxx (Nat.zero_le _) hO.1.2.1 hW 5 (by omega)) (cwV 1 hts gL_grid_X4_count rfl rfl rfl (by decide +kernel) ⟨Nat.le_of_ble_eq_true rfl, Nat.le_of_ble_eq_true rfl⟩) hl.1 rfl (Nat.le_of_ble_eq_true rfl) dL_grid_481 (fun r_17 s_18 H locs hq hP hD hS => ?_)
                    obtain ⟨hr9, rfl⟩ := hq
                    rw [hr9]
                    clear hr9
                    refine lv_icmp_ne (tgt := 530) hx hb dL_grid_484 (by decide) (fun c484_18 => absurd rfl c484_18) (fun c484_18 => ?_)
                    refine lv_iload_n hx hb dL_grid_487 rfl (lv_at hl 4 rfl) ?_
                    refine lv_aload_n hx hb dL_grid_488 rfl (lv_at hl 7 rfl) ?_
                    refine lv_bipush (v := 6) hx hb dL_grid_489 (by decide) ?_
                    refine nVi (As := [.int 6]) (rest := _) hx hb hml hown hts hP hK hD hZ hA hS ⟨Nat.zero_le _, Nat.zero_le _⟩ hN.1 rfl (c_count l E ad st N Rs a x (fun _ => 0) 0 ha hxx (Nat.zero_le _) hO.1.2.1 hW 6 (by omega)) (cwV 1 hts gL_grid_X4_count rfl rfl rfl (by decide +kernel) ⟨Nat.le_of_ble_eq_true rfl, Nat.le_of_ble_eq_true rfl⟩) hl.1 rfl (Nat.le_of_ble_eq_true rfl) dL_grid_491 (fun r_20 s_21 H locs hq hP hD hS => ?_)
                    obtain ⟨hr9, rfl⟩ := hq
                    rw [hr9]
                    clear hr9
                    refine lv_icmp_ne (tgt := 530) hx hb dL_grid_494 (by decide) (fun c494_21 => absurd rfl c494_21) (fun c494_21 => ?_)
                    refine lv_iload hx hb dL_grid_497 (lv_at hl 3 rfl) ?_
                    refine lv_aload_n hx hb dL_grid_499 rfl (lv_at hl 7 rfl) ?_
                    refine lv_bipush (v := 7) hx hb dL_grid_500 (by decide) ?_
                    refine nVi (As := [.int 7]) (rest := _) hx hb hml hown hts hP hK hD hZ hA hS ⟨Nat.zero_le _, Nat.zero_le _⟩ hN.1 rfl (c_count l E ad st N Rs a x (fun _ => 0) 0 ha hxx (Nat.zero_le _) hO.1.2.1 hW 7 (by omega)) (cwV 1 hts gL_grid_X4_count rfl rfl rfl (by decide +kernel) ⟨Nat.le_of_ble_eq_true rfl, Nat.le_of_ble_eq_true rfl⟩) hl.1 rfl (Nat.le_of_ble_eq_true rfl) dL_grid_502 (fun r_23 s_24 H locs hq hP hD hS => ?_)
                    obtain ⟨hr9, rfl⟩ := hq
                    rw [hr9]
                    clear hr9
                    refine lv_icmp_ne (tgt := 530) hx hb dL_grid_505 (by decide) (fun c505_24 => absurd rfl c505_24) (fun c505_24 => ?_)
                    refine lv_aload_n hx hb dL_grid_508 rfl (lv_at hl 7 rfl) ?_
                    refine nVd (As := []) (rest := _) hx hb hml hown hts hP hK hD hZ hA hS ⟨Nat.zero_le _, Nat.zero_le _⟩ hN.1 rfl (c_obedience l E ad st N Rs a x (fun _ => 0) 0 ha hxx (Nat.zero_le _) hO.1.2.1 hW ) (cwV 0 hts gL_grid_X4_obedience rfl rfl rfl (by decide +kernel) ⟨Nat.le_of_ble_eq_true rfl, Nat.le_of_ble_eq_true rfl⟩) hl.1 rfl (Nat.le_of_ble_eq_true rfl) dL_grid_509 (fun r_26 s_27 H locs hq hP hD hS => ?_)
                    obtain ⟨hr9, rfl⟩ := hq
                    rw [hr9]
                    clear hr9
                    refine lv_dconst0 hx hb dL_grid_512 ?_
                    refine lv_dcmp hx hb dL_grid_513 ?_
                    refine lv_if_lt (tgt := 530) hx hb dL_grid_514 (by decide) (fun c514_27 => absurd c514_27 (obV_01 hO).1) (fun c514_27 => ?_)
                    refine lv_aload_n hx hb dL_grid_517 rfl (lv_at hl 7 rfl) ?_
                    refine nVd (As := []) (rest := _) hx hb hml hown hts hP hK hD hZ hA hS ⟨Nat.zero_le _, Nat.zero_le _⟩ hN.1 rfl (c_obedience l E ad st N Rs a x (fun _ => 0) 0 ha hxx (Nat.zero_le _) hO.1.2.1 hW ) (cwV 0 hts gL_grid_X4_obedience rfl rfl rfl (by decide +kernel) ⟨Nat.le_of_ble_eq_true rfl, Nat.le_of_ble_eq_true rfl⟩) hl.1 rfl (Nat.le_of_ble_eq_true rfl) dL_grid_518 (fun r_29 s_30 H locs hq hP hD hS => ?_)
                    obtain ⟨hr9, rfl⟩ := hq
                    rw [hr9]
                    clear hr9
                    refine lv_dconst1 hx hb dL_grid_521 ?_
                    refine lv_dcmp hx hb dL_grid_522 ?_
                    refine lv_if_gt (tgt := 530) hx hb dL_grid_523 (by decide) (fun c523_30 => absurd c523_30 (obV_01 hO).2) (fun c523_30 => ?_)
                    refine lv_iconst (v := 1) hx hb dL_grid_526 (by decide) ?_
                    refine lv_goto (tgt := 531) hx hb dL_grid_527 (by decide) ?_
                    exact hret _ _ _ _ _ _ hP hD hS (⟨rfl, rfl⟩) (by first | exact Or.inl rfl | exact Or.inr rfl | assumption) dL_grid_531
                  · have hjB : j ≤ brC N := Nat.not_lt.mp fun z => c360_10 (show nI (brC N) < nI j from nI_lt z (by omega))
                    refine lv_iload hx hb dL_grid_363 (lv_at hl 1 rfl) ?_
                    refine lv_if_eq (tgt := 457) hx hb dL_grid_365 (by decide) (fun c365_31 => absurd c365_31 (by decide)) (fun c365_31 => ?_)
                    have J_33 : ∀ (H : Heap) (locs : List Loc), nP E ad st H → nD A ad st → va_S A s.heap H locs → W pg l en (nRm 5 114) s mi ar bw mth cd H locs 0 0 Q (F0 mi 449 ls [.int 1]) := by
                      intro H locs hP hD hS
                      refine lv_istore (lv' := [(6, .int 1), (7, .int (nI j)), (5, .int (smI 0 (ptC N) 8)), (4, .int (frC N 36)), (3, .int (obC N 36)), (2, .int (trC N 36)), (1, .int (hlC N 36)), (0, .ref (ad 0))]) hx hb dL_grid_449 hl (by decide) rfl (fun ls hl => ?_)
                      refine lv_iinc (v := nI (j + 1)) (lv' := [(7, .int (nI (j + 1))), (6, .int 1), (5, .int (smI 0 (ptC N) 8)), (4, .int (frC N 36)), (3, .int (obC N 36)), (2, .int (trC N 36)), (1, .int (hlC N 36)), (0, .ref (ad 0))]) hx hb dL_grid_451 hl (k := 1) rfl (nI_1 _) (by decide) rfl (fun ls hl => ?_)
                      refine lv_goto (tgt := 353) hx hb dL_grid_454 (by decide) ?_
                      exact ih353 (j + 1) (by omega) (by omega) _ _ _  hP hD hS (lv_sub hl [0, 1, 2, 3, 4, 5, 6, 7] rfl)
                    refine lv_iload hx hb dL_grid_368 (lv_at hl 0 rfl) ?_
                    refine lv_aload_n hx hb dL_grid_370 rfl (lv_at hl 7 rfl) ?_
                    refine lv_iconst (v := 1) hx hb dL_grid_371 (by decide) ?_
                    refine nVi (As := [.int 1]) (rest := _) hx hb hml hown hts hP hK hD hZ hA hS ⟨Nat.zero_le _, Nat.zero_le _⟩ hN.1 rfl (c_count l E ad st N Rs a x (fun _ => 0) 0 ha hxx (Nat.zero_le _) hO.1.2.1 hW 1 (by omega)) (cwV 1 hts gL_grid_X4_count rfl rfl rfl (by decide +kernel) ⟨Nat.le_of_ble_eq_true rfl, Nat.le_of_ble_eq_true rfl⟩) hl.1 rfl (Nat.le_of_ble_eq_true rfl) dL_grid_372 (fun r_35 s_36 H locs hq hP hD hS => ?_)
                    obtain ⟨hr9, rfl⟩ := hq
                    rw [hr9]
                    clear hr9
                    refine lv_icmp_ne (tgt := 397) hx hb dL_grid_375 (by decide) (fun c375_36 => ?_) (fun c375_36 => ?_)
                    · have hj2 : j < brC N := Nat.lt_of_le_of_ne hjB fun z => c375_36 (show nI j = nI (brC N) from by rw [z])
                      refine lv_iload hx hb dL_grid_397 (lv_at hl 0 rfl) ?_
                      refine lv_if_eq (tgt := 421) hx hb dL_grid_399 (by decide) (fun c399_37 => ?_) (fun c399_37 => ?_)
                      · refine lv_aload_n hx hb dL_grid_421 rfl (lv_at hl 7 rfl) ?_
                        refine lv_iload hx hb dL_grid_422 (lv_at hl 0 rfl) ?_
                        refine lv_iconst (v := 2) hx hb dL_grid_424 (by decide) ?_
                        refine nVi (As := [.int (nI j), .int 2]) (rest := _) hx hb hml hown hts hP hK hD hZ hA hS ⟨Nat.zero_le _, Nat.zero_le _⟩ hN.1 rfl (c_barOf l E ad st N Rs a x (fun _ => 0) 0 ha hxx (Nat.zero_le _) hO.1.2.1 hW (nI j) 2 (nI_pos (by omega)) (by omega)) (cwV 2 hts gL_grid_X4_barOf rfl rfl rfl (by decide +kernel) ⟨Nat.le_of_ble_eq_true rfl, Nat.le_of_ble_eq_true rfl⟩) hl.1 rfl (Nat.le_of_ble_eq_true rfl) dL_grid_425 (fun r_39 s_40 H locs hq hP hD hS => ?_)
                        obtain ⟨hr9, rfl⟩ := hq
                        rw [hr9]
                        clear hr9
                        refine lv_iconst (v := 1) hx hb dL_grid_428 (by decide) ?_
                        refine lv_icmp_lt (tgt := 448) hx hb dL_grid_429 (by decide) (fun c429_40 => absurd c429_40 (bar_st hO hj2).1) (fun c429_40 => ?_)
                        refine lv_aload_n hx hb dL_grid_432 rfl (lv_at hl 7 rfl) ?_
                        refine lv_iload hx hb dL_grid_433 (lv_at hl 0 rfl) ?_
                        refine lv_iconst (v := 2) hx hb dL_grid_435 (by decide) ?_
                        refine nVi (As := [.int (nI j), .int 2]) (rest := _) hx hb hml hown hts hP hK hD hZ hA hS ⟨Nat.zero_le _, Nat.zero_le _⟩ hN.1 rfl (c_barOf l E ad st N Rs a x (fun _ => 0) 0 ha hxx (Nat.zero_le _) hO.1.2.1 hW (nI j) 2 (nI_pos (by omega)) (by omega)) (cwV 2 hts gL_grid_X4_barOf rfl rfl rfl (by decide +kernel) ⟨Nat.le_of_ble_eq_true rfl, Nat.le_of_ble_eq_true rfl⟩) hl.1 rfl (Nat.le_of_ble_eq_true rfl) dL_grid_436 (fun r_42 s_43 H locs hq hP hD hS => ?_)
                        obtain ⟨hr9, rfl⟩ := hq
                        rw [hr9]
                        clear hr9
                        refine lv_bipush (v := 50) hx hb dL_grid_439 (by decide) ?_
                        refine lv_icmp_gt (tgt := 448) hx hb dL_grid_441 (by decide) (fun c441_43 => absurd c441_43 (bar_st hO hj2).2) (fun c441_43 => ?_)
                        refine lv_iconst (v := 1) hx hb dL_grid_444 (by decide) ?_
                        refine lv_goto (tgt := 449) hx hb dL_grid_445 (by decide) ?_
                        exact J_33 _ _ hP hD hS
                      · have hj0 : 0 < j := Nat.pos_of_ne_zero fun z => c399_37 (by rw [z]; rfl)
                        refine lv_aload_n hx hb dL_grid_402 rfl (lv_at hl 7 rfl) ?_
                        refine lv_iload hx hb dL_grid_403 (lv_at hl 0 rfl) ?_
                        refine lv_iconst (v := 0) hx hb dL_grid_405 (by decide) ?_
                        refine nVi (As := [.int (nI j), .int 0]) (rest := _) hx hb hml hown hts hP hK hD hZ hA hS ⟨Nat.zero_le _, Nat.zero_le _⟩ hN.1 rfl (c_barOf l E ad st N Rs a x (fun _ => 0) 0 ha hxx (Nat.zero_le _) hO.1.2.1 hW (nI j) 0 (nI_pos (by omega)) (by omega)) (cwV 2 hts gL_grid_X4_barOf rfl rfl rfl (by decide +kernel) ⟨Nat.le_of_ble_eq_true rfl, Nat.le_of_ble_eq_true rfl⟩) hl.1 rfl (Nat.le_of_ble_eq_true rfl) dL_grid_406 (fun r_45 s_46 H locs hq hP hD hS => ?_)
                        obtain ⟨hr9, rfl⟩ := hq
                        rw [hr9]
                        clear hr9
                        refine lv_aload_n hx hb dL_grid_409 rfl (lv_at hl 7 rfl) ?_
                        refine lv_iload hx hb dL_grid_410 (lv_at hl 0 rfl) ?_
                        refine lv_iconst (v := 1) hx hb dL_grid_412 (by decide) ?_
                        refine lv_isub hx hb dL_grid_413 ?_
                        rw [show nI j - 1 = nI (j - 1) from pk_sub (b := 1) (by omega)]
                        refine lv_iconst (v := 0) hx hb dL_grid_414 (by decide) ?_
                        refine nVi (As := [.int (nI (j - 1)), .int 0]) (rest := _) hx hb hml hown hts hP hK hD hZ hA hS ⟨Nat.zero_le _, Nat.zero_le _⟩ hN.1 rfl (c_barOf l E ad st N Rs a x (fun _ => 0) 0 ha hxx (Nat.zero_le _) hO.1.2.1 hW (nI (j - 1)) 0 (nI_pos (by omega)) (by omega)) (cwV 2 hts gL_grid_X4_barOf rfl rfl rfl (by decide +kernel) ⟨Nat.le_of_ble_eq_true rfl, Nat.le_of_ble_eq_true rfl⟩) hl.1 rfl (Nat.le_of_ble_eq_true rfl) dL_grid_415 (fun r_47 s_48 H locs hq hP hD hS => ?_)
                        obtain ⟨hr9, rfl⟩ := hq
                        rw [hr9]
                        clear hr9
                        refine lv_icmp_le (tgt := 448) hx hb dL_grid_418 (by decide) (fun c418_48 => absurd c418_48 (bar_up hj2 hj0)) (fun c418_48 => ?_)
                        refine lv_aload_n hx hb dL_grid_421 rfl (lv_at hl 7 rfl) ?_
                        refine lv_iload hx hb dL_grid_422 (lv_at hl 0 rfl) ?_
                        refine lv_iconst (v := 2) hx hb dL_grid_424 (by decide) ?_
                        refine nVi (As := [.int (nI j), .int 2]) (rest := _) hx hb hml hown hts hP hK hD hZ hA hS ⟨Nat.zero_le _, Nat.zero_le _⟩ hN.1 rfl (c_barOf l E ad st N Rs a x (fun _ => 0) 0 ha hxx (Nat.zero_le _) hO.1.2.1 hW (nI j) 2 (nI_pos (by omega)) (by omega)) (cwV 2 hts gL_grid_X4_barOf rfl rfl rfl (by decide +kernel) ⟨Nat.le_of_ble_eq_true rfl, Nat.le_of_ble_eq_true rfl⟩) hl.1 rfl (Nat.le_of_ble_eq_true rfl) dL_grid_425 (fun r_50 s_51 H locs hq hP hD hS => ?_)
                        obtain ⟨hr9, rfl⟩ := hq
                        rw [hr9]
                        clear hr9
                        refine lv_iconst (v := 1) hx hb dL_grid_428 (by decide) ?_
                        refine lv_icmp_lt (tgt := 448) hx hb dL_grid_429 (by decide) (fun c429_51 => absurd c429_51 (bar_st hO hj2).1) (fun c429_51 => ?_)
                        refine lv_aload_n hx hb dL_grid_432 rfl (lv_at hl 7 rfl) ?_
                        refine lv_iload hx hb dL_grid_433 (lv_at hl 0 rfl) ?_
                        refine lv_iconst (v := 2) hx hb dL_grid_435 (by decide) ?_
                        refine nVi (As := [.int (nI j), .int 2]) (rest := _) hx hb hml hown hts hP hK hD hZ hA hS ⟨Nat.zero_le _, Nat.zero_le _⟩ hN.1 rfl (c_barOf l E ad st N Rs a x (fun _ => 0) 0 ha hxx (Nat.zero_le _) hO.1.2.1 hW (nI j) 2 (nI_pos (by omega)) (by omega)) (cwV 2 hts gL_grid_X4_barOf rfl rfl rfl (by decide +kernel) ⟨Nat.le_of_ble_eq_true rfl, Nat.le_of_ble_eq_true rfl⟩) hl.1 rfl (Nat.le_of_ble_eq_true rfl) dL_grid_436 (fun r_53 s_54 H locs hq hP hD hS => ?_)
                        obtain ⟨hr9, rfl⟩ := hq
                        rw [hr9]
                        clear hr9
                        refine lv_bipush (v := 50) hx hb dL_grid_439 (by decide) ?_
                        refine lv_icmp_gt (tgt := 448) hx hb dL_grid_441 (by decide) (fun c441_54 => absurd c441_54 (bar_st hO hj2).2) (fun c441_54 => ?_)
                        refine lv_iconst (v := 1) hx hb dL_grid_444 (by decide) ?_
                        refine lv_goto (tgt := 449) hx hb dL_grid_445 (by decide) ?_
                        exact J_33 _ _ hP hD hS
                    · have hj2 : j = brC N := (nI_eq (by omega) (by omega)).mp (show nI j = nI (brC N) from c375_36)
                      refine lv_aload_n hx hb dL_grid_378 rfl (lv_at hl 7 rfl) ?_
                      refine lv_iload hx hb dL_grid_379 (lv_at hl 0 rfl) ?_
                      refine lv_iconst (v := 0) hx hb dL_grid_381 (by decide) ?_
                      refine nVi (As := [.int (nI j), .int 0]) (rest := _) hx hb hml hown hts hP hK hD hZ hA hS ⟨Nat.zero_le _, Nat.zero_le _⟩ hN.1 rfl (c_barOf l E ad st N Rs a x (fun _ => 0) 0 ha hxx (Nat.zero_le _) hO.1.2.1 hW (nI j) 0 (nI_pos (by omega)) (by omega)) (cwV 2 hts gL_grid_X4_barOf rfl rfl rfl (by decide +kernel) ⟨Nat.le_of_ble_eq_true rfl, Nat.le_of_ble_eq_true rfl⟩) hl.1 rfl (Nat.le_of_ble_eq_true rfl) dL_grid_382 (fun r_56 s_57 H locs hq hP hD hS => ?_)
                      obtain ⟨hr9, rfl⟩ := hq
                      rw [hr9]
                      clear hr9
                      refine lv_iconst (v := -1) hx hb dL_grid_385 (by decide) ?_
                      refine lv_icmp_ne (tgt := 393) hx hb dL_grid_386 (by decide) (fun c386_57 => absurd (by rw [hj2]; exact bar_no) c386_57) (fun c386_57 => ?_)
                      refine lv_iconst (v := 1) hx hb dL_grid_389 (by decide) ?_
                      refine lv_goto (tgt := 449) hx hb dL_grid_390 (by decide) ?_
                      exact J_33 _ _ hP hD hS
              exact LP_8 ((brC N + 1) + 1) 0 (Nat.zero_le _) (by omega) _ _ _  hP hD hS (lv_sub hl [0, 1, 2, 3, 4, 5, 6, 7] rfl)
            · have hlt : d < 8 := by have := mt (nI_geL (n := 8) (i := d) rfl (by decide) (by omega)).mpr c330_6; omega
              refine lv_iload hx hb dL_grid_333 (lv_at hl 2 rfl) ?_
              refine lv_aload_n hx hb dL_grid_335 rfl (lv_at hl 7 rfl) ?_
              refine lv_iload hx hb dL_grid_336 (lv_at hl 0 rfl) ?_
              refine nVi (As := [.int (nI d)]) (rest := _) hx hb hml hown hts hP hK hD hZ hA hS ⟨Nat.zero_le _, Nat.zero_le _⟩ hN.1 rfl (c_pointing l E ad st N Rs a x (fun _ => 0) 0 ha hxx (Nat.zero_le _) hO.1.2.1 hW d (by omega)) (cwV 1 hts gL_grid_X4_pointing rfl rfl rfl (by decide +kernel) ⟨Nat.le_of_ble_eq_true rfl, Nat.le_of_ble_eq_true rfl⟩) hl.1 rfl (Nat.le_of_ble_eq_true rfl) dL_grid_338 (fun r_59 s_60 H locs hq hP hD hS => ?_)
              obtain ⟨hr9, rfl⟩ := hq
              rw [hr9]
              clear hr9
              refine lv_iadd hx hb dL_grid_341 ?_
              refine lv_topi (fun x5_342 ex5_342 => ?_)
              refine lv_istore (lv' := [(5, .int x5_342), (7, .int (nI d)), (6, .int 1), (4, .int (frC N 36)), (3, .int (obC N 36)), (2, .int (trC N 36)), (1, .int (hlC N 36)), (0, .ref (ad 0))]) hx hb dL_grid_342 hl (by decide) rfl (fun ls hl => ?_)
              refine lv_iinc (v := nI (d + 1)) (lv' := [(7, .int (nI (d + 1))), (5, .int x5_342), (6, .int 1), (4, .int (frC N 36)), (3, .int (obC N 36)), (2, .int (trC N 36)), (1, .int (hlC N 36)), (0, .ref (ad 0))]) hx hb dL_grid_344 hl (k := 1) rfl (nI_1 _) (by decide) rfl (fun ls hl => ?_)
              refine lv_goto (tgt := 326) hx hb dL_grid_347 (by decide) ?_
              exact ih326 (d + 1) (by omega) (by omega) _ _ _  hP hD hS (by rw [show smI 0 (ptC N) (d + 1) = x5_342 from (ex5_342.trans rfl).symm]; exact lv_sub hl [0, 2, 1, 3, 4, 5, 6, 7] rfl)
        exact LP_6 (8 + 1) 0 (Nat.zero_le _) (by omega) _ _ _  hP hD hS (lv_sub hl [0, 1, 2, 3, 4, 5, 6, 7] rfl)
      · have hlt : i < 36 := by have := mt (nI_geL (n := 36) (i := i) rfl (by decide) (by omega)).mpr c36_4; omega
        refine lv_iload hx hb dL_grid_39 (lv_at hl 1 rfl) ?_
        refine lv_if_eq (tgt := 323) hx hb dL_grid_41 (by decide) (fun c41_61 => absurd c41_61 (by decide)) (fun c41_61 => ?_)
        refine lv_aload_n hx hb dL_grid_44 rfl (lv_at hl 7 rfl) ?_
        refine lv_iload hx hb dL_grid_45 (lv_at hl 0 rfl) ?_
        refine lv_iconst (v := 5) hx hb dL_grid_47 (by decide) ?_
        refine nVi (As := [.int (nI i), .int 5]) (rest := _) hx hb hml hown hts hP hK hD hZ hA hS ⟨Nat.zero_le _, Nat.zero_le _⟩ hN.1 rfl (c_cell l E ad st N Rs a x (fun _ => 0) 0 ha hxx (Nat.zero_le _) hO.1.2.1 hW i 5 (by omega) (by omega)) (cwV 2 hts gL_grid_X4_cell rfl rfl rfl (by decide +kernel) ⟨Nat.le_of_ble_eq_true rfl, Nat.le_of_ble_eq_true rfl⟩) hl.1 rfl (Nat.le_of_ble_eq_true rfl) dL_grid_48 (fun r_63 s_64 H locs hq hP hD hS => ?_)
        obtain ⟨hr9, rfl⟩ := hq
        rw [hr9]
        clear hr9
        refine lv_topi (fun x8_51 ex8_51 => ?_)
        refine lv_istore (lv' := [(8, .int x8_51), (7, .int (nI i)), (6, .int 1), (5, .int 0), (4, .int (frC N i)), (3, .int (obC N i)), (2, .int (trC N i)), (1, .int (hlC N i)), (0, .ref (ad 0))]) hx hb dL_grid_51 hl (by decide) rfl (fun ls hl => ?_)
        refine lv_aload_n hx hb dL_grid_53 rfl (lv_at hl 8 rfl) ?_
        refine lv_iload hx hb dL_grid_54 (lv_at hl 1 rfl) ?_
        refine lv_bipush (v := 7) hx hb dL_grid_56 (by decide) ?_
        refine nVi (As := [.int (nI i), .int 7]) (rest := _) hx hb hml hown hts hP hK hD hZ hA hS ⟨Nat.zero_le _, Nat.zero_le _⟩ hN.1 rfl (c_cell l E ad st N Rs a x (fun _ => 0) 0 ha hxx (Nat.zero_le _) hO.1.2.1 hW i 7 (by omega) (by omega)) (cwV 2 hts gL_grid_X4_cell rfl rfl rfl (by decide +kernel) ⟨Nat.le_of_ble_eq_true rfl, Nat.le_of_ble_eq_true rfl⟩) hl.1 rfl (Nat.le_of_ble_eq_true rfl) dL_grid_58 (fun r_65 s_66 H locs hq hP hD hS => ?_)
        obtain ⟨hr9, rfl⟩ := hq
        rw [hr9]
        clear hr9
        refine lv_topi (fun x9_61 ex9_61 => ?_)
        refine lv_istore (lv' := [(9, .int x9_61), (8, .int x8_51), (7, .int (nI i)), (6, .int 1), (5, .int 0), (4, .int (frC N i)), (3, .int (obC N i)), (2, .int (trC N i)), (1, .int (hlC N i)), (0, .ref (ad 0))]) hx hb dL_grid_61 hl (by decide) rfl (fun ls hl => ?_)
        refine lv_aload_n hx hb dL_grid_63 rfl (lv_at hl 9 rfl) ?_
        refine lv_iload hx hb dL_grid_64 (lv_at hl 2 rfl) ?_
        refine lv_iconst (v := 3) hx hb dL_grid_66 (by decide) ?_
        refine nVi (As := [.int (nI i), .int 3]) (rest := _) hx hb hml hown hts hP hK hD hZ hA hS ⟨Nat.zero_le _, Nat.zero_le _⟩ hN.1 rfl (c_cell l E ad st N Rs a x (fun _ => 0) 0 ha hxx (Nat.zero_le _) hO.1.2.1 hW i 3 (by omega) (by omega)) (cwV 2 hts gL_grid_X4_cell rfl rfl rfl (by decide +kernel) ⟨Nat.le_of_ble_eq_true rfl, Nat.le_of_ble_eq_true rfl⟩) hl.1 rfl (Nat.le_of_ble_eq_true rfl) dL_grid_67 (fun r_67 s_68 H locs hq hP hD hS => ?_)
        obtain ⟨hr9, rfl⟩ := hq
        rw [hr9]
        clear hr9
        refine lv_ldc (v := 100000) hx hb hown (hts (.constant RL 32 100000) (by decide +kernel)) dL_grid_70 ?_
        refine lv_isub hx hb dL_grid_72 ?_
        refine nS_i (As := [.int ((cellA N i 3) - 100000)]) (rest := _) hx hb hml hown hts hP hK hD hZ hA hS ⟨Nat.zero_le _, Nat.zero_le _⟩ (l_size l E ad st ((cellA N i 3) - 100000)) (va_cwS 1 hts gL_grid_L_size rfl rfl rfl (by decide +kernel) ⟨Nat.le_of_ble_eq_true rfl, Nat.le_of_ble_eq_true rfl⟩) hl.1 rfl (Nat.le_of_ble_eq_true rfl) dL_grid_73 (fun r_69 s_70 H locs hq hP hD hS => ?_)
        obtain ⟨hr9, rfl⟩ := hq
        rw [hr9]
        clear hr9
        refine lv_aload_n hx hb dL_grid_76 rfl (lv_at hl 9 rfl) ?_
        refine lv_iload hx hb dL_grid_77 (lv_at hl 2 rfl) ?_
        refine lv_iconst (v := 4) hx hb dL_grid_79 (by decide) ?_
        refine nVi (As := [.int (nI i), .int 4]) (rest := _) hx hb hml hown hts hP hK hD hZ hA hS ⟨Nat.zero_le _, Nat.zero_le _⟩ hN.1 rfl (c_cell l E ad st N Rs a x (fun _ => 0) 0 ha hxx (Nat.zero_le _) hO.1.2.1 hW i 4 (by omega) (by omega)) (cwV 2 hts gL_grid_X4_cell rfl rfl rfl (by decide +kernel) ⟨Nat.le_of_ble_eq_true rfl, Nat.le_of_ble_eq_true rfl⟩) hl.1 rfl (Nat.le_of_ble_eq_true rfl) dL_grid_80 (fun r_71 s_72 H locs hq hP hD hS => ?_)
        obtain ⟨hr9, rfl⟩ := hq
        rw [hr9]
        clear hr9
        refine lv_ldc (v := 100000) hx hb hown (hts (.constant RL 32 100000) (by decide +kernel)) dL_grid_83 ?_
        refine lv_isub hx hb dL_grid_85 ?_
        refine nS_i (As := [.int ((cellA N i 4) - 100000)]) (rest := _) hx hb hml hown hts hP hK hD hZ hA hS ⟨Nat.zero_le _, Nat.zero_le _⟩ (l_size l E ad st ((cellA N i 4) - 100000)) (va_cwS 1 hts gL_grid_L_size rfl rfl rfl (by decide +kernel) ⟨Nat.le_of_ble_eq_true rfl, Nat.le_of_ble_eq_true rfl⟩) hl.1 rfl (Nat.le_of_ble_eq_true rfl) dL_grid_86 (fun r_73 s_74 H locs hq hP hD hS => ?_)
        obtain ⟨hr9, rfl⟩ := hq
        rw [hr9]
        clear hr9
        refine lv_iadd hx hb dL_grid_89 ?_
        refine lv_topi (fun x10_90 ex10_90 => ?_)
        refine lv_istore (lv' := [(10, .int x10_90), (9, .int x9_61), (8, .int x8_51), (7, .int (nI i)), (6, .int 1), (5, .int 0), (4, .int (frC N i)), (3, .int (obC N i)), (2, .int (trC N i)), (1, .int (hlC N i)), (0, .ref (ad 0))]) hx hb dL_grid_90 hl (by decide) rfl (fun ls hl => ?_)
        obtain ⟨fA, fB, fC, fD, fE, fF, fG, fH, fT, fO, fR⟩ := pm_cell hO hlt ex8_51 ex9_61 ex10_90
        have J_75 : ∀ (v_76 : Int32) (H : Heap) (locs : List Loc), v_76 = (trnV (cellA N i 2) x8_51 x9_61 x10_90 (cellA N i 1)) → nP E ad st H → nD A ad st → va_S A s.heap H locs → W pg l en (nRm 5 114) s mi ar bw mth cd H locs 0 0 Q (F0 mi 129 ls [.int v_76]) := by
          intro v_76 H locs ev_76 hP hD hS
          refine lv_istore (lv' := [(11, .int v_76), (10, .int x10_90), (9, .int x9_61), (8, .int x8_51), (7, .int (nI i)), (6, .int 1), (5, .int 0), (4, .int (frC N i)), (3, .int (obC N i)), (2, .int (trC N i)), (1, .int (hlC N i)), (0, .ref (ad 0))]) hx hb dL_grid_129 hl (by decide) rfl (fun ls hl => ?_)
          refine lv_iload_n hx hb dL_grid_131 rfl (lv_at hl 10 rfl) ?_
          refine lv_aload_n hx hb dL_grid_132 rfl (lv_at hl 11 rfl) ?_
          refine lv_iload hx hb dL_grid_133 (lv_at hl 4 rfl) ?_
          refine lv_iconst (v := 2) hx hb dL_grid_135 (by decide) ?_
          refine nVi (As := [.int (nI i), .int 2]) (rest := _) hx hb hml hown hts hP hK hD hZ hA hS ⟨Nat.zero_le _, Nat.zero_le _⟩ hN.1 rfl (c_cell l E ad st N Rs a x (fun _ => 0) 0 ha hxx (Nat.zero_le _) hO.1.2.1 hW i 2 (by omega) (by omega)) (cwV 2 hts gL_grid_X4_cell rfl rfl rfl (by decide +kernel) ⟨Nat.le_of_ble_eq_true rfl, Nat.le_of_ble_eq_true rfl⟩) hl.1 rfl (Nat.le_of_ble_eq_true rfl) dL_grid_136 (fun r_77 s_78 H locs hq hP hD hS => ?_)
          obtain ⟨hr9, rfl⟩ := hq
          rw [hr9]
          clear hr9
          refine lv_iadd hx hb dL_grid_139 ?_
          refine lv_topi (fun x1_140 ex1_140 => ?_)
          refine lv_istore_n (lv' := [(1, .int x1_140), (11, .int v_76), (10, .int x10_90), (9, .int x9_61), (8, .int x8_51), (7, .int (nI i)), (6, .int 1), (5, .int 0), (4, .int (frC N i)), (3, .int (obC N i)), (2, .int (trC N i)), (0, .ref (ad 0))]) hx hb dL_grid_140 rfl hl (by decide) rfl (fun ls hl => ?_)
          refine lv_iload_n hx hb dL_grid_141 rfl (lv_at hl 10 rfl) ?_
          refine lv_aload_n hx hb dL_grid_142 rfl (lv_at hl 11 rfl) ?_
          refine lv_iload hx hb dL_grid_143 (lv_at hl 5 rfl) ?_
          refine lv_bipush (v := 6) hx hb dL_grid_145 (by decide) ?_
          refine nVi (As := [.int (nI i), .int 6]) (rest := _) hx hb hml hown hts hP hK hD hZ hA hS ⟨Nat.zero_le _, Nat.zero_le _⟩ hN.1 rfl (c_cell l E ad st N Rs a x (fun _ => 0) 0 ha hxx (Nat.zero_le _) hO.1.2.1 hW i 6 (by omega) (by omega)) (cwV 2 hts gL_grid_X4_cell rfl rfl rfl (by decide +kernel) ⟨Nat.le_of_ble_eq_true rfl, Nat.le_of_ble_eq_true rfl⟩) hl.1 rfl (Nat.le_of_ble_eq_true rfl) dL_grid_147 (fun r_79 s_80 H locs hq hP hD hS => ?_)
          obtain ⟨hr9, rfl⟩ := hq
          rw [hr9]
          clear hr9
          refine lv_iadd hx hb dL_grid_150 ?_
          refine lv_topi (fun x2_151 ex2_151 => ?_)
          refine lv_istore_n (lv' := [(2, .int x2_151), (1, .int x1_140), (11, .int v_76), (10, .int x10_90), (9, .int x9_61), (8, .int x8_51), (7, .int (nI i)), (6, .int 1), (5, .int 0), (4, .int (frC N i)), (3, .int (obC N i)), (0, .ref (ad 0))]) hx hb dL_grid_151 rfl hl (by decide) rfl (fun ls hl => ?_)
          refine lv_iload_n hx hb dL_grid_152 rfl (lv_at hl 10 rfl) ?_
          have J_81 : ∀ (v_82 : Int32) (H : Heap) (locs : List Loc), v_82 = (if x9_61 = 0 then 1 else 0) → nP E ad st H → nD A ad st → va_S A s.heap H locs → W pg l en (nRm 5 114) s mi ar bw mth cd H locs 0 0 Q (F0 mi 163 ls [.int v_82, .int (obC N i)]) := by
            intro v_82 H locs ev_82 hP hD hS
            refine lv_iadd hx hb dL_grid_163 ?_
            refine lv_topi (fun x3_164 ex3_164 => ?_)
            refine lv_istore_n (lv' := [(3, .int x3_164), (2, .int x2_151), (1, .int x1_140), (11, .int v_76), (10, .int x10_90), (9, .int x9_61), (8, .int x8_51), (7, .int (nI i)), (6, .int 1), (5, .int 0), (4, .int (frC N i)), (0, .ref (ad 0))]) hx hb dL_grid_164 rfl hl (by decide) rfl (fun ls hl => ?_)
            refine lv_iload hx hb dL_grid_165 (lv_at hl 10 rfl) ?_
            have J_83 : ∀ (v_84 : Int32) (H : Heap) (locs : List Loc), v_84 = (if x9_61 ≤ 0 then 0 else x9_61) → nP E ad st H → nD A ad st → va_S A s.heap H locs → W pg l en (nRm 5 114) s mi ar bw mth cd H locs 0 0 Q (F0 mi 178 ls [.int v_84, .int (frC N i)]) := by
              intro v_84 H locs ev_84 hP hD hS
              refine lv_iadd hx hb dL_grid_178 ?_
              refine lv_topi (fun x4_179 ex4_179 => ?_)
              refine lv_istore (lv' := [(4, .int x4_179), (3, .int x3_164), (2, .int x2_151), (1, .int x1_140), (11, .int v_76), (10, .int x10_90), (9, .int x9_61), (8, .int x8_51), (7, .int (nI i)), (6, .int 1), (5, .int 0), (0, .ref (ad 0))]) hx hb dL_grid_179 hl (by decide) rfl (fun ls hl => ?_)
              have J_85 : ∀ (v_86 : Int32) (H : Heap) (locs : List Loc), v_86 = (if cellA N i 6 = 1 then 1 else 0) → nP E ad st H → nD A ad st → va_S A s.heap H locs → W pg l en (nRm 5 114) s mi ar bw mth cd H locs 0 0 Q (F0 mi 198 ls [.int v_86]) := by
                intro v_86 H locs ev_86 hP hD hS
                refine lv_iload hx hb dL_grid_198 (lv_at hl 4 rfl) ?_
                refine lv_icmp_ne (tgt := 314) hx hb dL_grid_200 (by decide) (fun c200_86 => absurd (ev_86.trans (fA.trans ev_76.symm)) c200_86) (fun c200_86 => ?_)
                have J_88 : ∀ (v_89 : Int32) (H : Heap) (locs : List Loc), v_89 = (if x8_51 = -1 then 1 else 0) → nP E ad st H → nD A ad st → va_S A s.heap H locs → W pg l en (nRm 5 114) s mi ar bw mth cd H locs 0 0 Q (F0 mi 214 ls [.int v_89]) := by
                  intro v_89 H locs ev_89 hP hD hS
                  have J_90 : ∀ (v_91 : Int32) (H : Heap) (locs : List Loc), v_91 = (if x10_90 = 0 then 1 else 0) → nP E ad st H → nD A ad st → va_S A s.heap H locs → W pg l en (nRm 5 114) s mi ar bw mth cd H locs 0 0 Q (F0 mi 224 ls [.int v_91, .int v_89]) := by
                    intro v_91 H locs ev_91 hP hD hS
                    refine lv_icmp_ne (tgt := 314) hx hb dL_grid_224 (by decide) (fun c224_91 => absurd (ev_89.trans (fB.trans ev_91.symm)) c224_91) (fun c224_91 => ?_)
                    have J_93 : ∀ (v_94 : Int32) (H : Heap) (locs : List Loc), v_94 = (if x8_51 = -1 then 1 else 0) → nP E ad st H → nD A ad st → va_S A s.heap H locs → W pg l en (nRm 5 114) s mi ar bw mth cd H locs 0 0 Q (F0 mi 238 ls [.int v_94]) := by
                      intro v_94 H locs ev_94 hP hD hS
                      have J_95 : ∀ (v_96 : Int32) (H : Heap) (locs : List Loc), v_96 = (if x9_61 = -1 then 1 else 0) → nP E ad st H → nD A ad st → va_S A s.heap H locs → W pg l en (nRm 5 114) s mi ar bw mth cd H locs 0 0 Q (F0 mi 249 ls [.int v_96, .int v_94]) := by
                        intro v_96 H locs ev_96 hP hD hS
                        refine lv_icmp_ne (tgt := 314) hx hb dL_grid_249 (by decide) (fun c249_96 => absurd (ev_94.trans (fC.trans ev_96.symm)) c249_96) (fun c249_96 => ?_)
                        have J_98 : ∀ (v_99 : Int32) (H : Heap) (locs : List Loc), v_99 = (if x9_61 = 0 then 1 else 0) → nP E ad st H → nD A ad st → va_S A s.heap H locs → W pg l en (nRm 5 114) s mi ar bw mth cd H locs 0 0 Q (F0 mi 262 ls [.int v_99]) := by
                          intro v_99 H locs ev_99 hP hD hS
                          have J_100 : ∀ (v_101 : Int32) (H : Heap) (locs : List Loc), v_101 = (if x8_51 = cellA N i 0 then 1 else 0) → nP E ad st H → nD A ad st → va_S A s.heap H locs → W pg l en (nRm 5 114) s mi ar bw mth cd H locs 0 0 Q (F0 mi 279 ls [.int v_101, .int v_99]) := by
                            intro v_101 H locs ev_101 hP hD hS
                            refine lv_icmp_ne (tgt := 314) hx hb dL_grid_279 (by decide) (fun c279_101 => absurd (ev_99.trans (fD.trans ev_101.symm)) c279_101) (fun c279_101 => ?_)
                            refine lv_iload hx hb dL_grid_282 (lv_at hl 6 rfl) ?_
                            refine lv_iconst (v := 4) hx hb dL_grid_284 (by decide) ?_
                            refine lv_icmp_gt (tgt := 314) hx hb dL_grid_285 (by decide) (fun c285_102 => absurd c285_102 fE) (fun c285_102 => ?_)
                            refine lv_aload_n hx hb dL_grid_288 rfl (lv_at hl 11 rfl) ?_
                            refine lv_iload hx hb dL_grid_289 (lv_at hl 8 rfl) ?_
                            refine lv_iconst (v := 0) hx hb dL_grid_291 (by decide) ?_
                            refine nVi (As := [.int (nI i), .int 0]) (rest := _) hx hb hml hown hts hP hK hD hZ hA hS ⟨Nat.zero_le _, Nat.zero_le _⟩ hN.1 rfl (c_cell l E ad st N Rs a x (fun _ => 0) 0 ha hxx (Nat.zero_le _) hO.1.2.1 hW i 0 (by omega) (by omega)) (cwV 2 hts gL_grid_X4_cell rfl rfl rfl (by decide +kernel) ⟨Nat.le_of_ble_eq_true rfl, Nat.le_of_ble_eq_true rfl⟩) hl.1 rfl (Nat.le_of_ble_eq_true rfl) dL_grid_292 (fun r_104 s_105 H locs hq hP hD hS => ?_)
                            obtain ⟨hr9, rfl⟩ := hq
                            rw [hr9]
                            clear hr9
                            refine lv_if_lt (tgt := 314) hx hb dL_grid_295 (by decide) (fun c295_105 => absurd c295_105 fF) (fun c295_105 => ?_)
                            refine lv_aload_n hx hb dL_grid_298 rfl (lv_at hl 11 rfl) ?_
                            refine lv_iload hx hb dL_grid_299 (lv_at hl 8 rfl) ?_
                            refine lv_iconst (v := 0) hx hb dL_grid_301 (by decide) ?_
                            refine nVi (As := [.int (nI i), .int 0]) (rest := _) hx hb hml hown hts hP hK hD hZ hA hS ⟨Nat.zero_le _, Nat.zero_le _⟩ hN.1 rfl (c_cell l E ad st N Rs a x (fun _ => 0) 0 ha hxx (Nat.zero_le _) hO.1.2.1 hW i 0 (by omega) (by omega)) (cwV 2 hts gL_grid_X4_cell rfl rfl rfl (by decide +kernel) ⟨Nat.le_of_ble_eq_true rfl, Nat.le_of_ble_eq_true rfl⟩) hl.1 rfl (Nat.le_of_ble_eq_true rfl) dL_grid_302 (fun r_107 s_108 H locs hq hP hD hS => ?_)
                            obtain ⟨hr9, rfl⟩ := hq
                            rw [hr9]
                            clear hr9
                            refine lv_bipush (v := 7) hx hb dL_grid_305 (by decide) ?_
                            refine lv_icmp_gt (tgt := 314) hx hb dL_grid_307 (by decide) (fun c307_108 => absurd c307_108 fG) (fun c307_108 => ?_)
                            refine lv_iconst (v := 1) hx hb dL_grid_310 (by decide) ?_
                            refine lv_goto (tgt := 315) hx hb dL_grid_311 (by decide) ?_
                            refine lv_istore (lv' := [(6, .int 1), (4, .int x4_179), (3, .int x3_164), (2, .int x2_151), (1, .int x1_140), (11, .int v_76), (10, .int x10_90), (9, .int x9_61), (8, .int x8_51), (7, .int (nI i)), (5, .int 0), (0, .ref (ad 0))]) hx hb dL_grid_315 hl (by decide) rfl (fun ls hl => ?_)
                            refine lv_iinc (v := nI (i + 1)) (lv' := [(7, .int (nI (i + 1))), (6, .int 1), (4, .int x4_179), (3, .int x3_164), (2, .int x2_151), (1, .int x1_140), (11, .int v_76), (10, .int x10_90), (9, .int x9_61), (8, .int x8_51), (5, .int 0), (0, .ref (ad 0))]) hx hb dL_grid_317 hl (k := 9) rfl (nI_1 _) (by decide) rfl (fun ls hl => ?_)
                            refine lv_goto (tgt := 32) hx hb dL_grid_320 (by decide) ?_
                            exact ih32 (i + 1) (by omega) (by omega) _ _ _  hP hD hS (by rw [show frC N (i + 1) = x4_179 from (ex4_179.trans ((congrArg (fun z9 => frC N i + z9) ev_84).trans fR)).symm, show obC N (i + 1) = x3_164 from (ex3_164.trans ((congrArg (fun z9 => obC N i + z9) ev_82).trans fO)).symm, show trC N (i + 1) = x2_151 from (ex2_151.trans fT).symm, show hlC N (i + 1) = x1_140 from (ex1_140.trans fH).symm]; exact lv_sub hl [0, 1, 10, 2, 3, 4, 5, 11] rfl)
                          refine lv_iload hx hb dL_grid_262 (lv_at hl 7 rfl) ?_
                          refine lv_aload_n hx hb dL_grid_264 rfl (lv_at hl 11 rfl) ?_
                          refine lv_iload hx hb dL_grid_265 (lv_at hl 8 rfl) ?_
                          refine lv_iconst (v := 0) hx hb dL_grid_267 (by decide) ?_
                          refine nVi (As := [.int (nI i), .int 0]) (rest := _) hx hb hml hown hts hP hK hD hZ hA hS ⟨Nat.zero_le _, Nat.zero_le _⟩ hN.1 rfl (c_cell l E ad st N Rs a x (fun _ => 0) 0 ha hxx (Nat.zero_le _) hO.1.2.1 hW i 0 (by omega) (by omega)) (cwV 2 hts gL_grid_X4_cell rfl rfl rfl (by decide +kernel) ⟨Nat.le_of_ble_eq_true rfl, Nat.le_of_ble_eq_true rfl⟩) hl.1 rfl (Nat.le_of_ble_eq_true rfl) dL_grid_268 (fun r_111 s_112 H locs hq hP hD hS => ?_)
                          obtain ⟨hr9, rfl⟩ := hq
                          rw [hr9]
                          clear hr9
                          refine lv_icmp_ne (tgt := 278) hx hb dL_grid_271 (by decide) (fun c271_112 => ?_) (fun c271_112 => ?_)
                          · refine lv_iconst (v := 0) hx hb dL_grid_278 (by decide) ?_
                            exact J_100 _ _ _ (by simp only [if_neg c271_112]) hP hD hS
                          · refine lv_iconst (v := 1) hx hb dL_grid_274 (by decide) ?_
                            refine lv_goto (tgt := 279) hx hb dL_grid_275 (by decide) ?_
                            exact J_100 _ _ _ (by simp only [if_pos c271_112]) hP hD hS
                        refine lv_iload hx hb dL_grid_252 (lv_at hl 6 rfl) ?_
                        refine lv_if_ne (tgt := 261) hx hb dL_grid_254 (by decide) (fun c254_113 => ?_) (fun c254_113 => ?_)
                        · refine lv_iconst (v := 0) hx hb dL_grid_261 (by decide) ?_
                          exact J_98 _ _ _ (by simp only [if_neg c254_113]) hP hD hS
                        · refine lv_iconst (v := 1) hx hb dL_grid_257 (by decide) ?_
                          refine lv_goto (tgt := 262) hx hb dL_grid_258 (by decide) ?_
                          exact J_98 _ _ _ (by simp only [if_pos c254_113]) hP hD hS
                      refine lv_iload hx hb dL_grid_238 (lv_at hl 6 rfl) ?_
                      refine lv_iconst (v := -1) hx hb dL_grid_240 (by decide) ?_
                      refine lv_icmp_ne (tgt := 248) hx hb dL_grid_241 (by decide) (fun c241_114 => ?_) (fun c241_114 => ?_)
                      · refine lv_iconst (v := 0) hx hb dL_grid_248 (by decide) ?_
                        exact J_95 _ _ _ (by simp only [if_neg c241_114]) hP hD hS
                      · refine lv_iconst (v := 1) hx hb dL_grid_244 (by decide) ?_
                        refine lv_goto (tgt := 249) hx hb dL_grid_245 (by decide) ?_
                        exact J_95 _ _ _ (by simp only [if_pos c241_114]) hP hD hS
                    refine lv_iload hx hb dL_grid_227 (lv_at hl 7 rfl) ?_
                    refine lv_iconst (v := -1) hx hb dL_grid_229 (by decide) ?_
                    refine lv_icmp_ne (tgt := 237) hx hb dL_grid_230 (by decide) (fun c230_115 => ?_) (fun c230_115 => ?_)
                    · refine lv_iconst (v := 0) hx hb dL_grid_237 (by decide) ?_
                      exact J_93 _ _ _ (by simp only [if_neg c230_115]) hP hD hS
                    · refine lv_iconst (v := 1) hx hb dL_grid_233 (by decide) ?_
                      refine lv_goto (tgt := 238) hx hb dL_grid_234 (by decide) ?_
                      exact J_93 _ _ _ (by simp only [if_pos c230_115]) hP hD hS
                  refine lv_iload hx hb dL_grid_214 (lv_at hl 5 rfl) ?_
                  refine lv_if_ne (tgt := 223) hx hb dL_grid_216 (by decide) (fun c216_116 => ?_) (fun c216_116 => ?_)
                  · refine lv_iconst (v := 0) hx hb dL_grid_223 (by decide) ?_
                    exact J_90 _ _ _ (by simp only [if_neg c216_116]) hP hD hS
                  · refine lv_iconst (v := 1) hx hb dL_grid_219 (by decide) ?_
                    refine lv_goto (tgt := 224) hx hb dL_grid_220 (by decide) ?_
                    exact J_90 _ _ _ (by simp only [if_pos c216_116]) hP hD hS
                refine lv_iload hx hb dL_grid_203 (lv_at hl 7 rfl) ?_
                refine lv_iconst (v := -1) hx hb dL_grid_205 (by decide) ?_
                refine lv_icmp_ne (tgt := 213) hx hb dL_grid_206 (by decide) (fun c206_117 => ?_) (fun c206_117 => ?_)
                · refine lv_iconst (v := 0) hx hb dL_grid_213 (by decide) ?_
                  exact J_88 _ _ _ (by simp only [if_neg c206_117]) hP hD hS
                · refine lv_iconst (v := 1) hx hb dL_grid_209 (by decide) ?_
                  refine lv_goto (tgt := 214) hx hb dL_grid_210 (by decide) ?_
                  exact J_88 _ _ _ (by simp only [if_pos c206_117]) hP hD hS
              refine lv_aload_n hx hb dL_grid_181 rfl (lv_at hl 11 rfl) ?_
              refine lv_iload hx hb dL_grid_182 (lv_at hl 8 rfl) ?_
              refine lv_bipush (v := 6) hx hb dL_grid_184 (by decide) ?_
              refine nVi (As := [.int (nI i), .int 6]) (rest := _) hx hb hml hown hts hP hK hD hZ hA hS ⟨Nat.zero_le _, Nat.zero_le _⟩ hN.1 rfl (c_cell l E ad st N Rs a x (fun _ => 0) 0 ha hxx (Nat.zero_le _) hO.1.2.1 hW i 6 (by omega) (by omega)) (cwV 2 hts gL_grid_X4_cell rfl rfl rfl (by decide +kernel) ⟨Nat.le_of_ble_eq_true rfl, Nat.le_of_ble_eq_true rfl⟩) hl.1 rfl (Nat.le_of_ble_eq_true rfl) dL_grid_186 (fun r_119 s_120 H locs hq hP hD hS => ?_)
              obtain ⟨hr9, rfl⟩ := hq
              rw [hr9]
              clear hr9
              refine lv_iconst (v := 1) hx hb dL_grid_189 (by decide) ?_
              refine lv_icmp_ne (tgt := 197) hx hb dL_grid_190 (by decide) (fun c190_120 => ?_) (fun c190_120 => ?_)
              · refine lv_iconst (v := 0) hx hb dL_grid_197 (by decide) ?_
                exact J_85 _ _ _ (by simp only [if_neg c190_120]) hP hD hS
              · refine lv_iconst (v := 1) hx hb dL_grid_193 (by decide) ?_
                refine lv_goto (tgt := 198) hx hb dL_grid_194 (by decide) ?_
                exact J_85 _ _ _ (by simp only [if_pos c190_120]) hP hD hS
            refine lv_iload hx hb dL_grid_167 (lv_at hl 5 rfl) ?_
            refine lv_if_le (tgt := 177) hx hb dL_grid_169 (by decide) (fun c169_121 => ?_) (fun c169_121 => ?_)
            · refine lv_iconst (v := 0) hx hb dL_grid_177 (by decide) ?_
              exact J_83 _ _ _ (by simp only [if_pos c169_121]) hP hD hS
            · refine lv_iload hx hb dL_grid_172 (lv_at hl 5 rfl) ?_
              refine lv_goto (tgt := 178) hx hb dL_grid_174 (by decide) ?_
              exact J_83 _ _ _ (by simp only [if_neg c169_121]) hP hD hS
          refine lv_iload hx hb dL_grid_153 (lv_at hl 4 rfl) ?_
          refine lv_if_ne (tgt := 162) hx hb dL_grid_155 (by decide) (fun c155_122 => ?_) (fun c155_122 => ?_)
          · refine lv_iconst (v := 0) hx hb dL_grid_162 (by decide) ?_
            exact J_81 _ _ _ (by simp only [if_neg c155_122]) hP hD hS
          · refine lv_iconst (v := 1) hx hb dL_grid_158 (by decide) ?_
            refine lv_goto (tgt := 163) hx hb dL_grid_159 (by decide) ?_
            exact J_81 _ _ _ (by simp only [if_pos c155_122]) hP hD hS
        refine lv_aload_n hx hb dL_grid_92 rfl (lv_at hl 10 rfl) ?_
        refine lv_iload hx hb dL_grid_93 (lv_at hl 3 rfl) ?_
        refine lv_iconst (v := 2) hx hb dL_grid_95 (by decide) ?_
        refine nVi (As := [.int (nI i), .int 2]) (rest := _) hx hb hml hown hts hP hK hD hZ hA hS ⟨Nat.zero_le _, Nat.zero_le _⟩ hN.1 rfl (c_cell l E ad st N Rs a x (fun _ => 0) 0 ha hxx (Nat.zero_le _) hO.1.2.1 hW i 2 (by omega) (by omega)) (cwV 2 hts gL_grid_X4_cell rfl rfl rfl (by decide +kernel) ⟨Nat.le_of_ble_eq_true rfl, Nat.le_of_ble_eq_true rfl⟩) hl.1 rfl (Nat.le_of_ble_eq_true rfl) dL_grid_96 (fun r_124 s_125 H locs hq hP hD hS => ?_)
        obtain ⟨hr9, rfl⟩ := hq
        rw [hr9]
        clear hr9
        refine lv_if_ne (tgt := 128) hx hb dL_grid_99 (by decide) (fun c99_125 => ?_) (fun c99_125 => ?_)
        · refine lv_iconst (v := 0) hx hb dL_grid_128 (by decide) ?_
          exact J_75 _ _ _ (by delta trnV; simp only [if_neg c99_125]) hP hD hS
        · refine lv_iload hx hb dL_grid_102 (lv_at hl 2 rfl) ?_
          refine lv_if_lt (tgt := 128) hx hb dL_grid_104 (by decide) (fun c104_126 => ?_) (fun c104_126 => ?_)
          · refine lv_iconst (v := 0) hx hb dL_grid_128 (by decide) ?_
            exact J_75 _ _ _ (by delta trnV; simp only [if_pos c99_125, if_pos c104_126]) hP hD hS
          · refine lv_iload hx hb dL_grid_107 (lv_at hl 1 rfl) ?_
            refine lv_if_le (tgt := 128) hx hb dL_grid_109 (by decide) (fun c109_127 => ?_) (fun c109_127 => ?_)
            · refine lv_iconst (v := 0) hx hb dL_grid_128 (by decide) ?_
              exact J_75 _ _ _ (by delta trnV; simp only [if_pos c99_125, if_neg c104_126, if_pos c109_127]) hP hD hS
            · refine lv_iload hx hb dL_grid_112 (lv_at hl 0 rfl) ?_
              refine lv_aload_n hx hb dL_grid_114 rfl (lv_at hl 10 rfl) ?_
              refine lv_iload hx hb dL_grid_115 (lv_at hl 3 rfl) ?_
              refine lv_iconst (v := 1) hx hb dL_grid_117 (by decide) ?_
              refine nVi (As := [.int (nI i), .int 1]) (rest := _) hx hb hml hown hts hP hK hD hZ hA hS ⟨Nat.zero_le _, Nat.zero_le _⟩ hN.1 rfl (c_cell l E ad st N Rs a x (fun _ => 0) 0 ha hxx (Nat.zero_le _) hO.1.2.1 hW i 1 (by omega) (by omega)) (cwV 2 hts gL_grid_X4_cell rfl rfl rfl (by decide +kernel) ⟨Nat.le_of_ble_eq_true rfl, Nat.le_of_ble_eq_true rfl⟩) hl.1 rfl (Nat.le_of_ble_eq_true rfl) dL_grid_118 (fun r_129 s_130 H locs hq hP hD hS => ?_)
              obtain ⟨hr9, rfl⟩ := hq
              rw [hr9]
              clear hr9
              refine lv_icmp_le (tgt := 128) hx hb dL_grid_121 (by decide) (fun c121_130 => ?_) (fun c121_130 => ?_)
              · refine lv_iconst (v := 0) hx hb dL_grid_128 (by decide) ?_
                exact J_75 _ _ _ (by delta trnV; simp only [if_pos c99_125, if_neg c104_126, if_neg c109_127, if_pos c121_130]) hP hD hS
              · refine lv_iconst (v := 1) hx hb dL_grid_124 (by decide) ?_
                refine lv_goto (tgt := 129) hx hb dL_grid_125 (by decide) ?_
                exact J_75 _ _ _ (by delta trnV; simp only [if_pos c99_125, if_neg c104_126, if_neg c109_127, if_neg c121_130]) hP hD hS
  exact LP_4 (36 + 1) 0 (Nat.zero_le _) (by omega) _ _ _  hP hD hS (lv_sub hl [0, 1, 2, 3, 4, 5, 6, 7] rfl)

set_option maxHeartbeats 4000000 in
set_option maxRecDepth 100000 in
/-- behind the last round: when the grid would rest, and that it does -/
theorem p_end {pg : Program} {l : Launch} {en : Env} {s : State} {mi : MethodId} {ar : Array Value} {bw : List Frame} {mth : Method} {cd : Code} {Q : State → Prop} {E : NE} {ad : Nat → Nat} (hlt : l.stackTraces = false) (hx : pg.tables.exec = Jvm.exec) (hb : cd.code = cL_law) (hml : cd.maxLocals = 15) (hown : s.vm.findClass RL = some mi.cls) (hts : ∀ w ∈ wsL_law, w.before ar s = true) (hK : va_K E.1 vwCl (nTys E) s) (hZ : nZ E (lwA s) s s.heap) (hL0 : E.2.2 4 ≤ 260) {N : Nat → Int32} {Rs : Nat → Nat → Int32} {a x : Nat} {st : NW} {H : Heap} {locs : List Loc} {ls : Array Slot} {cl sl : Nat} (hcl : cl ≤ 600130) (hsl : sl ≤ 7301080) (hfin : ∀ (H1 : Heap) (locs1 : List Loc) (ls1 : Array Slot) (c1 s1 : Nat), c1 ≤ 600130 → s1 ≤ 7301080 → va_S (lwA s) s.heap H1 locs1 → W pg l en room_1 s mi ar bw mth cd H1 locs1 c1 s1 Q (F0 mi 393 ls1 [.int 1])) (ha : a ≤ 6) (hxx : x < 6) (hO : okP N) (hOs : ∀ i, i < 6 → okP (Rs i)) (hW : cW E ad st N Rs a x (fun _ => 0) 0) (hP : nP E ad st H) (hD : nD (lwA s) ad st) (hS : va_S (lwA s) s.heap H locs) (hl : lv_has ls 15 [(2, .int 1), (1, .ref (ad 0))]) : W pg l en room_1 s mi ar bw mth cd H locs cl sl Q (F0 mi 293 ls []) := by
  have hA : ∀ q, s.heap.size ≤ q → lwA s q := fun _ h => h
  have hcc : cl ≤ room_1.cells ∧ sl ≤ room_1.slots := ⟨hcl, hsl⟩
  refine lv_aload_n hx hb dL_law_293 rfl (lv_at hl 1 rfl) ?_
  refine nVi (As := []) (rest := _) hx hb hml hown hts hP hK hD hZ hA hS hcc hW.1.1 rfl (c_restsIn l E ad st N Rs a x (fun _ => 0) 0 ha hxx (Nat.zero_le _) hO.1.2.1 hW) (cwV 0 hts gL_law_X4_restsIn rfl rfl rfl (by decide +kernel) ⟨Nat.le_of_ble_eq_true rfl, Nat.le_of_ble_eq_true rfl⟩) hl.1 rfl (Nat.le_of_ble_eq_true rfl) dL_law_294 (fun r4 st1 H locs hq hP hD hS => ?_)
  obtain ⟨hr4, hW, -⟩ := hq
  have hr4 : r4 = rsI N := hr4
  obtain ⟨f1, f2, f3⟩ := rsI_law N
  rw [← hr4] at f1 f2 f3
  have f3 : (if r4 = 0 then (1 : Int32) else 0) = (if cntA N a 5 = 0 then 1 else 0) := f3
  refine lv_istore (lv' := [(4, .int r4), (2, .int 1), (1, .ref (ad 0))]) hx hb dL_law_297 hl (by decide) rfl (fun ls hl => ?_)
  refine lv_iload_n hx hb dL_law_299 rfl (lv_at hl 1 rfl) ?_
  refine lv_if_eq (tgt := 346) hx hb dL_law_300 (by decide) (fun c300_0 => absurd c300_0 (by decide)) (fun c300_0 => ?_)
  refine lv_iload hx hb dL_law_303 (lv_at hl 0 rfl) ?_
  refine lv_iconst (v := -1) hx hb dL_law_305 (by decide) ?_
  refine lv_icmp_lt (tgt := 346) hx hb dL_law_306 (by decide) (fun c306_1 => absurd c306_1 f1) (fun c306_1 => ?_)
  refine lv_iload hx hb dL_law_309 (lv_at hl 0 rfl) ?_
  refine lv_bipush (v := 100) hx hb dL_law_311 (by decide) ?_
  refine lv_icmp_gt (tgt := 346) hx hb dL_law_313 (by decide) (fun c313_2 => absurd c313_2 f2) (fun c313_2 => ?_)
  have J_4 : ∀ (v_5 : Int32) (H : Heap) (locs : List Loc), v_5 = (if r4 = 0 then 1 else 0) → nP E ad st1 H → nD (lwA s) ad st1 → va_S (lwA s) s.heap H locs → W pg l en room_1 s mi ar bw mth cd H locs cl sl Q (F0 mi 326 ls [.int v_5]) := by
    intro v_5 H locs ev_5 hP hD hS
    have J_6 : ∀ (v_7 : Int32) (H : Heap) (locs : List Loc), v_7 = (if cntA N a 5 = 0 then 1 else 0) → nP E ad st1 H → nD (lwA s) ad st1 → va_S (lwA s) s.heap H locs → W pg l en room_1 s mi ar bw mth cd H locs cl sl Q (F0 mi 339 ls [.int v_7, .int v_5]) := by
      intro v_7 H locs ev_7 hP hD hS
      refine lv_icmp_ne (tgt := 346) hx hb dL_law_339 (by decide) (fun c339_7 => absurd (ev_5.trans (f3.trans ev_7.symm)) c339_7) (fun c339_7 => ?_)
      refine lv_iconst (v := 1) hx hb dL_law_342 (by decide) ?_
      refine lv_goto (tgt := 347) hx hb dL_law_343 (by decide) ?_
      refine lv_istore_n (lv' := [(2, .int 1), (4, .int r4), (1, .ref (ad 0))]) hx hb dL_law_347 rfl hl (by decide) rfl (fun ls hl => ?_)
      refine lv_iload hx hb dL_law_348 (lv_at hl 1 rfl) ?_
      refine lv_if_le (tgt := 392) hx hb dL_law_350 (by decide) (fun c350_8 => ?_) (fun c350_8 => ?_)
      · refine lv_iload_n hx hb dL_law_392 rfl (lv_at hl 0 rfl) ?_
        exact hfin _ _ _ _ _ hcl hsl hS
      · refine lv_iload hx hb dL_law_353 (lv_at hl 1 rfl) ?_
        refine lv_bipush (v := 51) hx hb dL_law_355 (by decide) ?_
        refine lv_icmp_ge (tgt := 392) hx hb dL_law_357 (by decide) (fun c357_9 => ?_) (fun c357_9 => ?_)
        · refine lv_iload_n hx hb dL_law_392 rfl (lv_at hl 0 rfl) ?_
          exact hfin _ _ _ _ _ hcl hsl hS
        · refine lv_aload_n hx hb dL_law_360 rfl (lv_at hl 2 rfl) ?_
          refine lv_iload hx hb dL_law_361 (lv_at hl 1 rfl) ?_
          rw [hr4] at c350_8 c357_9
          obtain ⟨j, hj1, hj50, ej, hz⟩ := rsI_pos c350_8 c357_9
          rw [hr4.trans ej]
          refine nVi (As := [.int (nI j)]) (rest := _) hx hb hml hown hts hP hK hD hZ hA hS hcc hW.1.1 rfl (c_step l E ad st1 N Rs a x (fun _ => 0) 0 ha hxx (Nat.zero_le _) hO.1.2.1 hW j (by omega) (by omega)) (cwV 1 hts gL_law_X4_step rfl rfl rfl (by decide +kernel) ⟨Nat.le_of_ble_eq_true rfl, Nat.le_of_ble_eq_true rfl⟩) hl.1 rfl (Nat.le_of_ble_eq_true rfl) dL_law_363 (fun r9 st2 H locs hq hP hD hS => ?_)
          obtain ⟨-, hW3, -⟩ := hq
          obtain ⟨t1, t2⟩ := rest_then (v := N 3 + nI j) hz
          obtain ⟨N3, eN3⟩ : ∃ N3, N3 = upd (itN N j) 3 (N 3 + nI j) := ⟨_, rfl⟩
          have hO3 : okP N3 := by rw [eN3]; exact hO.step _ _
          rw [← eN3] at hW3 t1 t2
          obtain ⟨Rs3, eR3⟩ : ∃ Rs3, Rs3 = svR N Rs x := ⟨_, rfl⟩
          obtain ⟨a3, ea3⟩ : ∃ a3, a3 = svA a := ⟨_, rfl⟩
          obtain ⟨x3, ex3⟩ : ∃ x3, x3 = svX x := ⟨_, rfl⟩
          have ha3 : a3 ≤ 6 := by rw [ea3]; exact svA_le ha
          have hxx3 : x3 < 6 := by rw [ex3]; exact svX_lt
          rw [← eR3, ← ea3, ← ex3] at hW3
          refine lv_pop hx hb dL_law_366 rfl ?_
          refine lv_iload_n hx hb dL_law_367 rfl (lv_at hl 0 rfl) ?_
          refine lv_if_eq (tgt := 390) hx hb dL_law_368 (by decide) (fun c368_10 => absurd c368_10 (by decide)) (fun c368_10 => ?_)
          refine lv_aload_n hx hb dL_law_371 rfl (lv_at hl 2 rfl) ?_
          refine lv_iconst (v := 5) hx hb dL_law_372 (by decide) ?_
          refine nVi (As := [.int 5]) (rest := _) hx hb hml hown hts hP hK hD hZ hA hS hcc hW3.1.1 rfl (c_count l E ad st2 N3 Rs3 a3 x3 (fun _ => 0) 0 ha3 hxx3 (Nat.zero_le _) hO3.1.2.1 hW3 5 (by omega)) (cwV 1 hts gL_law_X4_count rfl rfl rfl (by decide +kernel) ⟨Nat.le_of_ble_eq_true rfl, Nat.le_of_ble_eq_true rfl⟩) hl.1 rfl (Nat.le_of_ble_eq_true rfl) dL_law_373 (fun r_12 s_13 H locs hq hP hD hS => ?_)
          obtain ⟨hr9, rfl⟩ := hq
          rw [hr9]
          clear hr9
          refine lv_if_ne (tgt := 390) hx hb dL_law_376 (by decide) (fun c376_13 => absurd (show cntA N3 a3 5 = 0 from t1) c376_13) (fun c376_13 => ?_)
          refine lv_aload_n hx hb dL_law_379 rfl (lv_at hl 2 rfl) ?_
          refine nVi (As := []) (rest := _) hx hb hml hown hts hP hK hD hZ hA hS hcc hW3.1.1 rfl (c_restsIn l E ad st2 N3 Rs3 a3 x3 (fun _ => 0) 0 ha3 hxx3 (Nat.zero_le _) hO3.1.2.1 hW3) (cwV 0 hts gL_law_X4_restsIn rfl rfl rfl (by decide +kernel) ⟨Nat.le_of_ble_eq_true rfl, Nat.le_of_ble_eq_true rfl⟩) hl.1 rfl (Nat.le_of_ble_eq_true rfl) dL_law_380 (fun r5 st3 H locs hq hP hD hS => ?_)
          obtain ⟨hr5, hW3, -⟩ := hq
          refine lv_if_ne (tgt := 390) hx hb dL_law_383 (by decide) (fun c383_14 => absurd (hr5.trans t2) c383_14) (fun c383_14 => ?_)
          refine lv_iconst (v := 1) hx hb dL_law_386 (by decide) ?_
          refine lv_goto (tgt := 391) hx hb dL_law_387 (by decide) ?_
          refine lv_istore_n (lv' := [(2, .int 1), (4, .int r4), (1, .ref (ad 0))]) hx hb dL_law_391 rfl hl (by decide) rfl (fun ls hl => ?_)
          refine lv_iload_n hx hb dL_law_392 rfl (lv_at hl 0 rfl) ?_
          exact hfin _ _ _ _ _ hcl hsl hS
    refine lv_aload_n hx hb dL_law_326 rfl (lv_at hl 2 rfl) ?_
    refine lv_iconst (v := 5) hx hb dL_law_327 (by decide) ?_
    refine nVi (As := [.int 5]) (rest := _) hx hb hml hown hts hP hK hD hZ hA hS hcc hW.1.1 rfl (c_count l E ad st1 N Rs a x (fun _ => 0) 0 ha hxx (Nat.zero_le _) hO.1.2.1 hW 5 (by omega)) (cwV 1 hts gL_law_X4_count rfl rfl rfl (by decide +kernel) ⟨Nat.le_of_ble_eq_true rfl, Nat.le_of_ble_eq_true rfl⟩) hl.1 rfl (Nat.le_of_ble_eq_true rfl) dL_law_328 (fun r_16 s_17 H locs hq hP hD hS => ?_)
    obtain ⟨hr9, rfl⟩ := hq
    rw [hr9]
    clear hr9
    refine lv_if_ne (tgt := 338) hx hb dL_law_331 (by decide) (fun c331_17 => ?_) (fun c331_17 => ?_)
    · refine lv_iconst (v := 0) hx hb dL_law_338 (by decide) ?_
      exact J_6 _ _ _ (by simp only [if_neg c331_17]) hP hD hS
    · refine lv_iconst (v := 1) hx hb dL_law_334 (by decide) ?_
      refine lv_goto (tgt := 339) hx hb dL_law_335 (by decide) ?_
      exact J_6 _ _ _ (by simp only [if_pos c331_17]) hP hD hS
  refine lv_iload hx hb dL_law_316 (lv_at hl 0 rfl) ?_
  refine lv_if_ne (tgt := 325) hx hb dL_law_318 (by decide) (fun c318_18 => ?_) (fun c318_18 => ?_)
  · refine lv_iconst (v := 0) hx hb dL_law_325 (by decide) ?_
    exact J_4 _ _ _ (by simp only [if_neg c318_18]) hP hD hS
  · refine lv_iconst (v := 1) hx hb dL_law_321 (by decide) ?_
    refine lv_goto (tgt := 326) hx hb dL_law_322 (by decide) ?_
    exact J_4 _ _ _ (by simp only [if_pos c318_18]) hP hD hS

set_option maxHeartbeats 4000000 in
set_option maxRecDepth 100000 in
/-- rounds of the law from j on -/
theorem p_loop {pg : Program} {l : Launch} {en : Env} {s : State} {mi : MethodId} {ar : Array Value} {bw : List Frame} {mth : Method} {cd : Code} {Q : State → Prop} {E : NE} {ad : Nat → Nat} (hlt : l.stackTraces = false) (hx : pg.tables.exec = Jvm.exec) (hb : cd.code = cL_law) (hml : cd.maxLocals = 15) (hown : s.vm.findClass RL = some mi.cls) (hts : ∀ w ∈ wsL_law, w.before ar s = true) (hK : va_K E.1 vwCl (nTys E) s) (hZ : nZ E (lwA s) s s.heap) (hL0 : E.2.2 4 ≤ 260) {T : Nat} (hT : T ≤ 30) (hend : ∀ (N : Nat → Int32) (Rs : Nat → Nat → Int32) (a x : Nat) (st : NW) (H : Heap) (locs : List Loc) (ls : Array Slot) (cl sl : Nat), cl ≤ 600130 → sl ≤ 7301080 → a ≤ 6 → x < 6 → okP N → (∀ i, i < 6 → okP (Rs i)) → cW E ad st N Rs a x (fun _ => 0) 0 → nP E ad st H → nD (lwA s) ad st → va_S (lwA s) s.heap H locs → lv_has ls 15 [(2, .int 1), (1, .ref (ad 0))] → W pg l en room_1 s mi ar bw mth cd H locs cl sl Q (F0 mi 293 ls [])) : ∀ (k j : Nat), k + j = T → ∀ (N : Nat → Int32) (Rs : Nat → Nat → Int32) (a x : Nat) (st : NW) (H : Heap) (locs : List Loc) (ls : Array Slot) (cl sl : Nat), cl ≤ 94 + j → sl ≤ 2802 + 6 * j → a ≤ 6 → x < 6 → okP N → (∀ i, i < 6 → okP (Rs i)) → cW E ad st N Rs a x (fun _ => 0) 0 → nP E ad st H → nD (lwA s) ad st → va_S (lwA s) s.heap H locs → lv_has ls 15 [(4, .int (nI j)), (3, .int (nI T)), (2, .int 1), (1, .ref (ad 0)), (0, .ref (E.2.2 3))] → W pg l en room_1 s mi ar bw mth cd H locs cl sl Q (F0 mi 32 ls []) := by
  have hA : ∀ q, s.heap.size ≤ q → lwA s q := fun _ h => h
  have hL : E.2.2 4 < 2 ^ 31 := by omega
  have hB9 : ∀ N, okP N → brC N ≤ 6 := fun N h => brC_6 h
  intro k
  induction k with
  | zero =>
    intro j hkj N Rs a x st H locs ls cl sl hcl hsl ha hxx hO hOs hW hP hD hS hl
    refine lv_iload hx hb dL_law_32 (lv_at hl 0 rfl) ?_
    refine lv_iload_n hx hb dL_law_34 rfl (lv_at hl 1 rfl) ?_
    refine lv_icmp_ge (tgt := 293) hx hb dL_law_35 (by decide) (fun c35 => ?_) (fun c35 => absurd (nI_le (by omega) (by omega)) c35)
    exact hend N Rs a x st H locs ls cl sl (by omega) (by omega) ha hxx hO hOs hW hP hD hS (lv_sub hl [2, 3] rfl)
  | succ k ih =>
    intro j hkj N Rs a x st H locs ls cl sl hcl hsl ha hxx hO hOs hW hP hD hS hl
    have hcc : cl + 1 ≤ room_1.cells ∧ sl + 6 ≤ room_1.slots := by
      show cl + 1 ≤ 600130 ∧ sl + 6 ≤ 7301080
      omega
    have hc0 : cl ≤ room_1.cells ∧ sl ≤ room_1.slots := ⟨Nat.le_of_succ_le hcc.1, Nat.le_trans (Nat.le_add_right _ _) hcc.2⟩
    refine lv_iload hx hb dL_law_32 (lv_at hl 0 rfl) ?_
    refine lv_iload_n hx hb dL_law_34 rfl (lv_at hl 1 rfl) ?_
    refine lv_icmp_ge (tgt := 293) hx hb dL_law_35 (by decide) (fun c35_0 => ?_) (fun c35_0 => ?_)
    · exact hend N Rs a x st H locs ls cl sl (by omega) (by omega) ha hxx hO hOs hW hP hD hS (lv_sub hl [2, 3] rfl)
    · have hjT : j < T := Nat.not_le.mp fun z => c35_0 (nI_le z (by omega))
      refine lv_iload_n hx hb dL_law_38 rfl (lv_at hl 2 rfl) ?_
      refine lv_if_eq (tgt := 293) hx hb dL_law_39 (by decide) (fun c39_1 => absurd c39_1 (by decide)) (fun c39_1 => ?_)
      refine lv_aload_n hx hb dL_law_42 rfl (lv_at hl 3 rfl) ?_
      refine lv_bipush (v := 8) hx hb dL_law_43 (by decide) ?_
      refine nVi (As := [.int 8]) (rest := _) hx hb hml hown hts hP hK hD hZ hA hS hc0 hW.1.1 rfl (c_count l E ad st N Rs a x (fun _ => 0) 0 ha hxx (Nat.zero_le _) hO.1.2.1 hW 8 (by omega)) (cwV 1 hts gL_law_X4_count rfl rfl rfl (by decide +kernel) ⟨Nat.le_of_ble_eq_true rfl, Nat.le_of_ble_eq_true rfl⟩) hl.1 rfl (Nat.le_of_ble_eq_true rfl) dL_law_45 (fun r_3 s_4 H locs hq hP hD hS => ?_)
      obtain ⟨hr9, rfl⟩ := hq
      rw [hr9]
      clear hr9
      refine lv_topi (fun x5_48 ex5_48 => ?_)
      refine lv_istore (lv' := [(5, .int x5_48), (4, .int (nI j)), (3, .int (nI T)), (2, .int 1), (1, .ref (ad 0)), (0, .ref (E.2.2 3))]) hx hb dL_law_48 hl (by decide) rfl (fun ls hl => ?_)
      refine lv_aload_n hx hb dL_law_50 rfl (lv_at hl 4 rfl) ?_
      refine lv_iconst (v := 1) hx hb dL_law_51 (by decide) ?_
      refine nVi (As := [.int 1]) (rest := _) hx hb hml hown hts hP hK hD hZ hA hS hc0 hW.1.1 rfl (c_count l E ad st N Rs a x (fun _ => 0) 0 ha hxx (Nat.zero_le _) hO.1.2.1 hW 1 (by omega)) (cwV 1 hts gL_law_X4_count rfl rfl rfl (by decide +kernel) ⟨Nat.le_of_ble_eq_true rfl, Nat.le_of_ble_eq_true rfl⟩) hl.1 rfl (Nat.le_of_ble_eq_true rfl) dL_law_52 (fun r_5 s_6 H locs hq hP hD hS => ?_)
      obtain ⟨hr9, rfl⟩ := hq
      rw [hr9]
      clear hr9
      refine lv_istore (lv' := [(6, .int (nI (brC N))), (5, .int x5_48), (4, .int (nI j)), (3, .int (nI T)), (2, .int 1), (1, .ref (ad 0)), (0, .ref (E.2.2 3))]) hx hb dL_law_55 hl (by decide) rfl (fun ls hl => ?_)
      refine lv_aload_n hx hb dL_law_57 rfl (lv_at hl 5 rfl) ?_
      refine lv_iconst (v := 0) hx hb dL_law_58 (by decide) ?_
      refine nVi (As := [.int 0]) (rest := _) hx hb hml hown hts hP hK hD hZ hA hS hc0 hW.1.1 rfl (c_count l E ad st N Rs a x (fun _ => 0) 0 ha hxx (Nat.zero_le _) hO.1.2.1 hW 0 (by omega)) (cwV 1 hts gL_law_X4_count rfl rfl rfl (by decide +kernel) ⟨Nat.le_of_ble_eq_true rfl, Nat.le_of_ble_eq_true rfl⟩) hl.1 rfl (Nat.le_of_ble_eq_true rfl) dL_law_59 (fun r_7 s_8 H locs hq hP hD hS => ?_)
      obtain ⟨hr9, rfl⟩ := hq
      rw [hr9]
      clear hr9
      refine lv_topi (fun x7_62 ex7_62 => ?_)
      refine lv_istore (lv' := [(7, .int x7_62), (6, .int (nI (brC N))), (5, .int x5_48), (4, .int (nI j)), (3, .int (nI T)), (2, .int 1), (1, .ref (ad 0)), (0, .ref (E.2.2 3))]) hx hb dL_law_62 hl (by decide) rfl (fun ls hl => ?_)
      refine lv_aload_n hx hb dL_law_64 rfl (lv_at hl 6 rfl) ?_
      refine lv_iconst (v := 5) hx hb dL_law_65 (by decide) ?_
      refine nVi (As := [.int 5]) (rest := _) hx hb hml hown hts hP hK hD hZ hA hS hc0 hW.1.1 rfl (c_count l E ad st N Rs a x (fun _ => 0) 0 ha hxx (Nat.zero_le _) hO.1.2.1 hW 5 (by omega)) (cwV 1 hts gL_law_X4_count rfl rfl rfl (by decide +kernel) ⟨Nat.le_of_ble_eq_true rfl, Nat.le_of_ble_eq_true rfl⟩) hl.1 rfl (Nat.le_of_ble_eq_true rfl) dL_law_66 (fun r_9 s_10 H locs hq hP hD hS => ?_)
      obtain ⟨hr9, rfl⟩ := hq
      rw [hr9]
      clear hr9
      refine lv_topi (fun x8_69 ex8_69 => ?_)
      refine lv_istore (lv' := [(8, .int x8_69), (7, .int x7_62), (6, .int (nI (brC N))), (5, .int x5_48), (4, .int (nI j)), (3, .int (nI T)), (2, .int 1), (1, .ref (ad 0)), (0, .ref (E.2.2 3))]) hx hb dL_law_69 hl (by decide) rfl (fun ls hl => ?_)
      refine lv_aload_n hx hb dL_law_71 rfl (lv_at hl 8 rfl) ?_
      refine lv_iconst (v := 3) hx hb dL_law_72 (by decide) ?_
      refine lv_iload hx hb dL_law_73 (lv_at hl 4 rfl) ?_
      refine lv_imul hx hb dL_law_75 ?_
      rw [show 3 * nI j = nI (3 * j) from pk_mul 3 j]
      refine nS_i (As := [.ref (E.2.2 3), .int (nI (3 * j))]) (rest := _) hx hb hml hown hts hP hK hD hZ hA hS hc0 (l_cell l E ad st hL (3 * j) (by omega)) (va_cwS 2 hts gL_law_L_cell rfl rfl rfl (by decide +kernel) ⟨Nat.le_of_ble_eq_true rfl, Nat.le_of_ble_eq_true rfl⟩) hl.1 rfl (Nat.le_of_ble_eq_true rfl) dL_law_76 (fun r_11 s_12 H locs hq hP hD hS => ?_)
      obtain ⟨hr9, rfl⟩ := hq
      rw [hr9]
      clear hr9
      refine lv_bipush (v := 20) hx hb dL_law_79 (by decide) ?_
      refine nS_i (As := [.int (scI E (3 * j)), .int 20]) (rest := _) hx hb hml hown hts hP hK hD hZ hA hS hc0 (l_low l E ad st (scI E (3 * j)) 20 (by omega) (by omega)) (va_cwS 2 hts gL_law_L_low rfl rfl rfl (by decide +kernel) ⟨Nat.le_of_ble_eq_true rfl, Nat.le_of_ble_eq_true rfl⟩) hl.1 rfl (Nat.le_of_ble_eq_true rfl) dL_law_81 (fun r_13 s_14 H locs hq hP hD hS => ?_)
      obtain ⟨hr9, rfl⟩ := hq
      obtain ⟨m_81, em_81⟩ : ∃ n9, n9 = lwN (scI E (3 * j)) 20 := ⟨_, rfl⟩
      have hm_81 : m_81 < 20 := by rw [em_81]; exact lwN_lt (by omega)
      rw [hr9, ← em_81]
      clear hr9
      refine lv_istore (lv' := [(9, .int (nI m_81)), (8, .int x8_69), (7, .int x7_62), (6, .int (nI (brC N))), (5, .int x5_48), (4, .int (nI j)), (3, .int (nI T)), (2, .int 1), (1, .ref (ad 0)), (0, .ref (E.2.2 3))]) hx hb dL_law_84 hl (by decide) rfl (fun ls hl => ?_)
      refine lv_aload_n hx hb dL_law_86 rfl (lv_at hl 9 rfl) ?_
      refine lv_iconst (v := 3) hx hb dL_law_87 (by decide) ?_
      refine lv_iload hx hb dL_law_88 (lv_at hl 5 rfl) ?_
      refine lv_imul hx hb dL_law_90 ?_
      rw [show 3 * nI j = nI (3 * j) from pk_mul 3 j]
      refine lv_iconst (v := 1) hx hb dL_law_91 (by decide) ?_
      refine lv_iadd hx hb dL_law_92 ?_
      rw [nI_1]
      refine nS_i (As := [.ref (E.2.2 3), .int (nI ((3 * j) + 1))]) (rest := _) hx hb hml hown hts hP hK hD hZ hA hS hc0 (l_cell l E ad st hL ((3 * j) + 1) (by omega)) (va_cwS 2 hts gL_law_L_cell rfl rfl rfl (by decide +kernel) ⟨Nat.le_of_ble_eq_true rfl, Nat.le_of_ble_eq_true rfl⟩) hl.1 rfl (Nat.le_of_ble_eq_true rfl) dL_law_93 (fun r_15 s_16 H locs hq hP hD hS => ?_)
      obtain ⟨hr9, rfl⟩ := hq
      rw [hr9]
      clear hr9
      refine lv_topi (fun x10_96 ex10_96 => ?_)
      refine lv_istore (lv' := [(10, .int x10_96), (9, .int (nI m_81)), (8, .int x8_69), (7, .int x7_62), (6, .int (nI (brC N))), (5, .int x5_48), (4, .int (nI j)), (3, .int (nI T)), (2, .int 1), (1, .ref (ad 0)), (0, .ref (E.2.2 3))]) hx hb dL_law_96 hl (by decide) rfl (fun ls hl => ?_)
      refine lv_iload hx hb dL_law_98 (lv_at hl 0 rfl) ?_
      refine lv_bipush (v := 6) hx hb dL_law_100 (by decide) ?_
      refine lv_ishr hx hb dL_law_102 ?_
      refine lv_bipush (v := 36) hx hb dL_law_103 (by decide) ?_
      refine nS_i (As := [.int (x10_96 >>> (6 &&& 31)), .int 36]) (rest := _) hx hb hml hown hts hP hK hD hZ hA hS hc0 (l_low l E ad st (x10_96 >>> (6 &&& 31)) 36 (by omega) (by omega)) (va_cwS 2 hts gL_law_L_low rfl rfl rfl (by decide +kernel) ⟨Nat.le_of_ble_eq_true rfl, Nat.le_of_ble_eq_true rfl⟩) hl.1 rfl (Nat.le_of_ble_eq_true rfl) dL_law_105 (fun r_17 s_18 H locs hq hP hD hS => ?_)
      obtain ⟨hr9, rfl⟩ := hq
      obtain ⟨m_105, em_105⟩ : ∃ n9, n9 = lwN (x10_96 >>> (6 &&& 31)) 36 := ⟨_, rfl⟩
      have hm_105 : m_105 < 36 := by rw [em_105]; exact lwN_lt (by omega)
      rw [hr9, ← em_105]
      clear hr9
      refine lv_istore (lv' := [(11, .int (nI m_105)), (10, .int x10_96), (9, .int (nI m_81)), (8, .int x8_69), (7, .int x7_62), (6, .int (nI (brC N))), (5, .int x5_48), (4, .int (nI j)), (3, .int (nI T)), (2, .int 1), (1, .ref (ad 0)), (0, .ref (E.2.2 3))]) hx hb dL_law_108 hl (by decide) rfl (fun ls hl => ?_)
      refine lv_iconst (v := 1) hx hb dL_law_110 (by decide) ?_
      refine lv_iload hx hb dL_law_111 (lv_at hl 1 rfl) ?_
      refine lv_iconst (v := 5) hx hb dL_law_113 (by decide) ?_
      refine nS_i (As := [.int x10_96, .int 5]) (rest := _) hx hb hml hown hts hP hK hD hZ hA hS hc0 (l_low l E ad st x10_96 5 (by omega) (by omega)) (va_cwS 2 hts gL_law_L_low rfl rfl rfl (by decide +kernel) ⟨Nat.le_of_ble_eq_true rfl, Nat.le_of_ble_eq_true rfl⟩) hl.1 rfl (Nat.le_of_ble_eq_true rfl) dL_law_114 (fun r_19 s_20 H locs hq hP hD hS => ?_)
      obtain ⟨hr9, rfl⟩ := hq
      obtain ⟨m_114, em_114⟩ : ∃ n9, n9 = lwN x10_96 5 := ⟨_, rfl⟩
      have hm_114 : m_114 < 5 := by rw [em_114]; exact lwN_lt (by omega)
      rw [hr9, ← em_114]
      clear hr9
      refine lv_iadd hx hb dL_law_117 ?_
      rw [show 1 + nI m_114 = nI (1 + m_114) from nI_add 1 m_114]
      refine lv_istore (lv' := [(12, .int (nI (1 + m_114))), (11, .int (nI m_105)), (10, .int x10_96), (9, .int (nI m_81)), (8, .int x8_69), (7, .int x7_62), (6, .int (nI (brC N))), (5, .int x5_48), (4, .int (nI j)), (3, .int (nI T)), (2, .int 1), (1, .ref (ad 0)), (0, .ref (E.2.2 3))]) hx hb dL_law_118 hl (by decide) rfl (fun ls hl => ?_)
      refine lv_aload_n hx hb dL_law_120 rfl (lv_at hl 11 rfl) ?_
      refine lv_iload hx hb dL_law_121 (lv_at hl 1 rfl) ?_
      refine lv_iload hx hb dL_law_123 (lv_at hl 0 rfl) ?_
      refine nVi (As := [.int (nI m_105), .int (nI (1 + m_114))]) (rest := _) hx hb hml hown hts hP hK hD hZ hA hS hc0 hW.1.1 rfl (c_points l E ad st N Rs a x (fun _ => 0) 0 ha hxx (Nat.zero_le _) hO.1.2.1 hW m_105 (1 + m_114) hm_105 (by omega)) (cwV 2 hts gL_law_X4_points rfl rfl rfl (by decide +kernel) ⟨Nat.le_of_ble_eq_true rfl, Nat.le_of_ble_eq_true rfl⟩) hl.1 rfl (Nat.le_of_ble_eq_true rfl) dL_law_125 (fun r13 st1 H locs hq hP hD hS => ?_)
      obtain ⟨hr13, hW, -⟩ := hq
      refine lv_istore (lv' := [(13, .int r13), (12, .int (nI (1 + m_114))), (11, .int (nI m_105)), (10, .int x10_96), (9, .int (nI m_81)), (8, .int x8_69), (7, .int x7_62), (6, .int (nI (brC N))), (5, .int x5_48), (4, .int (nI j)), (3, .int (nI T)), (2, .int 1), (1, .ref (ad 0)), (0, .ref (E.2.2 3))]) hx hb dL_law_128 hl (by decide) rfl (fun ls hl => ?_)
      refine lv_aload_n hx hb dL_law_130 rfl (lv_at hl 12 rfl) ?_
      refine lv_aload_n hx hb dL_law_131 rfl (lv_at hl 13 rfl) ?_
      refine lv_iconst (v := 3) hx hb dL_law_132 (by decide) ?_
      refine lv_iload hx hb dL_law_133 (lv_at hl 9 rfl) ?_
      refine lv_imul hx hb dL_law_135 ?_
      rw [show 3 * nI j = nI (3 * j) from pk_mul 3 j]
      refine nS_x (As := [.ref (ad 0), .ref (E.2.2 3), .int (nI (3 * j))]) (rest := _) hx hb hml hown hts hP hK hD hZ hA hS hcc (l_act l hlt E ad st1 N Rs a x ha hxx hO hOs hW hL (3 * j) (by omega)) (va_cwS 3 hts gL_law_L_act rfl rfl rfl (by decide +kernel) ⟨Nat.le_of_ble_eq_true rfl, Nat.le_of_ble_eq_true rfl⟩) hl.1 rfl (Nat.le_of_ble_eq_true rfl) dL_law_136 (fun r14 st2 H locs hq hP hD hS => ?_)
      obtain ⟨N2, Rs2, a2, x2, ha2, hxx2, hO2, hOs2, hW2, hneg, hstp⟩ := hq
      rw [← em_81, ← ex10_96, ← em_114] at hstp
      refine lv_istore (lv' := [(14, .int r14), (13, .int r13), (12, .int (nI (1 + m_114))), (11, .int (nI m_105)), (10, .int x10_96), (9, .int (nI m_81)), (8, .int x8_69), (7, .int x7_62), (6, .int (nI (brC N))), (5, .int x5_48), (4, .int (nI j)), (3, .int (nI T)), (2, .int 1), (1, .ref (ad 0)), (0, .ref (E.2.2 3))]) hx hb dL_law_139 hl (by decide) rfl (fun ls hl => ?_)
      have J192 : ∀ (H : Heap) (locs : List Loc), nP E ad st2 H → nD (lwA s) ad st2 → va_S (lwA s) s.heap H locs → W pg l en room_1 s mi ar bw mth cd H locs (cl + 1) (sl + 6) Q (F0 mi 192 ls [.int 1]) := by
        intro H locs hP hD hS
        refine lv_istore_n (lv' := [(2, .int 1), (14, .int r14), (13, .int r13), (12, .int (nI (1 + m_114))), (11, .int (nI m_105)), (10, .int x10_96), (9, .int (nI m_81)), (8, .int x8_69), (7, .int x7_62), (6, .int (nI (brC N))), (5, .int x5_48), (4, .int (nI j)), (3, .int (nI T)), (1, .ref (ad 0)), (0, .ref (E.2.2 3))]) hx hb dL_law_192 rfl hl (by decide) rfl (fun ls hl => ?_)
        refine lv_iload_n hx hb dL_law_193 rfl (lv_at hl 0 rfl) ?_
        refine lv_if_eq (tgt := 285) hx hb dL_law_194 (by decide) (fun c194_20 => absurd c194_20 (by decide)) (fun c194_20 => ?_)
        have J259 : ∀ (H : Heap) (locs : List Loc), nP E ad st2 H → nD (lwA s) ad st2 → va_S (lwA s) s.heap H locs → W pg l en room_1 s mi ar bw mth cd H locs (cl + 1) (sl + 6) Q (F0 mi 259 ls []) := by
          intro H locs hP hD hS
          have J281 : ∀ (H : Heap) (locs : List Loc), nP E ad st2 H → nD (lwA s) ad st2 → va_S (lwA s) s.heap H locs → W pg l en room_1 s mi ar bw mth cd H locs (cl + 1) (sl + 6) Q (F0 mi 281 ls []) := by
            intro H locs hP hD hS
            refine lv_iconst (v := 1) hx hb dL_law_281 (by decide) ?_
            refine lv_goto (tgt := 286) hx hb dL_law_282 (by decide) ?_
            refine lv_istore_n (lv' := [(2, .int 1), (14, .int r14), (13, .int r13), (12, .int (nI (1 + m_114))), (11, .int (nI m_105)), (10, .int x10_96), (9, .int (nI m_81)), (8, .int x8_69), (7, .int x7_62), (6, .int (nI (brC N))), (5, .int x5_48), (4, .int (nI j)), (3, .int (nI T)), (1, .ref (ad 0)), (0, .ref (E.2.2 3))]) hx hb dL_law_286 rfl hl (by decide) rfl (fun ls hl => ?_)
            refine lv_iinc (v := nI (j + 1)) (lv' := [(4, .int (nI (j + 1))), (2, .int 1), (14, .int r14), (13, .int r13), (12, .int (nI (1 + m_114))), (11, .int (nI m_105)), (10, .int x10_96), (9, .int (nI m_81)), (8, .int x8_69), (7, .int x7_62), (6, .int (nI (brC N))), (5, .int x5_48), (3, .int (nI T)), (1, .ref (ad 0)), (0, .ref (E.2.2 3))]) hx hb dL_law_287 hl (k := 11) rfl (nI_1 _) (by decide) rfl (fun ls hl => ?_)
            refine lv_goto (tgt := 32) hx hb dL_law_290 (by decide) ?_
            exact ih (j + 1) (by omega) N2 Rs2 a2 x2 _ _ _ _ _ _ (by omega) (by omega) ha2 hxx2 hO2 hOs2 hW2 hP hD hS (lv_sub hl [0, 12, 1, 13, 14] rfl)
          have J274 : ∀ (H : Heap) (locs : List Loc), nP E ad st2 H → nD (lwA s) ad st2 → va_S (lwA s) s.heap H locs → W pg l en room_1 s mi ar bw mth cd H locs (cl + 1) (sl + 6) Q (F0 mi 274 ls []) := by
            intro H locs hP hD hS
            refine lv_aload_n hx hb dL_law_274 rfl (lv_at hl 13 rfl) ?_
            refine nS_i (As := [.ref (ad 0)]) (rest := _) hx hb hml hown hts hP hK hD hZ hA hS hcc (l_grid l E ad st2 N2 Rs2 a2 x2 ha2 hxx2 hO2 hW2) (va_cwS 1 hts gL_law_L_grid rfl rfl rfl (by decide +kernel) ⟨Nat.le_of_ble_eq_true rfl, Nat.le_of_ble_eq_true rfl⟩) hl.1 rfl (Nat.le_of_ble_eq_true rfl) dL_law_275 (fun r_22 s_23 H locs hq hP hD hS => ?_)
            obtain ⟨hr9, rfl⟩ := hq
            rw [hr9]
            clear hr9
            refine lv_if_eq (tgt := 285) hx hb dL_law_278 (by decide) (fun c278_23 => absurd c278_23 (by decide)) (fun c278_23 => ?_)
            exact J281 _ _ hP hD hS
          refine lv_iload hx hb dL_law_259 (lv_at hl 11 rfl) ?_
          refine lv_iconst (v := 3) hx hb dL_law_261 (by decide) ?_
          refine lv_irem hx hb dL_law_262 (by decide) ?_
          rw [show nI j - nI j / 3 * 3 = nI (j % 3) from pk_rem (d := 3) (by omega) (by omega) (by omega)]
          refine lv_if_le (tgt := 274) hx hb dL_law_263 (by decide) (fun c263_24 => ?_) (fun c263_24 => ?_)
          · exact J274 _ _ hP hD hS
          · refine lv_iload hx hb dL_law_266 (lv_at hl 11 rfl) ?_
            refine lv_iconst (v := 1) hx hb dL_law_268 (by decide) ?_
            refine lv_iadd hx hb dL_law_269 ?_
            rw [nI_1]
            refine lv_iload_n hx hb dL_law_270 rfl (lv_at hl 12 rfl) ?_
            refine lv_icmp_lt (tgt := 281) hx hb dL_law_271 (by decide) (fun c271_25 => ?_) (fun c271_25 => ?_)
            · exact J281 _ _ hP hD hS
            · exact J274 _ _ hP hD hS
        refine lv_iload hx hb dL_law_197 (lv_at hl 6 rfl) ?_
        refine lv_bipush (v := 15) hx hb dL_law_199 (by decide) ?_
        refine lv_icmp_lt (tgt := 259) hx hb dL_law_201 (by decide) (fun c201_26 => ?_) (fun c201_26 => ?_)
        · exact J259 _ _ hP hD hS
        · have h15 : 15 ≤ m_81 := Nat.not_lt.mp fun z => c201_26 (show nI m_81 < nI 15 from nI_lt z (by omega))
          refine lv_iload hx hb dL_law_204 (lv_at hl 6 rfl) ?_
          refine lv_bipush (v := 17) hx hb dL_law_206 (by decide) ?_
          refine lv_icmp_gt (tgt := 259) hx hb dL_law_208 (by decide) (fun c208_27 => ?_) (fun c208_27 => ?_)
          · exact J259 _ _ hP hD hS
          · have h17 : m_81 ≤ 17 := Nat.not_lt.mp fun z => c208_27 (show nI 17 < nI m_81 from nI_lt z (by omega))
            obtain ⟨eN, er⟩ := hstp h15 h17
            refine lv_aload_n hx hb dL_law_211 rfl (lv_at hl 13 rfl) ?_
            refine lv_iconst (v := 0) hx hb dL_law_212 (by decide) ?_
            refine nVi (As := [.int 0]) (rest := _) hx hb hml hown hts hP hK hD hZ hA hS hcc hW2.1.1 rfl (c_count l E ad st2 N2 Rs2 a2 x2 (fun _ => 0) 0 ha2 hxx2 (Nat.zero_le _) hO2.1.2.1 hW2 0 (by omega)) (cwV 1 hts gL_law_X4_count rfl rfl rfl (by decide +kernel) ⟨Nat.le_of_ble_eq_true rfl, Nat.le_of_ble_eq_true rfl⟩) hl.1 rfl (Nat.le_of_ble_eq_true rfl) dL_law_213 (fun r_29 s_30 H locs hq hP hD hS => ?_)
            obtain ⟨hr9, rfl⟩ := hq
            rw [hr9]
            clear hr9
            refine lv_iload hx hb dL_law_216 (lv_at hl 8 rfl) ?_
            refine lv_iload hx hb dL_law_218 (lv_at hl 3 rfl) ?_
            refine lv_iadd hx hb dL_law_220 ?_
            refine lv_icmp_ne (tgt := 285) hx hb dL_law_221 (by decide) (fun c221_30 => absurd (show cntA N2 a2 0 = x7_62 + nI (1 + m_114) by rw [eN, ex7_62]; exact upd_s) c221_30) (fun c221_30 => ?_)
            refine lv_aload_n hx hb dL_law_224 rfl (lv_at hl 13 rfl) ?_
            refine lv_iload hx hb dL_law_225 (lv_at hl 4 rfl) ?_
            refine lv_iconst (v := 0) hx hb dL_law_227 (by decide) ?_
            refine nVi (As := [.int (nI m_105), .int 0]) (rest := _) hx hb hml hown hts hP hK hD hZ hA hS hcc hW2.1.1 rfl (c_cell l E ad st2 N2 Rs2 a2 x2 (fun _ => 0) 0 ha2 hxx2 (Nat.zero_le _) hO2.1.2.1 hW2 m_105 0 (by omega) (by omega)) (cwV 2 hts gL_law_X4_cell rfl rfl rfl (by decide +kernel) ⟨Nat.le_of_ble_eq_true rfl, Nat.le_of_ble_eq_true rfl⟩) hl.1 rfl (Nat.le_of_ble_eq_true rfl) dL_law_228 (fun r_32 s_33 H locs hq hP hD hS => ?_)
            obtain ⟨hr9, rfl⟩ := hq
            rw [hr9]
            clear hr9
            refine lv_iload hx hb dL_law_231 (lv_at hl 2 rfl) ?_
            refine lv_icmp_ne (tgt := 285) hx hb dL_law_233 (by decide) (fun c233_33 => absurd (show cellA N2 m_105 0 = r13 by rw [eN, hr13]; exact upd_n (by omega)) c233_33) (fun c233_33 => ?_)
            refine lv_iload hx hb dL_law_236 (lv_at hl 3 rfl) ?_
            refine lv_iconst (v := 1) hx hb dL_law_238 (by decide) ?_
            refine lv_icmp_gt (tgt := 249) hx hb dL_law_239 (by decide) (fun c239_34 => ?_) (fun c239_34 => ?_)
            · refine lv_iload hx hb dL_law_249 (lv_at hl 7 rfl) ?_
              refine lv_if_gt (tgt := 259) hx hb dL_law_251 (by decide) (fun c251_35 => ?_) (fun c251_35 => ?_)
              · exact J259 _ _ hP hD hS
              · have hz : taN (gN N) 36 = 0 := Nat.eq_zero_of_not_pos fun z => c251_35 (by rw [ex8_69]; exact (show nI 0 < nI (taN (gN N) 36) from nI_lt z (by have := taN_le (G := gN N) (n := 36); omega)))
                refine lv_iload hx hb dL_law_254 (lv_at hl 1 rfl) ?_
                refine lv_if_ne (tgt := 285) hx hb dL_law_256 (by decide) (fun c256_36 => absurd (show r14 = 0 by rw [er]; exact tgN_rest hz _) c256_36) (fun c256_36 => ?_)
                exact J259 _ _ hP hD hS
            · have hm0 : 1 + m_114 = 1 := by have h9 := Nat.not_lt.mp (fun z : 1 < 1 + m_114 => c239_34 (show nI 1 < nI (1 + m_114) from nI_lt z (by omega))); omega
              refine lv_iload hx hb dL_law_242 (lv_at hl 1 rfl) ?_
              refine lv_iload hx hb dL_law_244 (lv_at hl 7 rfl) ?_
              refine lv_icmp_ne (tgt := 285) hx hb dL_law_246 (by decide) (fun c246_37 => absurd (show r14 = x8_69 by rw [er, hm0, ex8_69]; exact rst_r) c246_37) (fun c246_37 => ?_)
              refine lv_iload hx hb dL_law_249 (lv_at hl 7 rfl) ?_
              refine lv_if_gt (tgt := 259) hx hb dL_law_251 (by decide) (fun c251_38 => ?_) (fun c251_38 => ?_)
              · exact J259 _ _ hP hD hS
              · have hz : taN (gN N) 36 = 0 := Nat.eq_zero_of_not_pos fun z => c251_38 (by rw [ex8_69]; exact (show nI 0 < nI (taN (gN N) 36) from nI_lt z (by have := taN_le (G := gN N) (n := 36); omega)))
                refine lv_iload hx hb dL_law_254 (lv_at hl 1 rfl) ?_
                refine lv_if_ne (tgt := 285) hx hb dL_law_256 (by decide) (fun c256_39 => absurd (show r14 = 0 by rw [er]; exact tgN_rest hz _) c256_39) (fun c256_39 => ?_)
                exact J259 _ _ hP hD hS
      refine lv_iload hx hb dL_law_141 (lv_at hl 0 rfl) ?_
      refine lv_if_ge (tgt := 187) hx hb dL_law_143 (by decide) (fun c143_40 => ?_) (fun c143_40 => ?_)
      · refine lv_iconst (v := 1) hx hb dL_law_187 (by decide) ?_
        refine lv_goto (tgt := 192) hx hb dL_law_188 (by decide) ?_
        exact J192 _ _ hP hD hS
      · obtain ⟨eN, ea⟩ := hneg (nle_gt c143_40)
        refine lv_aload_n hx hb dL_law_146 rfl (lv_at hl 13 rfl) ?_
        refine lv_bipush (v := 8) hx hb dL_law_147 (by decide) ?_
        refine nVi (As := [.int 8]) (rest := _) hx hb hml hown hts hP hK hD hZ hA hS hcc hW2.1.1 rfl (c_count l E ad st2 N2 Rs2 a2 x2 (fun _ => 0) 0 ha2 hxx2 (Nat.zero_le _) hO2.1.2.1 hW2 8 (by omega)) (cwV 1 hts gL_law_X4_count rfl rfl rfl (by decide +kernel) ⟨Nat.le_of_ble_eq_true rfl, Nat.le_of_ble_eq_true rfl⟩) hl.1 rfl (Nat.le_of_ble_eq_true rfl) dL_law_149 (fun r_42 s_43 H locs hq hP hD hS => ?_)
        obtain ⟨hr9, rfl⟩ := hq
        rw [hr9]
        clear hr9
        refine lv_iload hx hb dL_law_152 (lv_at hl 9 rfl) ?_
        refine lv_icmp_ne (tgt := 191) hx hb dL_law_154 (by decide) (fun c154_43 => absurd (by rw [ex5_48, eN, ea]) c154_43) (fun c154_43 => ?_)
        refine lv_aload_n hx hb dL_law_157 rfl (lv_at hl 13 rfl) ?_
        refine lv_iconst (v := 1) hx hb dL_law_158 (by decide) ?_
        refine nVi (As := [.int 1]) (rest := _) hx hb hml hown hts hP hK hD hZ hA hS hcc hW2.1.1 rfl (c_count l E ad st2 N2 Rs2 a2 x2 (fun _ => 0) 0 ha2 hxx2 (Nat.zero_le _) hO2.1.2.1 hW2 1 (by omega)) (cwV 1 hts gL_law_X4_count rfl rfl rfl (by decide +kernel) ⟨Nat.le_of_ble_eq_true rfl, Nat.le_of_ble_eq_true rfl⟩) hl.1 rfl (Nat.le_of_ble_eq_true rfl) dL_law_159 (fun r_45 s_46 H locs hq hP hD hS => ?_)
        obtain ⟨hr9, rfl⟩ := hq
        rw [hr9]
        clear hr9
        refine lv_iload hx hb dL_law_162 (lv_at hl 8 rfl) ?_
        refine lv_icmp_ne (tgt := 191) hx hb dL_law_164 (by decide) (fun c164_46 => absurd (show nI (brC N2) = nI (brC N) by rw [eN]) c164_46) (fun c164_46 => ?_)
        refine lv_aload_n hx hb dL_law_167 rfl (lv_at hl 13 rfl) ?_
        refine lv_iconst (v := 0) hx hb dL_law_168 (by decide) ?_
        refine nVi (As := [.int 0]) (rest := _) hx hb hml hown hts hP hK hD hZ hA hS hcc hW2.1.1 rfl (c_count l E ad st2 N2 Rs2 a2 x2 (fun _ => 0) 0 ha2 hxx2 (Nat.zero_le _) hO2.1.2.1 hW2 0 (by omega)) (cwV 1 hts gL_law_X4_count rfl rfl rfl (by decide +kernel) ⟨Nat.le_of_ble_eq_true rfl, Nat.le_of_ble_eq_true rfl⟩) hl.1 rfl (Nat.le_of_ble_eq_true rfl) dL_law_169 (fun r_48 s_49 H locs hq hP hD hS => ?_)
        obtain ⟨hr9, rfl⟩ := hq
        rw [hr9]
        clear hr9
        refine lv_iload hx hb dL_law_172 (lv_at hl 7 rfl) ?_
        refine lv_icmp_ne (tgt := 191) hx hb dL_law_174 (by decide) (fun c174_49 => absurd (by rw [ex7_62, eN, ea]) c174_49) (fun c174_49 => ?_)
        refine lv_aload_n hx hb dL_law_177 rfl (lv_at hl 13 rfl) ?_
        refine lv_iconst (v := 5) hx hb dL_law_178 (by decide) ?_
        refine nVi (As := [.int 5]) (rest := _) hx hb hml hown hts hP hK hD hZ hA hS hcc hW2.1.1 rfl (c_count l E ad st2 N2 Rs2 a2 x2 (fun _ => 0) 0 ha2 hxx2 (Nat.zero_le _) hO2.1.2.1 hW2 5 (by omega)) (cwV 1 hts gL_law_X4_count rfl rfl rfl (by decide +kernel) ⟨Nat.le_of_ble_eq_true rfl, Nat.le_of_ble_eq_true rfl⟩) hl.1 rfl (Nat.le_of_ble_eq_true rfl) dL_law_179 (fun r_51 s_52 H locs hq hP hD hS => ?_)
        obtain ⟨hr9, rfl⟩ := hq
        rw [hr9]
        clear hr9
        refine lv_iload hx hb dL_law_182 (lv_at hl 6 rfl) ?_
        refine lv_icmp_ne (tgt := 191) hx hb dL_law_184 (by decide) (fun c184_52 => absurd (by rw [ex8_69, eN, ea]) c184_52) (fun c184_52 => ?_)
        refine lv_iconst (v := 1) hx hb dL_law_187 (by decide) ?_
        refine lv_goto (tgt := 192) hx hb dL_law_188 (by decide) ?_
        exact J192 _ _ hP hD hS

/-! the other constructors of the class -/
set_option maxHeartbeats 4000000 in
set_option maxRecDepth 100000 in
theorem k_Reader (l : Launch) (E : NE) (ad : Nat → Nat) (st : NW) (b sz : Nat) : nCt l yX0_init wsX0_init (nRc 1 0 0 20) E ad st sz 0 0 [.ref (ad b)] (fun s1 => st = s1) := by
  refine nSc (cc := cX0_init) (maxL := 1) (by decide) rfl rfl (Nat.le_of_ble_eq_true rfl) ?_
  intro pg en s mi ar bw mth cd R Q A ls hx hb hml hown hts hRm hP hK hD hZ hA hl hAO hin hsz hret
  subst hRm
  have hown : s.vm.findClass RX0 = some mi.cls := hown
  have hS : va_S A s.heap s.heap [] := va_S.rf
  have hl : lv_has ls 1 [(0, .ref (ad b))] := hl
  refine lv_aload_n hx hb dX0_init_0 rfl (lv_at hl 0 rfl) ?_
  refine W.objInit hx hb hown (hts (.methodLink RX0 3 objectInit) (by decide +kernel)) (hts (.instanceMethod objectInit) (by decide +kernel)) (hts (.code objectInit ⟨#[0xb1]⟩ 1 none) (by decide +kernel)) rfl (by rw [hml]; exact hl.1) rfl dX0_init_1 (Nat.le_of_ble_eq_true rfl) (Nat.le_of_ble_eq_true rfl) ?_
  refine W.eq (g2 := F0 mi 4 ls []) rfl ?_
  exact hret _ _ _ _ _ hP hD hS rfl hsz dX0_init_4
theorem frX.oneX {lo hi h : Nat} {st s1 s2 : NW} (hf : frX lo hi st s1) (h1 : one h s1 s2) (ha : lo ≤ h) (hb : h < hi) : frX lo hi st s2 := fun j hj => (h1 j (by omega)).trans (hf j hj)
set_option maxHeartbeats 4000000 in
set_option maxRecDepth 100000 in
theorem k_Text (l : Launch) (E : NE) (ad : Nat → Nat) (st : NW) (sz : Nat) (g0 : ad (32 + 1 + 0) = sz + 0) (g1 : ad 48 = sz + 1) (hO : st 32 = some (.inr (1, [.null, .int 0, .null]))) : nCt l yX1_init wsX1_init (nRc 2 2 66 40) E ad st sz 2 66 [.ref (ad 32)] (fun s1 => isR E ad s1 32 sT (tx (fun _ => 0) 0) ∧ isR E ad s1 48 sB (rB (fun _ => 0)) ∧ frX 32 64 st s1) := by
  refine nSc (cc := cX1_init) (maxL := 1) (by decide) rfl rfl (Nat.le_of_ble_eq_true rfl) ?_
  intro pg en s mi ar bw mth cd R Q A ls hx hb hml hown hts hRm hP hK hD hZ hA hl hAO hin hsz hret
  subst hRm
  subst hsz
  have hown : s.vm.findClass RX1 = some mi.cls := hown
  have hS : va_S A s.heap s.heap [] := va_S.rf
  have hl : lv_has ls 1 [(0, .ref (ad 32))] := hl
  have hinX0 : ∀ w ∈ wsX00, w ∈ wsX1_init := by decide +kernel
  have hinX1 : ∀ w ∈ wsX10, w ∈ wsX1_init := by decide +kernel
  have hf : fr 32 st st := fr.rf
  have hp : pR E ad st 32 1 _ [] (tx (fun _ => 0) 0) := ⟨hO, fun q hq => absurd hq List.not_mem_nil⟩
  have hge : s.heap.size + 0 ≤ s.heap.size := Nat.le_refl _
  refine lv_aload_n hx hb dX1_init_0 rfl (lv_at hl 0 rfl) ?_
  refine W.objInit hx hb hown (hts (.methodLink RX1 3 objectInit) (by decide +kernel)) (hts (.instanceMethod objectInit) (by decide +kernel)) (hts (.code objectInit ⟨#[0xb1]⟩ 1 none) (by decide +kernel)) rfl (by rw [hml]; exact hl.1) rfl dX1_init_1 (Nat.le_of_ble_eq_true rfl) (Nat.le_of_ble_eq_true rfl) ?_
  refine W.eq (g2 := F0 mi 4 ls []) rfl ?_
  refine lv_aload_n hx hb dX1_init_4 rfl (lv_at hl 0 rfl) ?_
  refine lv_bipush (v := 60) hx hb dX1_init_5 (by decide) ?_
  refine nField (k := 0) (ln := 60) (z := 0) (T := TX1) (N := 3) (C := RX1) (atype := .int) hx hb (Or.inl ⟨rfl, rfl⟩) (hts (.arrayClass .int) (by decide +kernel)) hK hP hD hS hA hts hinX1 tyX1 tyX1_ok nmX1 hown hp hf hge g0 (by decide) rfl (by decide) (by decide) (by decide) (by decide) (Nat.le_of_ble_eq_true rfl) (Nat.le_of_ble_eq_true rfl) dX1_init_7 rfl (by decide) (hts (.fieldLink RX1 9 "NeedleGrid$BarText" "codes" "[I") (by decide +kernel)) rfl hin rfl rfl rfl (Nat.le_of_ble_eq_true rfl) dX1_init_9 (fun st1 H locs hp hf hP hD hS hge => ?_)
  refine lv_aload_n hx hb dX1_init_12 rfl (lv_at hl 0 rfl) ?_
  refine wSz hge fun hsz9 => ?_
  have hfx : frX 32 64 st st1 := fun k hk => hf k (by omega)
  refine nNewO (h := 48) (ci := 0) (fs := [.int 0, .int 0, .int 0, .int 0, .int 0, .int 0]) (C := RX0) (T := TX0) (N := 6) hx hb hts hinX0 tyX0 tyX0_ok hown (hts (.classLink RX1 15 RX0) (by decide +kernel)) (hts (.instantiable RX0 6) (by decide +kernel)) (hts (.initialized RX0) (by decide +kernel)) hK hP hD hS hA rfl (all6 rfl rfl rfl rfl rfl rfl) (g1.trans hsz9.symm) (Nat.le_of_ble_eq_true rfl) (Nat.le_of_ble_eq_true rfl) dX1_init_13 (fun st2 H hB h1 hP hD hS hz9 => ?_)
  have hfx := hfx.oneX h1 (by decide) (by decide)
  have hO := (h1 32 (by decide)).trans hp.1
  have hC : st2 33 = some (.inl (E.2.1 0, 60, .inl (fun _ => 0))) := (h1 33 (by decide)).trans (hp.2 (0, 0, 60) List.mem_cons_self)
  rw [hsz9] at hz9
  refine lv_dup hx hb dX1_init_16 rfl ?_
  refine nIN (k := 48) (rest := _) hx hb hml hown hts hP hK hD hZ hAO hA hS rfl ⟨Nat.le_of_ble_eq_true rfl, Nat.le_of_ble_eq_true rfl⟩ (k_Reader l E ad st2 48 H.size) ⟨va_cnB 0 hts gX1_init_X0_init_n17 rfl rfl rfl (nlM_X1_17 hZ) (hts (.initialized RX0) (by decide +kernel)) (by decide +kernel) ⟨Nat.le_of_ble_eq_true rfl, Nat.le_of_ble_eq_true rfl⟩, rfl, hts (.instanceMethod yX0_init) (by decide +kernel)⟩ hl.1 (Nat.le_of_ble_eq_true rfl) dX1_init_17 (fun st3 H2 locs hq hP hD hS hz8 => ?_)
  subst hq
  rw [hz9] at hz8
  refine nPutF (v := .ref (ad 48)) (T := TX1) (N := 3) (C := RX1) hx hb hts hinX1 tyX1 tyX1_ok nmX1 hown hK hP hD hS hO rfl 2 (by decide) (hts (.fieldLink RX1 18 "NeedleGrid$BarText" "reader" "LNeedleGrid$BarReader;") (by decide +kernel)) rfl hin rfl rfl rfl (Nat.le_of_ble_eq_true rfl) dX1_init_20 (fun st3 H3 locs hO h1 hP hD hS hz7 => ?_)
  have hfx := hfx.oneX h1 (by decide) (by decide)
  have hB := (h1 48 (by decide)).trans hB
  have hC := (h1 33 (by decide)).trans hC
  refine hret _ _ _ _ _ hP hD hS ⟨⟨hO, fun k z n hk hz => ?_⟩, ⟨hB, fun k z n hk hz => ?_⟩, hfx⟩ (hz7.trans hz8) dX1_init_23
  · match k, hk with
    | 0, hk => cases hk; exact hC
    | 1, hk => cases hk
    | 2, hk => cases hk; exact absurd rfl hz
    | k + 3, hk => cases hk
  · match k, hk with
    | 0, hk => cases hk
    | 1, hk => cases hk
    | 2, hk => cases hk
    | 3, hk => cases hk
    | 4, hk => cases hk
    | 5, hk => cases hk
    | k + 6, hk => cases hk


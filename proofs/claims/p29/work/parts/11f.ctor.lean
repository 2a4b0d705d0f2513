/-! the object itself -/
def nAdS (ad : Nat → Nat) (sz : Nat) : Prop := (ad 64 = sz ∧ gArr ad 64 (sz + 1)) ∧ (ad 80 = sz + 11 ∧ gArr ad 80 (sz + 12)) ∧ ad 16 = sz + 22 ∧ ad 12 = sz + 23 ∧ rgA ad (sz + 24) ∧ ad 32 = sz + 90 ∧ ad (32 + 1 + 0) = sz + 91 ∧ ad 48 = sz + 92
theorem frX.frB {lo hi b : Nat} {st s1 s2 : NW} (hf : frX lo hi st s1) (h1 : fr b s1 s2) (ha : lo ≤ b) (hb : b + 16 ≤ hi) : frX lo hi st s2 := fun j hj => (h1 j (by omega)).trans (hf j hj)
theorem isR.one {E : NE} {ad : Nat → Nat} {st st1 : NW} {h b : Nat} {S : NSc} {G : Nat → Nat → Int32} (hR : isR E ad st b S G) (h1 : one h st st1) (hh : h < b ∨ b + 16 ≤ h) (hl : S.2.length ≤ 15) : isR E ad st1 b S G := hR.keepP (fun k h2 h3 => h1 k (by omega)) hl

set_option maxHeartbeats 4000000 in
set_option maxRecDepth 100000 in
theorem k_Needle (l : Launch) (E : NE) (ad : Nat → Nat) (st : NW) (sz : Nat) (hA9 : nAdS ad sz) (hO : st 0 = some (.inr (4, [.null, .null, .null, .null]))) : nCt l yX4_init wsX4_init (nRc 6 93 2798 142) E ad st sz 93 2798 [.ref (ad 0)] (fun s1 => cW E ad s1 N0 (fun _ => N0) 0 0 (fun _ => 0) 0 ∧ frX 0 208 st s1) := by
  refine nSc (cc := cX4_init) (maxL := 1) (by decide) rfl rfl (Nat.le_of_ble_eq_true rfl) ?_
  intro pg en s mi ar bw mth cd R Q A ls hx hb hml hown hts hRm hP hK hD hZ hA hl hAO hin hsz hret
  subst hRm
  have hown : s.vm.findClass RX4 = some mi.cls := hown
  have hS : va_S A s.heap s.heap [] := va_S.rf
  have hl : lv_has ls 1 [(0, .ref (ad 0))] := hl
  have hinX0 : ∀ w ∈ wsX00, w ∈ wsX4_init := by decide +kernel
  have hinX1 : ∀ w ∈ wsX10, w ∈ wsX4_init := by decide +kernel
  have hinX2 : ∀ w ∈ wsX20, w ∈ wsX4_init := by decide +kernel
  have hinX3 : ∀ w ∈ wsX30, w ∈ wsX4_init := by decide +kernel
  have hinX4 : ∀ w ∈ wsX40, w ∈ wsX4_init := by decide +kernel
  subst hsz
  obtain ⟨⟨a64, g64⟩, ⟨a80, g80⟩, a16, a12, hrg, a32, a33, a48⟩ := hA9
  have hf : frX 0 208 st st := frX.rf
  have hzz : s.heap.size = s.heap.size + 0 := rfl
  refine lv_aload_n hx hb dX4_init_0 rfl (lv_at hl 0 rfl) ?_
  refine W.objInit hx hb hown (hts (.methodLink RX4 3 objectInit) (by decide +kernel)) (hts (.instanceMethod objectInit) (by decide +kernel)) (hts (.code objectInit ⟨#[0xb1]⟩ 1 none) (by decide +kernel)) rfl (by rw [hml]; exact hl.1) rfl dX4_init_1 (Nat.le_of_ble_eq_true rfl) (Nat.le_of_ble_eq_true rfl) ?_
  refine W.eq (g2 := F0 mi 4 ls []) rfl ?_
  refine lv_aload_n hx hb dX4_init_4 rfl (lv_at hl 0 rfl) ?_
  refine nNewO (h := 64) (ci := 2) (fs := [.null, .null, .null, .null, .null, .null, .int 0, .int 0, .int 0, .null, .null, .null, .null]) (C := RX2) (T := TX2) (N := 13) hx hb hts hinX2 tyX2 tyX2_ok hown (hts (.classLink RX4 9 RX2) (by decide +kernel)) (hts (.instantiable RX2 13) (by decide +kernel)) (hts (.initialized RX2) (by decide +kernel)) hK hP hD hS hA rfl (all13 rfl rfl rfl rfl rfl rfl rfl rfl rfl rfl rfl rfl rfl) (by rw [hzz]; exact a64) (Nat.le_of_ble_eq_true rfl) (Nat.le_of_ble_eq_true rfl) dX4_init_5 (fun st1 H hB h1 hP hD hS hz9 => ?_)
  rw [hzz] at hz9
  clear hzz
  have hf := hf.oneX h1 (by decide) (by decide)
  have hO := (h1 0 (by decide)).trans hO
  refine lv_dup hx hb dX4_init_8 rfl ?_
  refine nIc (k := 64) (rest := _) hx hb hml hown hts hP hK hD hZ hAO hA hS hz9 ⟨(Nat.le_of_ble_eq_true rfl), (Nat.le_of_ble_eq_true rfl)⟩ (k_Grid l E ad st1 64 (s.heap.size + 0 + 1) g64 hB) (cwI 0 hts gX4_init_X2_init rfl rfl rfl (hts (.initialized RX2) (by decide +kernel)) (hts (.methodLink RX4 11 yX2_init) (by decide +kernel)) (hts (.instanceMethod yX2_init) (by decide +kernel)) rfl (by decide +kernel) ⟨(Nat.le_of_ble_eq_true rfl), (Nat.le_of_ble_eq_true rfl)⟩) hl.1 (Nat.le_of_ble_eq_true rfl) dX4_init_9 (fun st2 H locs hq hP hD hS hz8 => ?_)
  obtain ⟨hR, hfr⟩ := hq
  have hf := hf.frB hfr (by decide) (by decide)
  have hO := (hfr 0 (by decide)).trans hO
  refine nPutF (v := .ref (ad 64)) (T := TX4) (N := 4) (C := RX4) hx hb hts hinX4 tyX4 tyX4_ok nmX4 hown hK hP hD hS hO rfl 0 (by decide) (hts (.fieldLink RX4 12 "NeedleGrid" "now" "LNeedleGrid$Grid;") (by decide +kernel)) rfl hin rfl rfl rfl (Nat.le_of_ble_eq_true rfl) dX4_init_12 (fun st1 H2 locs hO h1 hP hD hS hz7 => ?_)
  have hf := hf.oneX h1 (by decide) (by decide)
  have hR := hR.one h1 (by decide) (by decide)
  have hzz : H2.size = s.heap.size + 11 := hz7.trans hz8
  clear hz7 hz8 hz9
  refine lv_aload_n hx hb dX4_init_15 rfl (lv_at hl 0 rfl) ?_
  refine nNewO (h := 80) (ci := 2) (fs := [.null, .null, .null, .null, .null, .null, .int 0, .int 0, .int 0, .null, .null, .null, .null]) (C := RX2) (T := TX2) (N := 13) hx hb hts hinX2 tyX2 tyX2_ok hown (hts (.classLink RX4 9 RX2) (by decide +kernel)) (hts (.instantiable RX2 13) (by decide +kernel)) (hts (.initialized RX2) (by decide +kernel)) hK hP hD hS hA rfl (all13 rfl rfl rfl rfl rfl rfl rfl rfl rfl rfl rfl rfl rfl) (by rw [hzz]; exact a80) (Nat.le_of_ble_eq_true rfl) (Nat.le_of_ble_eq_true rfl) dX4_init_16 (fun st1 H hB h1 hP hD hS hz9 => ?_)
  rw [hzz] at hz9
  clear hzz
  have hf := hf.oneX h1 (by decide) (by decide)
  have hO := (h1 0 (by decide)).trans hO
  have hR := hR.one h1 (by decide) (by decide)
  refine lv_dup hx hb dX4_init_19 rfl ?_
  refine nIc (k := 80) (rest := _) hx hb hml hown hts hP hK hD hZ hAO hA hS hz9 ⟨(Nat.le_of_ble_eq_true rfl), (Nat.le_of_ble_eq_true rfl)⟩ (k_Grid l E ad st1 80 (s.heap.size + 11 + 1) g80 hB) (cwI 0 hts gX4_init_X2_init rfl rfl rfl (hts (.initialized RX2) (by decide +kernel)) (hts (.methodLink RX4 11 yX2_init) (by decide +kernel)) (hts (.instanceMethod yX2_init) (by decide +kernel)) rfl (by decide +kernel) ⟨(Nat.le_of_ble_eq_true rfl), (Nat.le_of_ble_eq_true rfl)⟩) hl.1 (Nat.le_of_ble_eq_true rfl) dX4_init_20 (fun st2 H locs hq hP hD hS hz8 => ?_)
  obtain ⟨hTr, hfr⟩ := hq
  have hf := hf.frB hfr (by decide) (by decide)
  have hO := (hfr 0 (by decide)).trans hO
  have hR := hR.keep hfr (by decide) (by decide)
  refine nPutF (v := .ref (ad 80)) (T := TX4) (N := 4) (C := RX4) hx hb hts hinX4 tyX4 tyX4_ok nmX4 hown hK hP hD hS hO rfl 1 (by decide) (hts (.fieldLink RX4 16 "NeedleGrid" "trial" "LNeedleGrid$Grid;") (by decide +kernel)) rfl hin rfl rfl rfl (Nat.le_of_ble_eq_true rfl) dX4_init_23 (fun st1 H2 locs hO h1 hP hD hS hz7 => ?_)
  have hf := hf.oneX h1 (by decide) (by decide)
  have hR := hR.one h1 (by decide) (by decide)
  have hTr := hTr.one h1 (by decide) (by decide)
  have hzz : H2.size = s.heap.size + 22 := hz7.trans hz8
  clear hz7 hz8 hz9
  refine lv_aload_n hx hb dX4_init_26 rfl (lv_at hl 0 rfl) ?_
  refine nNewO (h := 16) (ci := 3) (fs := [.null, .int 0, .int 0]) (C := RX3) (T := TX3) (N := 3) hx hb hts hinX3 tyX3 tyX3_ok hown (hts (.classLink RX4 19 RX3) (by decide +kernel)) (hts (.instantiable RX3 3) (by decide +kernel)) (hts (.initialized RX3) (by decide +kernel)) hK hP hD hS hA rfl (all3 rfl rfl rfl) (by rw [hzz]; exact a16) (Nat.le_of_ble_eq_true rfl) (Nat.le_of_ble_eq_true rfl) dX4_init_27 (fun st1 H hB h1 hP hD hS hz9 => ?_)
  rw [hzz] at hz9
  clear hzz
  have hf := hf.oneX h1 (by decide) (by decide)
  have hO := (h1 0 (by decide)).trans hO
  have hR := hR.one h1 (by decide) (by decide)
  have hTr := hTr.one h1 (by decide) (by decide)
  refine lv_dup hx hb dX4_init_30 rfl ?_
  refine nIc (k := 16) (rest := _) hx hb hml hown hts hP hK hD hZ hAO hA hS hz9 ⟨(Nat.le_of_ble_eq_true rfl), (Nat.le_of_ble_eq_true rfl)⟩ (k_History l E ad st1 (s.heap.size + 22 + 1) a12 hrg hB) (cwI 0 hts gX4_init_X3_init rfl rfl rfl (hts (.initialized RX3) (by decide +kernel)) (hts (.methodLink RX4 21 yX3_init) (by decide +kernel)) (hts (.instanceMethod yX3_init) (by decide +kernel)) rfl (by decide +kernel) ⟨(Nat.le_of_ble_eq_true rfl), (Nat.le_of_ble_eq_true rfl)⟩) hl.1 (Nat.le_of_ble_eq_true rfl) dX4_init_31 (fun st2 H locs hq hP hD hS hz8 => ?_)
  obtain ⟨hH, hQr, hRg, hfr⟩ := hq
  have hf : frX 0 208 st st2 := fun j hj => (hfr j (by omega)).trans (hf j hj)
  have hO := (hfr 0 (by decide)).trans hO
  have hR := hR.keepP (fun k9 h2 h3 => hfr k9 (by omega)) (by decide)
  have hTr := hTr.keepP (fun k9 h2 h3 => hfr k9 (by omega)) (by decide)
  refine nPutF (v := .ref (ad 16)) (T := TX4) (N := 4) (C := RX4) hx hb hts hinX4 tyX4 tyX4_ok nmX4 hown hK hP hD hS hO rfl 2 (by decide) (hts (.fieldLink RX4 22 "NeedleGrid" "history" "LNeedleGrid$History;") (by decide +kernel)) rfl hin rfl rfl rfl (Nat.le_of_ble_eq_true rfl) dX4_init_34 (fun st1 H2 locs hO h1 hP hD hS hz7 => ?_)
  have hf := hf.oneX h1 (by decide) (by decide)
  have hR := hR.one h1 (by decide) (by decide)
  have hTr := hTr.one h1 (by decide) (by decide)
  have hH := hH.one h1 (by decide) (by decide)
  have hQr := (h1 12 (by decide)).trans hQr
  have hRg : ∀ i, i < 6 → isR E ad st1 (96 + 16 * i) sG (gN N0) := fun i hi => isG_one (hRg i hi) h1 (by omega)
  have hzz : H2.size = s.heap.size + 90 := hz7.trans hz8
  clear hz7 hz8 hz9
  refine lv_aload_n hx hb dX4_init_37 rfl (lv_at hl 0 rfl) ?_
  refine nNewO (h := 32) (ci := 1) (fs := [.null, .int 0, .null]) (C := RX1) (T := TX1) (N := 3) hx hb hts hinX1 tyX1 tyX1_ok hown (hts (.classLink RX4 26 RX1) (by decide +kernel)) (hts (.instantiable RX1 3) (by decide +kernel)) (hts (.initialized RX1) (by decide +kernel)) hK hP hD hS hA rfl (all3 rfl rfl rfl) (by rw [hzz]; exact a32) (Nat.le_of_ble_eq_true rfl) (Nat.le_of_ble_eq_true rfl) dX4_init_38 (fun st1 H hB h1 hP hD hS hz9 => ?_)
  rw [hzz] at hz9
  clear hzz
  have hf := hf.oneX h1 (by decide) (by decide)
  have hO := (h1 0 (by decide)).trans hO
  have hR := hR.one h1 (by decide) (by decide)
  have hTr := hTr.one h1 (by decide) (by decide)
  have hH := hH.one h1 (by decide) (by decide)
  have hQr := (h1 12 (by decide)).trans hQr
  have hRg : ∀ i, i < 6 → isR E ad st1 (96 + 16 * i) sG (gN N0) := fun i hi => isG_one (hRg i hi) h1 (by omega)
  refine lv_dup hx hb dX4_init_41 rfl ?_
  refine nIN (k := 32) (rest := _) hx hb hml hown hts hP hK hD hZ hAO hA hS hz9 ⟨(Nat.le_of_ble_eq_true rfl), (Nat.le_of_ble_eq_true rfl)⟩ (k_Text l E ad st1 (s.heap.size + 90 + 1) a33 a48 hB) ⟨va_cnB 0 hts gX4_init_X1_init_n28 rfl rfl rfl (nlM_X4_28 hZ) (hts (.initialized RX1) (by decide +kernel)) (by decide +kernel) ⟨(Nat.le_of_ble_eq_true rfl), (Nat.le_of_ble_eq_true rfl)⟩, rfl, hts (.instanceMethod yX1_init) (by decide +kernel)⟩ hl.1 (Nat.le_of_ble_eq_true rfl) dX4_init_42 (fun st2 H locs hq hP hD hS hz8 => ?_)
  obtain ⟨hT, hBr, hfr⟩ := hq
  have hf : frX 0 208 st st2 := fun j hj => (hfr j (by omega)).trans (hf j hj)
  have hO := (hfr 0 (by decide)).trans hO
  have hR := hR.keepP (fun k9 h2 h3 => hfr k9 (by omega)) (by decide)
  have hTr := hTr.keepP (fun k9 h2 h3 => hfr k9 (by omega)) (by decide)
  have hH := hH.keepP (fun k9 h2 h3 => hfr k9 (by omega)) (by decide)
  have hQr := (hfr 12 (by decide)).trans hQr
  have hRg : ∀ i, i < 6 → isR E ad st2 (96 + 16 * i) sG (gN N0) := fun i hi => (hRg i hi).keepP (fun k9 h2 h3 => hfr k9 (by omega)) (by decide)
  refine nPutF (v := .ref (ad 32)) (T := TX4) (N := 4) (C := RX4) hx hb hts hinX4 tyX4 tyX4_ok nmX4 hown hK hP hD hS hO rfl 3 (by decide) (hts (.fieldLink RX4 29 "NeedleGrid" "text" "LNeedleGrid$BarText;") (by decide +kernel)) rfl hin rfl rfl rfl (Nat.le_of_ble_eq_true rfl) dX4_init_45 (fun st1 H2 locs hO h1 hP hD hS hz7 => ?_)
  have hf := hf.oneX h1 (by decide) (by decide)
  have hR := hR.one h1 (by decide) (by decide)
  have hTr := hTr.one h1 (by decide) (by decide)
  have hH := hH.one h1 (by decide) (by decide)
  have hQr := (h1 12 (by decide)).trans hQr
  have hRg : ∀ i, i < 6 → isR E ad st1 (96 + 16 * i) sG (gN N0) := fun i hi => isG_one (hRg i hi) h1 (by omega)
  have hT := hT.one h1 (by decide) (by decide)
  have hBr := hBr.one h1 (by decide) (by decide)
  have hzz : H2.size = s.heap.size + 93 := hz7.trans hz8
  clear hz7 hz8 hz9
  refine hret _ _ _ _ _ hP hD hS ⟨⟨⟨hO, fun k z n hk hz => ?_⟩, hH, hQr, hT, ⟨_, hBr⟩, hR, ⟨_, hTr⟩, hRg⟩, hf⟩ hzz dX4_init_48
  match k, hk with
  | 0, hk => cases hk; exact absurd rfl hz
  | 1, hk => cases hk; exact absurd rfl hz
  | 2, hk => cases hk; exact absurd rfl hz
  | 3, hk => cases hk; exact absurd rfl hz
  | k + 4, hk => cases hk


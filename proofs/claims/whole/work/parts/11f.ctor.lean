/-! the object itself -/
def nAdS (ad : Nat → Nat) (sz : Nat) : Prop := (ad 64 = sz ∧ gArr ad 64 (sz + 1)) ∧ (ad 80 = sz + 11 ∧ gArr ad 80 (sz + 12)) ∧ ad 16 = sz + 22 ∧ ad 12 = sz + 23 ∧ rgA ad (sz + 24) ∧ ad 32 = sz + 90 ∧ ad (32 + 1 + 0) = sz + 91 ∧ ad 48 = sz + 92
theorem frX.frB {lo hi b : Nat} {st s1 s2 : NW} (hf : frX lo hi st s1) (h1 : fr b s1 s2) (ha : lo ≤ b) (hb : b + 16 ≤ hi) : frX lo hi st s2 := fun j hj => (h1 j (by omega)).trans (hf j hj)
theorem isR.one {E : NE} {ad : Nat → Nat} {st st1 : NW} {h b : Nat} {S : NSc} {G : Nat → Nat → Int32} (hR : isR E ad st b S G) (h1 : one h st st1) (hh : h < b ∨ b + 16 ≤ h) (hl : S.2.length ≤ 15) : isR E ad st1 b S G := hR.keepP (fun k h2 h3 => h1 k (by omega)) hl

set_option maxHeartbeats 4000000 in
set_option maxRecDepth 100000 in
theorem k_Needle (l : Launch) (E : NE) (ad : Nat → Nat) (st : NW) (sz : Nat) (hA9 : nAdS ad sz) (hO : st 0 = some (.inr (4, [.null, .null, .null, .null]))) : nCt l yX4_init wsX4_init (nRc 6 93 2798 142) E ad st sz 93 2798 [.ref (ad 0)] (fun s1 => cW E ad s1 N0 (fun _ => N0) 0 0 (fun _ => 0) 0 ∧ frX 0 208 st s1) := by
  refine nSc (cc := cX4_init) (maxL := 1) (by decide) rfl rfl (Nat.le_of_ble_eq_true rfl) ?_
  intro pg en s mi ar bw mth cd R Q A ls hx hb hml hown hts hRm hP hK hD hZ hA hl hAO hin hsz hret
  subst hRm
  have hown : s.vm.findClass RX4 = some mi.cls := hown
  have hS : va_S A s.heap s.heap [] := va_S.rf
  have hl : lv_has ls 1 [(0, .ref (ad 0))] := hl
  have hinX0 : ∀ w ∈ wsX00, w ∈ wsX4_init := by decide +kernel
  have hinX1 : ∀ w ∈ wsX10, w ∈ wsX4_init := by decide +kernel
  have hinX2 : ∀ w ∈ wsX20, w ∈ wsX4_init := by decide +kernel
  have hinX3 : ∀ w ∈ wsX30, w ∈ wsX4_init := by decide +kernel
  have hinX4 : ∀ w ∈ wsX40, w ∈ wsX4_init := by decide +kernel
  subst hsz
  obtain ⟨⟨a64, g64⟩, ⟨a80, g80⟩, a16, a12, hrg, a32, a33, a48⟩ := hA9
  have hf : frX 0 208 st st := frX.rf
  have hzz : s.heap.size = s.heap.size + 0 := rfl
  refine lv_aload_n hx hb dX4_init_0 rfl (lv_at hl 0 rfl) ?_
  refine W.objInit hx hb hown (hts (.methodLink RX4 3 objectInit) (by decide +kernel)) (hts (.instanceMethod objectInit) (by decide +kernel)) (hts (.code objectInit ⟨#[0xb1]⟩ 1 none) (by decide +kernel)) rfl (by rw [hml]; exact hl.1) rfl dX4_init_1 (Nat.le_of_ble_eq_true rfl) (Nat.le_of_ble_eq_true rfl) ?_
  refine W.eq (g2 := F0 mi 4 ls []) rfl ?_
  refine lv_aload_n hx hb dX4_init_4 rfl (lv_at hl 0 rfl) ?_
  refine nNewO (h := 64) (ci := 2) (fs := [.null, .null, .null, .null, .null, .null, .int 0, .int 0, .int 0, .null, .null, .null, .null]) (C := RX2) (T := TX2) (N := 13) hx hb hts hinX2 tyX2 tyX2_ok hown (hts (.classLink RX4 9 RX2) (by decide +kernel)) (hts (.instantiable RX2 13) (by decide +kernel)) (hts (.initialized RX2) (by decide +kernel)) hK hP hD hS hA rfl (all13 rfl rfl rfl rfl rfl rfl rfl rfl rfl rfl rfl rfl rfl) (by rw [hzz]; exact a64) (Nat.le_of_ble_eq_true rfl) (Nat.le_of_ble_eq_true rfl) dX4_init_5 (fun st1 H hB h1 hP hD hS hz9 => ?_)
  rw [hzz] at hz9
  clear hzz
  have hf := hf.oneX h1 (by decide) (by decide)
  have hO := (h1 0 (by decide)).trans hO
  refine lv_dup hx hb dX4_init_8 rfl ?_
  refine nIc (k := 64) (rest := _) hx hb hml hown hts hP hK hD hZ hAO hA hS hz9 ⟨(Nat.le_of_ble_eq_true rfl), (Nat.le_of_ble_eq_true rfl)⟩ (k_Grid l E ad st1 64 (s.heap.size + 0 + 1) g64 hB) (cwI 0 hts gX4_init_X2_init rfl rfl rfl (hts (.initialized RX2) (by decide +kernel)) (hts (.methodLink RX4 11 yX2_init) (by decide +kernel)) (hts (.instanceMethod yX2_init) (by decide +kernel)) rfl (by decide +kernel) ⟨(Nat.le_of_ble_eq_true rfl), (Nat.le_of_ble_eq_true rfl)⟩) hl.1 (Nat.le_of_ble_eq_true rfl) dX4_init_9 (fun st2 H locs hq hP hD hS hz8 => ?_)
  obtain ⟨hR, hfr⟩ := hq
  have hf := hf.frB hfr (by decide) (by decide)
  have hO := (hfr 0 (by decide)).trans hO
  refine nPutF (v := .ref (ad 64)) (T := TX4) (N := 4) (C := RX4) hx hb hts hinX4 tyX4 tyX4_ok nmX4 hown hK hP hD hS hO rfl 0 (by decide) (hts (.fieldLink RX4 12 "NeedleGrid" "now" "LNeedleGrid$Grid;") (by decide +kernel)) rfl hin rfl rfl rfl (Nat.le_of_ble_eq_true rfl) dX4_init_12 (fun st1 H2 locs hO h1 hP hD hS hz7 => ?_)
  have hf := hf.oneX h1 (by decide) (by decide)
  have hR := hR.one h1 (by decide) (by decide)
  have hzz : H2.size = s.heap.size + 11 := hz7.trans hz8
  clear hz7 hz8 hz9
  refine lv_aload_n hx hb dX4_init_15 rfl (lv_at hl 0 rfl) ?_
  refine nNewO (h := 80) (ci := 2) (fs := [.null, .null, .null, .null, .null, .null, .int 0, .int 0, .int 0, .null, .null, .null, .null]) (C := RX2) (T := TX2) (N := 13) hx hb hts hinX2 tyX2 tyX2_ok hown (hts (.classLink RX4 9 RX2) (by decide +kernel)) (hts (.instantiable RX2 13) (by decide +kernel)) (hts (.initialized RX2) (by decide +kernel)) hK hP hD hS hA rfl (all13 rfl rfl rfl rfl rfl rfl rfl rfl rfl rfl rfl rfl rfl) (by rw [hzz]; exact a80) (Nat.le_of_ble_eq_true rfl) (Nat.le_of_ble_eq_true rfl) dX4_init_16 (fun st1 H hB h1 hP hD hS hz9 => ?_)
  rw [hzz] at hz9
  clear hzz
  have hf := hf.oneX h1 (by decide) (by decide)
  have hO := (h1 0 (by decide)).trans hO
  have hR := hR.one h1 (by decide) (by decide)
  refine lv_dup hx hb dX4_init_19 rfl ?_
  refine nIc (k := 80) (rest := _) hx hb hml hown hts hP hK hD hZ hAO hA hS hz9 ⟨(Nat.le_of_ble_eq_true rfl), (Nat.le_of_ble_eq_true rfl)⟩ (k_Grid l E ad st1 80 (s.heap.size + 11 + 1) g80 hB) (cwI 0 hts gX4_init_X2_init rfl rfl rfl (hts (.initialized RX2) (by decide +kernel)) (hts (.methodLink RX4 11 yX2_init) (by decide +kernel)) (hts (.instanceMethod yX2_init) (by decide +kernel)) rfl (by decide +kernel) ⟨(Nat.le_of_ble_eq_true rfl), (Nat.le_of_ble_eq_true rfl)⟩) hl.1 (Nat.le_of_ble_eq_true rfl) dX4_init_20 (fun st2 H locs hq hP hD hS hz8 => ?_)
  obtain ⟨hTr, hfr⟩ := hq
  have hf := hf.frB hfr (by decide) (by decide)
  have hO := (hfr 0 (by decide)).trans hO
  have hR := hR.keep hfr (by decide) (by decide)
  refine nPutF (v := .ref (ad 80)) (T := TX4) (N := 4) (C := RX4) hx hb hts hinX4 tyX4 tyX4_ok nmX4 hown hK hP hD hS hO rfl 1 (by decide) (hts (.fieldLink RX4 16 "NeedleGrid" "trial" "LNeedleGrid$Grid;") (by decide +kernel)) rfl hin rfl rfl rfl (Nat.le_of_ble_eq_true rfl) dX4_init_23 (fun st1 H2 locs hO h1 hP hD hS hz7 => ?_)
  have hf := hf.oneX h1 (by decide) (by decide)
  have hR := hR.one h1 (by decide) (by decide)
  have hTr := hTr.one h1 (by decide) (by decide)
  have hzz : H2.size = s.heap.size + 22 := hz7.trans hz8
  clear hz7 hz8 hz9
  refine lv_aload_n hx hb dX4_init_26 rfl (lv_at hl 0 rfl) ?_
  refine nNewO (h := 16) (ci := 3) (fs := [.null, .int 0, .int 0]) (C := RX3) (T := TX3) (N := 3) hx hb hts hinX3 tyX3 tyX3_ok hown (hts (.classLink RX4 19 RX3) (by decide +kernel)) (hts (.instantiable RX3 3) (by decide +kernel)) (hts (.initialized RX3) (by decide +kernel)) hK hP hD hS hA rfl (all3 rfl rfl rfl) (by rw [hzz]; exact a16) (Nat.le_of_ble_eq_true rfl) (Nat.le_of_ble_eq_true rfl) dX4_init_27 (fun st1 H hB h1 hP hD hS hz9 => ?_)
  rw [hzz] at hz9
  clear hzz
  have hf := hf.oneX h1 (by decide) (by decide)
  have hO := (h1 0 (by decide)).trans hO
  have hR := hR.one h1 (by decide) (by decide)
  have hTr := hTr.one h1 (by decide) (by decide)
  refine lv_dup hx hb dX4_init_30 rfl ?_
  refine nIc (k := 16) (rest := _) hx hb hml hown hts hP hK hD hZ hAO hA hS hz9 ⟨(Nat.le_of_ble_eq_true rfl), (Nat.le_of_ble_eq_true rfl)⟩ (k_History l E ad st1 (s.heap.size + 22 + 1) a12 hrg hB) (cwI 0 hts gX4_init_X3_init rfl rfl rfl (hts (.initialized RX3) (by decide +kernel)) (hts (.methodLink RX4 21 yX3_init) (by decide +kernel)) (hts (.instanceMethod yX3_init) (by decide +kernel)) rfl (by decide +kernel) ⟨(Nat.le_of_ble_eq_true rfl), (Nat.le_of_ble_eq_true rfl)⟩) hl.1 (Nat.le_of_ble_eq_true rfl) dX4_init_31 (fun st2 H locs hq hP hD hS hz8 => ?_)
  obtain ⟨hH, hQr, hRg, hfr⟩ := hq
  have hf : frX 0 208 st st2 := fun j hj => (hfr j (by omega)).trans (hf j hj)
  have hO := (hfr 0 (by decide)).trans hO
  have hR := hR.keepP (fun k9 h2 h3 => hfr k9 (by omega)) (by decide)
  have hTr := hTr.keepP (fun k9 h2 h3 => hfr k9 (by omega)) (by decide)
  refine nPutF (v := .ref (ad 16)) (T := TX4) (N := 4) (C := RX4) hx hb hts hinX4 tyX4 tyX4_ok nmX4 hown hK hP hD hS hO rfl 2 (by decide) (hts (.fieldLink RX4 22 "NeedleGrid" "history" "LNeedleGrid$History;") (by decide +kernel)) rfl hin rfl rfl rfl (Nat.le_of_ble_eq_true rfl) dX4_init_34 (fun st1 H2 locs hO h1 hP hD hS hz7 => ?_)
  have hf := hf.oneX h1 (by decide) (by decide)
  have hR := hR.one h1 (by decide) (by decide)
  have hTr := hTr.one h1 (by decide) (by decide)
  have hH := hH.one h1 (by decide) (by decide)
  have hQr := (h1 12 (by decide)).trans hQr
  have hRg : ∀ i, i < 6 → isR E ad st1 (96 + 16 * i) sG (gN N0) := fun i hi => isG_one (hRg i hi) h1 (by omega)
  have hzz : H2.size = s.heap.size + 90 := hz7.trans hz8
  clear hz7 hz8 hz9
  refine lv_aload_n hx hb dX4_init_37 rfl (lv_at hl 0 rfl) ?_
  refine nNewO (h := 32) (ci := 1) (fs := [.null, .int 0, .null]) (C := RX1) (T := TX1) (N := 3) hx hb hts hinX1 tyX1 tyX1_ok hown (hts (.classLink RX4 26 RX1) (by decide +kernel)) (hts (.instantiable RX1 3) (by decide +kernel)) (hts (.initialized RX1) (by decide +kernel)) hK hP hD hS hA rfl (all3 rfl rfl rfl) (by rw [hzz]; exact a32) (Nat.le_of_ble_eq_true rfl) (Nat.le_of_ble_eq_true rfl) dX4_init_38 (fun st1 H hB h1 hP hD hS hz9 => ?_)
  rw [hzz] at hz9
  clear hzz
  have hf := hf.oneX h1 (by decide) (by decide)
  have hO := (h1 0 (by decide)).trans hO
  have hR := hR.one h1 (by decide) (by decide)
  have hTr := hTr.one h1 (by decide) (by decide)
  have hH := hH.one h1 (by decide) (by decide)
  have hQr := (h1 12 (by decide)).trans hQr
  have hRg : ∀ i, i < 6 → isR E ad st1 (96 + 16 * i) sG (gN N0) := fun i hi => isG_one (hRg i hi) h1 (by omega)
  refine lv_dup hx hb dX4_init_41 rfl ?_
  refine nIN (k := 32) (rest := _) hx hb hml hown hts hP hK hD hZ hAO hA hS hz9 ⟨(Nat.le_of_ble_eq_true rfl), (Nat.le_of_ble_eq_true rfl)⟩ (k_Text l E ad st1 (s.heap.size + 90 + 1) a33 a48 hB) ⟨va_cnB 0 hts gX4_init_X1_init_n28 rfl rfl rfl (nlM_X4_28 hZ) (hts (.initialized RX1) (by decide +kernel)) (by decide +kernel) ⟨(Nat.le_of_ble_eq_true rfl), (Nat.le_of_ble_eq_true rfl)⟩, rfl, hts (.instanceMethod yX1_init) (by decide +kernel)⟩ hl.1 (Nat.le_of_ble_eq_true rfl) dX4_init_42 (fun st2 H locs hq hP hD hS hz8 => ?_)
  obtain ⟨hT, hBr, hfr⟩ := hq
  have hf : frX 0 208 st st2 := fun j hj => (hfr j (by omega)).trans (hf j hj)
  have hO := (hfr 0 (by decide)).trans hO
  have hR := hR.keepP (fun k9 h2 h3 => hfr k9 (by omega)) (by decide)
  have hTr := hTr.keepP (fun k9 h2 h3 => hfr k9 (by omega)) (by decide)
  have hH := hH.keepP (fun k9 h2 h3 => hfr k9 (by omega)) (by decide)
  have hQr := (hfr 12 (by decide)).trans hQr
  have hRg : ∀ i, i < 6 → isR E ad st2 (96 + 16 * i) sG (gN N0) := fun i hi => (hRg i hi).keepP (fun k9 h2 h3 => hfr k9 (by omega)) (by decide)
  refine nPutF (v := .ref (ad 32)) (T := TX4) (N := 4) (C := RX4) hx hb hts hinX4 tyX4 tyX4_ok nmX4 hown hK hP hD hS hO rfl 3 (by decide) (hts (.fieldLink RX4 29 "NeedleGrid" "text" "LNeedleGrid$BarText;") (by decide +kernel)) rfl hin rfl rfl rfl (Nat.le_of_ble_eq_true rfl) dX4_init_45 (fun st1 H2 locs hO h1 hP hD hS hz7 => ?_)
  have hf := hf.oneX h1 (by decide) (by decide)
  have hR := hR.one h1 (by decide) (by decide)
  have hTr := hTr.one h1 (by decide) (by decide)
  have hH := hH.one h1 (by decide) (by decide)
  have hQr := (h1 12 (by decide)).trans hQr
  have hRg : ∀ i, i < 6 → isR E ad st1 (96 + 16 * i) sG (gN N0) := fun i hi => isG_one (hRg i hi) h1 (by omega)
  have hT := hT.one h1 (by decide) (by decide)
  have hBr := hBr.one h1 (by decide) (by decide)
  have hzz : H2.size = s.heap.size + 93 := hz7.trans hz8
  clear hz7 hz8 hz9
  refine hret _ _ _ _ _ hP hD hS ⟨⟨⟨hO, fun k z n hk hz => ?_⟩, hH, hQr, hT, ⟨_, hBr⟩, hR, ⟨_, hTr⟩, hRg⟩, hf⟩ hzz dX4_init_48
  match k, hk with
  | 0, hk => cases hk; exact absurd rfl hz
  | 1, hk => cases hk; exact absurd rfl hz
  | 2, hk => cases hk; exact absurd rfl hz
  | 3, hk => cases hk; exact absurd rfl hz
  | k + 4, hk => cases hk

def nwI (f : Nat → Int32) (i : Nat) : Nat → Int32 := fun j => if 6 ≤ j ∧ j < 6 + i then 6 else if 42 ≤ j ∧ j < 42 + i then 10 else f j
theorem nwI_0 {f : Nat → Int32} : nwI f 0 = f := by funext j; unfold nwI; rw [if_neg (by omega), if_neg (by omega)]
theorem nwI_s {f : Nat → Int32} {i : Nat} (hi : i < 36) : upd (upd (nwI f i) (6 + i) 6) (42 + i) 10 = nwI f (i + 1) := by
  funext j
  by_cases h : j = 42 + i
  · subst h; rw [upd_s]; unfold nwI; rw [if_neg (by omega), if_pos (by omega)]
  · rw [upd_n h]
    by_cases h2 : j = 6 + i
    · subst h2; rw [upd_s]; unfold nwI; rw [if_pos (by omega)]
    · rw [upd_n h2]
      unfold nwI
      by_cases h3 : 6 ≤ j ∧ j < 6 + i
      · rw [if_pos h3, if_pos (by omega)]
      · rw [if_neg h3, if_neg (by omega : ¬ (6 ≤ j ∧ j < 6 + (i + 1)))]
        by_cases h4 : 42 ≤ j ∧ j < 42 + i
        · rw [if_pos h4, if_pos (by omega)]
        · rw [if_neg h4, if_neg (by omega)]
theorem nwI_N : nwI (upd (upd (upd (fun _ => 0) 0 20) 1 2) 2 3) 36 = N0 := by
  funext j
  unfold nwI N0
  by_cases h0 : j = 0
  · subst h0; rfl
  by_cases h1 : j = 1
  · subst h1; rfl
  by_cases h2 : j = 2
  · subst h2; rfl
  rw [if_neg h0, if_neg h1, if_neg h2, upd_n h2, upd_n h1, upd_n h0]
def mAdS (ad : Nat → Nat) (sz : Nat) : Prop := ad (208 + 1 + 0) = sz ∧ ad (208 + 1 + 1) = sz + 1 ∧ ad (208 + 1 + 2) = sz + 2 ∧ ad (208 + 1 + 4) = sz + 3 ∧ ad (208 + 1 + 9) = sz + 4 ∧ ad (208 + 1 + 11) = sz + 5

set_option maxHeartbeats 4000000 in
set_option maxRecDepth 100000 in
theorem k_Model (l : Launch) (E : NE) (ad : Nat → Nat) (st : NW) (sz : Nat) (hA9 : mAdS ad sz) (hO : st 208 = some (.inr (5, [.null, .null, .null, .int 0, .null, .int 0, .int 0, .int 0, .int 0, .null, .int 0, .null, .int 0, .int 0]))) : nCt l yX5_init wsX5_init (nRc 1 6 1602 20) E ad st sz 6 1602 [.ref (ad 208)] (fun s1 => isR E ad s1 208 sM (mG N0 (fun _ => 0) 0 (fun _ => 0) 0 0 (fun _ _ => 0)) ∧ fr 208 st s1) := by
  refine nSc (cc := cX5_init) (maxL := 2) (by decide) rfl rfl (Nat.le_of_ble_eq_true rfl) ?_
  intro pg en s mi ar bw mth cd R Q A ls hx hb hml hown hts hRm hP hK hD hZ hA hl hAO hin hsz hret
  subst hRm
  have hown : s.vm.findClass RX5 = some mi.cls := hown
  have hS : va_S A s.heap s.heap [] := va_S.rf
  have hl : lv_has ls 2 [(0, .ref (ad 208))] := hl
  have hinX5 : ∀ w ∈ wsX50, w ∈ wsX5_init := by decide +kernel
  subst hsz
  obtain ⟨g0, g1, g2, g4, g9, g11⟩ := hA9
  have hf : fr 208 st st := fr.rf
  have hp : pR E ad st 208 5 _ [] (fun _ _ => 0) := ⟨hO, fun q hq => absurd hq List.not_mem_nil⟩
  have hge : s.heap.size + 0 ≤ s.heap.size := Nat.le_refl _
  refine lv_aload_n hx hb dX5_init_0 rfl (lv_at hl 0 rfl) ?_
  refine W.objInit hx hb hown (hts (.methodLink RX5 1 objectInit) (by decide +kernel)) (hts (.instanceMethod objectInit) (by decide +kernel)) (hts (.code objectInit ⟨#[0xb1]⟩ 1 none) (by decide +kernel)) rfl (by rw [hml]; exact hl.1) rfl dX5_init_1 (Nat.le_of_ble_eq_true rfl) (Nat.le_of_ble_eq_true rfl) ?_
  refine W.eq (g2 := F0 mi 4 ls []) rfl ?_
  refine lv_aload_n hx hb dX5_init_4 rfl (lv_at hl 0 rfl) ?_
  refine lv_sipush (v := 186) hx hb dX5_init_5 (by decide) ?_
  refine nField (k := 0) (ln := 186) (z := 0) (T := TX5) (N := 14) (C := RX5) (atype := .int) hx hb (Or.inl ⟨rfl, rfl⟩) (hts (.arrayClass .int) (by decide +kernel)) hK hP hD hS hA hts hinX5 tyX5 tyX5_ok nmX5 hown hp hf hge g0 (by decide) rfl (by decide) (by decide) (by decide) (by decide) (Nat.le_of_ble_eq_true rfl) (Nat.le_of_ble_eq_true rfl) dX5_init_8 rfl (by decide) (hts (.fieldLink RX5 7 "NeedleGridModel" "now" "[I") (by decide +kernel)) rfl hin rfl rfl rfl (Nat.le_of_ble_eq_true rfl) dX5_init_10 (fun st1 H locs hp hf hP hD hS hge => ?_)
  refine lv_aload_n hx hb dX5_init_13 rfl (lv_at hl 0 rfl) ?_
  refine lv_sipush (v := 186) hx hb dX5_init_14 (by decide) ?_
  refine nField (k := 1) (ln := 186) (z := 0) (T := TX5) (N := 14) (C := RX5) (atype := .int) hx hb (Or.inl ⟨rfl, rfl⟩) (hts (.arrayClass .int) (by decide +kernel)) hK hP hD hS hA hts hinX5 tyX5 tyX5_ok nmX5 hown hp hf hge g1 (by decide) rfl (by decide) (by decide) (by decide) (by decide) (Nat.le_of_ble_eq_true rfl) (Nat.le_of_ble_eq_true rfl) dX5_init_17 rfl (by decide) (hts (.fieldLink RX5 13 "NeedleGridModel" "then" "[I") (by decide +kernel)) rfl hin rfl rfl rfl (Nat.le_of_ble_eq_true rfl) dX5_init_19 (fun st1 H locs hp hf hP hD hS hge => ?_)
  refine lv_aload_n hx hb dX5_init_22 rfl (lv_at hl 0 rfl) ?_
  refine lv_sipush (v := 1116) hx hb dX5_init_23 (by decide) ?_
  refine nField (k := 2) (ln := 1116) (z := 0) (T := TX5) (N := 14) (C := RX5) (atype := .int) hx hb (Or.inl ⟨rfl, rfl⟩) (hts (.arrayClass .int) (by decide +kernel)) hK hP hD hS hA hts hinX5 tyX5 tyX5_ok nmX5 hown hp hf hge g2 (by decide) rfl (by decide) (by decide) (by decide) (by decide) (Nat.le_of_ble_eq_true rfl) (Nat.le_of_ble_eq_true rfl) dX5_init_26 rfl (by decide) (hts (.fieldLink RX5 16 "NeedleGridModel" "past" "[I") (by decide +kernel)) rfl hin rfl rfl rfl (Nat.le_of_ble_eq_true rfl) dX5_init_28 (fun st1 H locs hp hf hP hD hS hge => ?_)
  refine lv_aload_n hx hb dX5_init_31 rfl (lv_at hl 0 rfl) ?_
  refine lv_bipush (v := 60) hx hb dX5_init_32 (by decide) ?_
  refine nField (k := 4) (ln := 60) (z := 0) (T := TX5) (N := 14) (C := RX5) (atype := .int) hx hb (Or.inl ⟨rfl, rfl⟩) (hts (.arrayClass .int) (by decide +kernel)) hK hP hD hS hA hts hinX5 tyX5 tyX5_ok nmX5 hown hp hf hge g4 (by decide) rfl (by decide) (by decide) (by decide) (by decide) (Nat.le_of_ble_eq_true rfl) (Nat.le_of_ble_eq_true rfl) dX5_init_34 rfl (by decide) (hts (.fieldLink RX5 19 "NeedleGridModel" "text" "[I") (by decide +kernel)) rfl hin rfl rfl rfl (Nat.le_of_ble_eq_true rfl) dX5_init_36 (fun st1 H locs hp hf hP hD hS hge => ?_)
  refine lv_aload_n hx hb dX5_init_39 rfl (lv_at hl 0 rfl) ?_
  refine lv_bipush (v := 18) hx hb dX5_init_40 (by decide) ?_
  refine nField (k := 9) (ln := 18) (z := 0) (T := TX5) (N := 14) (C := RX5) (atype := .int) hx hb (Or.inl ⟨rfl, rfl⟩) (hts (.arrayClass .int) (by decide +kernel)) hK hP hD hS hA hts hinX5 tyX5 tyX5_ok nmX5 hown hp hf hge g9 (by decide) rfl (by decide) (by decide) (by decide) (by decide) (Nat.le_of_ble_eq_true rfl) (Nat.le_of_ble_eq_true rfl) dX5_init_42 rfl (by decide) (hts (.fieldLink RX5 22 "NeedleGridModel" "told" "[I") (by decide +kernel)) rfl hin rfl rfl rfl (Nat.le_of_ble_eq_true rfl) dX5_init_44 (fun st1 H locs hp hf hP hD hS hge => ?_)
  refine lv_aload_n hx hb dX5_init_47 rfl (lv_at hl 0 rfl) ?_
  refine lv_bipush (v := 36) hx hb dX5_init_48 (by decide) ?_
  refine nField (k := 11) (ln := 36) (z := 0) (T := TX5) (N := 14) (C := RX5) (atype := .int) hx hb (Or.inl ⟨rfl, rfl⟩) (hts (.arrayClass .int) (by decide +kernel)) hK hP hD hS hA hts hinX5 tyX5 tyX5_ok nmX5 hown hp hf hge g11 (by decide) rfl (by decide) (by decide) (by decide) (by decide) (Nat.le_of_ble_eq_true rfl) (Nat.le_of_ble_eq_true rfl) dX5_init_50 rfl (by decide) (hts (.fieldLink RX5 25 "NeedleGridModel" "next" "[I") (by decide +kernel)) rfl hin rfl rfl rfl (Nat.le_of_ble_eq_true rfl) dX5_init_52 (fun st1 H locs hp hf hP hD hS hge => ?_)
  have hM : isR E ad st1 208 sM (fun _ _ => 0) := pR.isR (S := sM) hp (fun k z n hk hz => by
    match k, hk with
    | 0, hk => cases hk; decide
    | 1, hk => cases hk; decide
    | 2, hk => cases hk; decide
    | 3, hk => cases hk
    | 4, hk => cases hk; decide
    | 5, hk => cases hk
    | 6, hk => cases hk
    | 7, hk => cases hk
    | 8, hk => cases hk
    | 9, hk => cases hk; decide
    | 10, hk => cases hk
    | 11, hk => cases hk; decide
    | 12, hk => cases hk
    | 13, hk => cases hk
    | k + 14, hk => cases hk)
  clear hp
  refine lv_aload_n hx hb dX5_init_55 rfl (lv_at hl 0 rfl) ?_
  refine rg (v := .ref (ad (208 + 1 + 0))) (T := TX5) (N := 14) (C := RX5) hx hb hts hinX5 hown hK hP hM rfl 0 (by decide) (hts (.fieldLink RX5 7 "NeedleGridModel" "now" "[I") (by decide +kernel)) rfl dX5_init_56 ?_
  refine lv_iconst (v := 0) hx hb dX5_init_59 (by decide) ?_
  refine lv_bipush (v := 20) hx hb dX5_init_60 (by decide) ?_
  refine rs (j := 0) (n := 186) (x := 20) hx hb hK hP hD hS hM 0 rfl (by decide) (by omega) (by decide) dX5_init_62 (fun s_1 H locs hM hf_2 hP hD hS => ?_)
  have hf := hf.tr hf_2
  refine lv_aload_n hx hb dX5_init_63 rfl (lv_at hl 0 rfl) ?_
  refine rg (v := .ref (ad (208 + 1 + 0))) (T := TX5) (N := 14) (C := RX5) hx hb hts hinX5 hown hK hP hM rfl 0 (by decide) (hts (.fieldLink RX5 7 "NeedleGridModel" "now" "[I") (by decide +kernel)) rfl dX5_init_64 ?_
  refine lv_iconst (v := 1) hx hb dX5_init_67 (by decide) ?_
  refine lv_iconst (v := 2) hx hb dX5_init_68 (by decide) ?_
  refine rs (j := 1) (n := 186) (x := 2) hx hb hK hP hD hS hM 0 rfl (by decide) (by omega) (by decide) dX5_init_69 (fun s_3 H locs hM hf_4 hP hD hS => ?_)
  have hf := hf.tr hf_4
  have hM : isR E ad s_3 208 sM (gu (fun _ _ => 0) 0 (upd (upd (fun _ => 0) 0 20) 1 2)) := hM.eq (all14 rfl rfl rfl rfl rfl rfl rfl rfl rfl rfl rfl rfl rfl rfl)
  refine lv_aload_n hx hb dX5_init_70 rfl (lv_at hl 0 rfl) ?_
  refine rg (v := .ref (ad (208 + 1 + 0))) (T := TX5) (N := 14) (C := RX5) hx hb hts hinX5 hown hK hP hM rfl 0 (by decide) (hts (.fieldLink RX5 7 "NeedleGridModel" "now" "[I") (by decide +kernel)) rfl dX5_init_71 ?_
  refine lv_iconst (v := 2) hx hb dX5_init_74 (by decide) ?_
  refine lv_iconst (v := 3) hx hb dX5_init_75 (by decide) ?_
  refine rs (j := 2) (n := 186) (x := 3) hx hb hK hP hD hS hM 0 rfl (by decide) (by omega) (by decide) dX5_init_76 (fun s_5 H locs hM hf_6 hP hD hS => ?_)
  have hf := hf.tr hf_6
  have hM : isR E ad s_5 208 sM (gu (fun _ _ => 0) 0 (upd (upd (upd (fun _ => 0) 0 20) 1 2) 2 3)) := hM.eq (all14 rfl rfl rfl rfl rfl rfl rfl rfl rfl rfl rfl rfl rfl rfl)
  refine lv_iconst (v := 0) hx hb dX5_init_77 (by decide) ?_
  refine lv_istore_n (lv' := [(1, .int 0), (0, .ref (ad 208))]) hx hb dX5_init_78 rfl hl (by decide) rfl (fun ls hl => ?_)
  have LP_7 : ∀ (k9 i : Nat), i ≤ 36 → 36 - i < k9 → ∀ (sL_8 : NW) (H : Heap) (locs : List Loc) (ls : Array Slot), isR E ad sL_8 208 sM (gu (fun _ _ => 0) 0 (nwI (upd (upd (upd (fun _ => 0) 0 20) 1 2) 2 3) i)) → fr 208 st sL_8 → nP E ad sL_8 H → nD A ad sL_8 → va_S A s.heap H locs → lv_has ls 2 [(1, .int (nI i)), (0, .ref (ad 208))] → W pg l en (nRc 1 6 1602 20) s mi ar bw mth cd H locs 6 1602 Q (F0 mi 79 ls []) := by
    intro k9
    induction k9 with
    | zero => intro i _ h9; exact absurd h9 (Nat.not_lt_zero _)
    | succ k9 ih79 =>
      intro i hi hk9 sL_8 H locs ls hM hf hP hD hS hl
      refine lv_iload_n hx hb dX5_init_79 rfl (lv_at hl 0 rfl) ?_
      refine lv_bipush (v := 36) hx hb dX5_init_80 (by decide) ?_
      refine lv_icmp_ge (tgt := 113) hx hb dX5_init_82 (by decide) (fun c82_8 => ?_) (fun c82_8 => ?_)
      · have h36 : 36 ≤ i := (nI_geL (n := 36) rfl (by decide) (by omega)).mp c82_8
        obtain rfl : i = 36 := by omega
        refine wSize fun hle => ?_
        have hlt := hP.lt (nn (hM.2 11 0 36 rfl (by decide)))
        rw [show ad (208 + 1 + 11) = s.heap.size + 5 from g11] at hlt
        have hz9 := Nat.le_antisymm hle hlt
        exact hret _ _ _ _ _ hP hD hS ⟨hM.eq (all14 nwI_N rfl rfl rfl rfl rfl rfl rfl rfl rfl rfl rfl rfl rfl), hf⟩ hz9 dX5_init_113
      · have hlt : i < 36 := by have := mt (nI_geL (n := 36) (i := i) rfl (by decide) (by omega)).mpr c82_8; omega
        refine lv_aload_n hx hb dX5_init_85 rfl (lv_at hl 1 rfl) ?_
        refine rg (v := .ref (ad (208 + 1 + 0))) (T := TX5) (N := 14) (C := RX5) hx hb hts hinX5 hown hK hP hM rfl 0 (by decide) (hts (.fieldLink RX5 7 "NeedleGridModel" "now" "[I") (by decide +kernel)) rfl dX5_init_86 ?_
        refine lv_bipush (v := 6) hx hb dX5_init_89 (by decide) ?_
        refine lv_iload_n hx hb dX5_init_91 rfl (lv_at hl 0 rfl) ?_
        refine lv_iadd hx hb dX5_init_92 ?_
        rw [show 6 + nI i = nI (6 + i) from nI_add 6 i]
        refine lv_bipush (v := 6) hx hb dX5_init_93 (by decide) ?_
        refine rs (j := (6 + i)) (n := 186) (x := 6) hx hb hK hP hD hS hM 0 rfl (by decide) (by omega) (by decide) dX5_init_95 (fun s_10 H locs hM hf_11 hP hD hS => ?_)
        have hf := hf.tr hf_11
        have hM : isR E ad s_10 208 sM (gu (fun _ _ => 0) 0 (upd (nwI (upd (upd (upd (fun _ => 0) 0 20) 1 2) 2 3) i) (6 + i) 6)) := hM.eq (all14 rfl rfl rfl rfl rfl rfl rfl rfl rfl rfl rfl rfl rfl rfl)
        refine lv_aload_n hx hb dX5_init_96 rfl (lv_at hl 1 rfl) ?_
        refine rg (v := .ref (ad (208 + 1 + 0))) (T := TX5) (N := 14) (C := RX5) hx hb hts hinX5 hown hK hP hM rfl 0 (by decide) (hts (.fieldLink RX5 7 "NeedleGridModel" "now" "[I") (by decide +kernel)) rfl dX5_init_97 ?_
        refine lv_bipush (v := 42) hx hb dX5_init_100 (by decide) ?_
        refine lv_iload_n hx hb dX5_init_102 rfl (lv_at hl 0 rfl) ?_
        refine lv_iadd hx hb dX5_init_103 ?_
        rw [show 42 + nI i = nI (42 + i) from nI_add 42 i]
        refine lv_bipush (v := 10) hx hb dX5_init_104 (by decide) ?_
        refine rs (j := (42 + i)) (n := 186) (x := 10) hx hb hK hP hD hS hM 0 rfl (by decide) (by omega) (by decide) dX5_init_106 (fun s_12 H locs hM hf_13 hP hD hS => ?_)
        have hf := hf.tr hf_13
        have hM : isR E ad s_12 208 sM (gu (fun _ _ => 0) 0 (upd (upd (nwI (upd (upd (upd (fun _ => 0) 0 20) 1 2) 2 3) i) (6 + i) 6) (42 + i) 10)) := hM.eq (all14 rfl rfl rfl rfl rfl rfl rfl rfl rfl rfl rfl rfl rfl rfl)
        refine lv_iinc (v := nI (i + 1)) (lv' := [(1, .int (nI (i + 1))), (0, .ref (ad 208))]) hx hb dX5_init_107 hl (k := 0) rfl (nI_1 _) (by decide) rfl (fun ls hl => ?_)
        refine lv_goto (tgt := 79) hx hb dX5_init_110 (by decide) ?_
        exact ih79 (i + 1) (by omega) (by omega) _ _ _ _ (hM.eq (all14 (nwI_s (f := (upd (upd (upd (fun _ => 0) 0 20) 1 2) 2 3)) hlt) rfl rfl rfl rfl rfl rfl rfl rfl rfl rfl rfl rfl rfl)) hf hP hD hS (lv_sub hl [0, 1] rfl)
  exact LP_7 (36 + 1) 0 (Nat.zero_le _) (by omega) _ _ _ _ (hM.eq (all14 (nwI_0 (f := (upd (upd (upd (fun _ => 0) 0 20) 1 2) 2 3))).symm rfl rfl rfl rfl rfl rfl rfl rfl rfl rfl rfl rfl rfl)) hf hP hD hS (lv_sub hl [0, 1] rfl)

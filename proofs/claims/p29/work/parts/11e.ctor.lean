/-! the history with its ring -/
def rgF (ad : Nat → Nat) (i : Nat) : Nat → Option Nat := fun j => if j < i then some (ad (96 + 16 * j)) else none
theorem rgF_0 {ad : Nat → Nat} : rgF ad 0 = fun _ => none := by funext j; unfold rgF; rw [if_neg (Nat.not_lt_zero _)]
theorem rgF_s {ad : Nat → Nat} {i : Nat} : va_up (rgF ad i) i (some (ad (96 + 16 * i))) = rgF ad (i + 1) := by
  funext j
  unfold va_up rgF
  by_cases h : j = i
  · subst h; rw [if_pos rfl, if_pos (by omega)]
  · rw [if_neg h]
    by_cases h2 : j < i
    · rw [if_pos h2, if_pos (by omega)]
    · rw [if_neg h2, if_neg (by omega)]
theorem nP.ring {E : NE} {ad : Nat → Nat} {st : NW} {A : Nat → Prop} {H : Heap} {k : Nat} (h : nP E ad st H) (hD : nD A ad st) (hk : st k = some (.inl (E.2.1 2, 6, .inr (.inr (.inr (.inr (rgF ad 6))))))) : nP E ad (su st k (nRing E ad)) H := by
  refine h.set hD hk ?_ (fun _ _ => rfl)
  refine Eq.trans (h k _ hk) ?_
  show some (vp_cell _ _) = some (vp_cell _ _)
  rw [vp_cell_q, vp_cell_q]
  congr 1
/-- the history's own frame: all but 12, 16 and the ring's grids -/
def frK (st st1 : NW) : Prop := ∀ h : Nat, (h < 12 ∨ h = 13 ∨ h = 14 ∨ h = 15 ∨ (17 ≤ h ∧ h < 96) ∨ 192 ≤ h) → st1 h = st h
theorem frK.one12 {st s1 s2 : NW} (h : frK st s1) (h1 : one 12 s1 s2) : frK st s2 := fun j hj => (h1 j (by omega)).trans (h j hj)
theorem frK.one16 {st s1 s2 : NW} (h : frK st s1) (h1 : one 16 s1 s2) : frK st s2 := fun j hj => (h1 j (by omega)).trans (h j hj)
theorem frK.oneG {st s1 s2 : NW} {i : Nat} (h : frK st s1) (h1 : one (96 + 16 * i) s1 s2) (hi : i < 6) : frK st s2 := fun j hj => (h1 j (by omega)).trans (h j hj)
theorem frK.frG {st s1 s2 : NW} {i : Nat} (h : frK st s1) (h1 : fr (96 + 16 * i) s1 s2) (hi : i < 6) : frK st s2 := fun j hj => (h1 j (by omega)).trans (h j hj)
/-- the ring's addresses -/
def rgA (ad : Nat → Nat) (a : Nat) : Prop := ∀ i, i < 6 → ad (96 + 16 * i) = a + 11 * i ∧ gArr ad (96 + 16 * i) (a + 11 * i + 1)
theorem isG_one {E : NE} {ad : Nat → Nat} {st st1 : NW} {h j : Nat} {G : Nat → Nat → Int32} (hR : isR E ad st (96 + 16 * j) sG G) (h1 : one h st st1) (hh : h < 96 + 16 * j ∨ 96 + 16 * j + 16 ≤ h) : isR E ad st1 (96 + 16 * j) sG G := hR.keepP (fun k h2 h3 => h1 k (by omega)) (by decide)
set_option maxHeartbeats 4000000 in
set_option maxRecDepth 100000 in
theorem k_History (l : Launch) (E : NE) (ad : Nat → Nat) (st : NW) (sz : Nat) (g12 : ad 12 = sz) (hrg : rgA ad (sz + 1)) (hO : st 16 = some (.inr (3, [.null, .int 0, .int 0]))) : nCt l yX3_init wsX3_init (nRc 5 67 2046 121) E ad st sz 67 2046 [.ref (ad 16)] (fun s1 => isR E ad s1 16 sH (hst 0 0) ∧ s1 12 = some (nRing E ad) ∧ (∀ i, i < 6 → isR E ad s1 (96 + 16 * i) sG (gN N0)) ∧ frK st s1) := by
  refine nSc (cc := cX3_init) (maxL := 2) (by decide) rfl rfl (Nat.le_of_ble_eq_true rfl) ?_
  intro pg en s mi ar bw mth cd R Q A ls hx hb hml hown hts hRm hP hK hD hZ hA hl hAO hin hsz hret
  subst hRm
  subst hsz
  have hown : s.vm.findClass RX3 = some mi.cls := hown
  have hS : va_S A s.heap s.heap [] := va_S.rf
  have hl : lv_has ls 2 [(0, .ref (ad 16))] := hl
  have hinX2 : ∀ w ∈ wsX20, w ∈ wsX3_init := by decide +kernel
  have hinX3 : ∀ w ∈ wsX30, w ∈ wsX3_init := by decide +kernel
  have hf : frK st st := fun _ _ => rfl
  have hge : s.heap.size + 0 ≤ s.heap.size := Nat.le_refl _
  refine lv_aload_n hx hb dX3_init_0 rfl (lv_at hl 0 rfl) ?_
  refine W.objInit hx hb hown (hts (.methodLink RX3 3 objectInit) (by decide +kernel)) (hts (.instanceMethod objectInit) (by decide +kernel)) (hts (.code objectInit ⟨#[0xb1]⟩ 1 none) (by decide +kernel)) rfl (by rw [hml]; exact hl.1) rfl dX3_init_1 (Nat.le_of_ble_eq_true rfl) (Nat.le_of_ble_eq_true rfl) ?_
  refine W.eq (g2 := F0 mi 4 ls []) rfl ?_
  refine lv_aload_n hx hb dX3_init_4 rfl (lv_at hl 0 rfl) ?_
  refine lv_bipush (v := 6) hx hb dX3_init_5 (by decide) ?_
  refine wSz hge fun hsz9 => ?_
  refine nNewQ (h := 12) hx hb hown (hts (.classLink RX3 9 RX2) (by decide +kernel)) hAO hK hP hD hS hA g12 (Nat.le_of_ble_eq_true rfl) (Nat.le_of_ble_eq_true rfl) dX3_init_7 (fun st1 H hQ h1 hP hD hS => ?_)
  have hf := hf.one12 h1
  have hO := (h1 16 (by decide)).trans hO
  refine nPutF (v := .ref (ad 12)) (T := TX3) (N := 3) (C := RX3) hx hb hts hinX3 tyX3 tyX3_ok nmX3 hown hK hP hD hS hO rfl 0 (by decide) (hts (.fieldLink RX3 11 "NeedleGrid$History" "ring" "[LNeedleGrid$Grid;") (by decide +kernel)) rfl hin rfl rfl rfl (Nat.le_of_ble_eq_true rfl) dX3_init_10 (fun st1 H locs hO h1 hP hD hS hz7 => ?_)
  have hf := hf.one16 h1
  have hQ := (h1 12 (by decide)).trans hQ
  have hge : s.heap.size + (1 + 11 * 0) ≤ H.size := by have := hP.lt (nn hQ); rw [g12] at this; exact this
  rw [← rgF_0 (ad := ad)] at hQ
  refine lv_iconst (v := 0) hx hb dX3_init_13 (by decide) ?_
  refine lv_istore_n (lv' := [(1, .int 0), (0, .ref (ad 16))]) hx hb dX3_init_14 rfl hl (by decide) rfl (fun ls hl => ?_)
  have LP : ∀ (k9 i : Nat), i ≤ 6 → 6 - i < k9 → ∀ (st1 : NW) (H : Heap) (locs : List Loc) (ls : Array Slot), st1 16 = some (.inr (3, [.ref (ad 12), .int 0, .int 0])) → st1 12 = some (.inl (E.2.1 2, 6, .inr (.inr (.inr (.inr (rgF ad i)))))) → (∀ j, j < i → isR E ad st1 (96 + 16 * j) sG (gN N0)) → frK st st1 → nP E ad st1 H → nD A ad st1 → va_S A s.heap H locs → s.heap.size + (1 + 11 * i) ≤ H.size → lv_has ls 2 [(1, .int (nI i)), (0, .ref (ad 16))] → W pg l en (nRc 5 67 2046 121) s mi ar bw mth cd H locs (1 + 11 * i) (6 + 340 * i) Q (F0 mi 15 ls []) := by
    intro k9
    induction k9 with
    | zero => intro i _ h9; exact absurd h9 (Nat.not_lt_zero _)
    | succ k9 ih =>
      intro i hi hk9 st1 H locs ls hO hQ hG hf hP hD hS hge hl
      refine lv_iload_n hx hb dX3_init_15 rfl (lv_at hl 0 rfl) ?_
      refine lv_bipush (v := 6) hx hb dX3_init_16 (by decide) ?_
      refine lv_icmp_ge (tgt := 40) hx hb dX3_init_18 (by decide) (fun c9 => ?_) (fun c9 => ?_)
      · have h36 : 6 ≤ i := (nI_geL (n := 6) rfl (by decide) (by omega)).mp c9
        obtain rfl : i = 6 := by omega
        refine wSz hge fun hsz8 => ?_
        refine hret _ _ (su st1 12 (nRing E ad)) _ _ (hP.ring hD hQ) (hD.set hQ) hS ⟨⟨?_, fun k z n hk hz => ?_⟩, su_s, fun j hj => ?_, hf.one12 fun j hj => su_n hj⟩ hsz8 dX3_init_40
        · rw [su_n (by decide)]; exact hO
        · match k, hk with
          | 0, hk => cases hk; exact absurd rfl hz
          | 1, hk => cases hk
          | 2, hk => cases hk
          | k + 3, hk => cases hk
        · exact isG_one (hG j hj) (fun q hq => su_n hq) (by omega)
      · have hlt : i < 6 := by have := mt (nI_geL (n := 6) (i := i) rfl (by decide) (by omega)).mpr c9; omega
        obtain ⟨a1, a2⟩ := hrg i hlt
        have hOR : isR E ad st1 16 sH (hst 0 0) := ⟨hO, fun k z n hk hz => by
          match k, hk with
          | 0, hk => cases hk; exact absurd rfl hz
          | 1, hk => cases hk
          | 2, hk => cases hk
          | k + 3, hk => cases hk⟩
        refine lv_aload_n hx hb dX3_init_21 rfl (lv_at hl 1 rfl) ?_
        refine rg (v := .ref (ad 12)) (T := TX3) (N := 3) (C := RX3) hx hb hts hinX3 hown hK hP hOR rfl 0 (by decide) (hts (.fieldLink RX3 11 "NeedleGrid$History" "ring" "[LNeedleGrid$Grid;") (by decide +kernel)) rfl dX3_init_22 ?_
        refine lv_iload_n hx hb dX3_init_25 rfl (lv_at hl 0 rfl) ?_
        refine wSz hge fun hsz8 => ?_
        refine nNewO (h := 96 + 16 * i) (ci := 2) (fs := [.null, .null, .null, .null, .null, .null, .int 0, .int 0, .int 0, .null, .null, .null, .null]) (C := RX2) (T := TX2) (N := 13) hx hb hts hinX2 tyX2 tyX2_ok hown (hts (.classLink RX3 9 RX2) (by decide +kernel)) (hts (.instantiable RX2 13) (by decide +kernel)) (hts (.initialized RX2) (by decide +kernel)) hK hP hD hS hA rfl (all13 rfl rfl rfl rfl rfl rfl rfl rfl rfl rfl rfl rfl rfl) (by rw [hsz8, a1]; omega) (by show 1 + 11 * i + 1 ≤ 67; omega) (by show 6 + 340 * i + 13 ≤ 2046; omega) dX3_init_26 (fun st2 H hB h1 hP hD hS hz9 => ?_)
        have hf := hf.oneG h1 hlt
        have hO := (h1 16 (by omega)).trans hO
        have hQ := (h1 12 (by omega)).trans hQ
        have hG : ∀ j, j < i → isR E ad st2 (96 + 16 * j) sG (gN N0) := fun j hj => isG_one (hG j hj) h1 (by omega)
        rw [hsz8] at hz9
        refine lv_dup hx hb dX3_init_29 rfl ?_
        refine nIc (k := 96 + 16 * i) (rest := _) hx hb hml hown hts hP hK hD hZ hAO hA hS hz9 ⟨by show 1 + 11 * i + 1 + 10 ≤ 67; omega, by show 6 + 340 * i + 13 + 327 ≤ 2046; omega⟩ (k_Grid l E ad st2 (96 + 16 * i) (s.heap.size + (1 + 11 * i) + 1) (by rw [show s.heap.size + (1 + 11 * i) + 1 = s.heap.size + 1 + 11 * i + 1 by omega]; exact a2) hB) (cwI 0 hts gX3_init_X2_init rfl rfl rfl (hts (.initialized RX2) (by decide +kernel)) (hts (.methodLink RX3 17 yX2_init) (by decide +kernel)) (hts (.instanceMethod yX2_init) (by decide +kernel)) rfl (by decide +kernel) ⟨Nat.le_of_ble_eq_true rfl, Nat.le_of_ble_eq_true rfl⟩) hl.1 (Nat.le_of_ble_eq_true rfl) dX3_init_30 (fun st3 H locs hq hP hD hS hz8 => ?_)
        obtain ⟨hR, hfr⟩ := hq
        have hf := hf.frG hfr hlt
        have hO := (hfr 16 (by omega)).trans hO
        have hQ := (hfr 12 (by omega)).trans hQ
        have hG : ∀ j, j < i → isR E ad st3 (96 + 16 * j) sG (gN N0) := fun j hj => (hG j hj).keep hfr (by omega) (by decide)
        refine nAstq (k := 12) (hv := 96 + 16 * i) (j := i) hx hb hK hP hD hS hQ hR.1 hlt dX3_init_33 (fun st4 H2 locs hQ h1 hP hD hS => ?_)
        have hf := hf.one12 h1
        have hO := (h1 16 (by omega)).trans hO
        have hR := isG_one hR h1 (by omega)
        have hG : ∀ j, j < i → isR E ad st4 (96 + 16 * j) sG (gN N0) := fun j hj => isG_one (hG j hj) h1 (by omega)
        rw [rgF_s] at hQ
        refine lv_iinc (v := nI (i + 1)) (lv' := [(1, .int (nI (i + 1))), (0, .ref (ad 16))]) hx hb dX3_init_34 hl (k := 0) rfl (nI_1 _) (by decide) rfl (fun ls hl => ?_)
        refine lv_goto (tgt := 15) hx hb dX3_init_37 (by decide) ?_
        refine wNum (c2 := 1 + 11 * (i + 1)) (s2 := 6 + 340 * (i + 1)) (by omega) (by omega) ?_
        have hlast := hP.lt (nn (hR.2 12 0 36 rfl (by decide)))
        rw [a2.2.2.2.2.2.2.2.2.2] at hlast
        exact ih (i + 1) (by omega) (by omega) st4 H2 locs ls hO hQ (fun j hj => if z : j < i then hG j z else by rw [show j = i by omega]; exact hR) hf hP hD hS (by omega) hl
  exact LP 7 0 (by omega) (by omega) st1 H locs ls hO hQ (fun j hj => absurd hj (Nat.not_lt_zero _)) hf hP hD hS hge hl


set_option maxHeartbeats 4000000 in
set_option maxRecDepth 100000 in
theorem m_isAt (l : Launch) (E : NE) (ad : Nat → Nat) (st : NW) (b : Nat) (N P : Nat → Int32) (kp : Nat) (C : Nat → Int32) (n : Nat) (th : Int32) (J : Nat → Nat → Int32) (p : Nat) (f : Int32) (T : Nat → Int32) (k : Nat) (hn : n ≤ 60) (hC : okC C n) (hM : isR E ad st b sM (tG (mG N P kp C n th J) p f T k)) (lo hi : Int32) (hp6 : p ≤ n) : nMi l yX5_isAt wsX5_isAt (nRm 1 22) E ad st [.ref (ad b), .int lo, .int hi] (fun r s1 => r = atV C n p lo hi ∧ st = s1) := by
  refine nSz (cc := cX5_isAt) (maxL := 3) (by decide) rfl (Nat.le_of_ble_eq_true rfl) ?_
  intro pg en s mi ar bw mth cd R Q A ls hx hb hml hown hts hRm hP hK hD hZ hA hl hret
  subst hRm
  have hown : s.vm.findClass RX5 = some mi.cls := hown
  have hS : va_S A s.heap s.heap [] := va_S.rf
  have hl : lv_has ls 3 [(0, .ref (ad b)), (1, .int lo), (2, .int hi)] := hl
  have hf : fr b st st := fr.rf
  have hM : isR E ad st b sM (gu (gu (gu (gu (mG N P kp C n th J) 7 (fun _ => nI p)) 8 (fun _ => f)) 9 T) 10 (fun _ => nI k)) := hM
  have hinX5 : ∀ w ∈ wsX50, w ∈ wsX5_isAt := by decide +kernel
  refine lv_aload_n hx hb dX5_isAt_0 rfl (lv_at hl 0 rfl) ?_
  refine rg (v := .int (nI p)) (T := TX5) (N := 14) (C := RX5) hx hb hts hinX5 hown hK hP hM rfl 7 (by decide) (hts (.fieldLink RX5 113 "NeedleGridModel" "at" "I") (by decide +kernel)) rfl dX5_isAt_1 ?_
  refine lv_aload_n hx hb dX5_isAt_4 rfl (lv_at hl 0 rfl) ?_
  refine rg (v := .int (nI n)) (T := TX5) (N := 14) (C := RX5) hx hb hts hinX5 hown hK hP hM rfl 5 (by decide) (hts (.fieldLink RX5 110 "NeedleGridModel" "typed" "I") (by decide +kernel)) rfl dX5_isAt_5 ?_
  refine lv_icmp_ge (tgt := 32) hx hb dX5_isAt_8 (by decide) (fun c8_0 => ?_) (fun c8_0 => ?_)
  · have hge : n ≤ p := (nI_leI (by omega) (by omega)).mp c8_0
    refine lv_iconst (v := 0) hx hb dX5_isAt_32 (by decide) ?_
    exact hret _ _ _ _ _ _ hP hD hS (⟨by unfold atV; rw [if_pos hge], rfl⟩) (by first | exact Or.inl rfl | exact Or.inr rfl | assumption) dX5_isAt_33
  · have hlt : p < n := by have := mt (nI_leI (a := n) (b := p) (by omega) (by omega)).mpr c8_0; omega
    refine lv_aload_n hx hb dX5_isAt_11 rfl (lv_at hl 0 rfl) ?_
    refine rg (v := .ref (ad (b + 1 + 4))) (T := TX5) (N := 14) (C := RX5) hx hb hts hinX5 hown hK hP hM rfl 4 (by decide) (hts (.fieldLink RX5 19 "NeedleGridModel" "text" "[I") (by decide +kernel)) rfl dX5_isAt_12 ?_
    refine lv_aload_n hx hb dX5_isAt_15 rfl (lv_at hl 0 rfl) ?_
    refine rg (v := .int (nI p)) (T := TX5) (N := 14) (C := RX5) hx hb hts hinX5 hown hK hP hM rfl 7 (by decide) (hts (.fieldLink RX5 113 "NeedleGridModel" "at" "I") (by decide +kernel)) rfl dX5_isAt_16 ?_
    refine ra (j := p) (n := 60) hx hb hK hP hM 4 rfl (by omega) (by decide) dX5_isAt_19 ?_
    refine lv_iload_n hx hb dX5_isAt_20 rfl (lv_at hl 1 rfl) ?_
    refine lv_iload_n hx hb dX5_isAt_21 rfl (lv_at hl 2 rfl) ?_
    refine nS_i (As := [.int (C p), .int lo, .int hi]) (rest := _) hx hb hml hown hts hP hK hD hZ hA hS ⟨Nat.zero_le _, Nat.zero_le _⟩ (m_in l E ad st (C p) lo hi) (va_cwS 3 hts gX5_isAt_X5_in rfl rfl rfl (by decide +kernel) ⟨Nat.le_of_ble_eq_true rfl, Nat.le_of_ble_eq_true rfl⟩) hl.1 rfl (Nat.le_of_ble_eq_true rfl) dX5_isAt_22 (fun r_2 s_3 H locs hq hP hD hS => ?_)
    obtain ⟨rfl, rfl⟩ := hq
    refine lv_if_eq (tgt := 32) hx hb dX5_isAt_25 (by decide) (fun c25_3 => ?_) (fun c25_3 => ?_)
    · have c25_3 : (inI (C p) lo hi) = 0 := c25_3
      refine lv_iconst (v := 0) hx hb dX5_isAt_32 (by decide) ?_
      exact hret _ _ _ _ _ _ hP hD hS (⟨by unfold atV; rw [if_neg (by omega)]; exact c25_3.symm, rfl⟩) (by first | exact Or.inl rfl | exact Or.inr rfl | assumption) dX5_isAt_33
    · have c25_3 : ¬ (inI (C p) lo hi) = 0 := c25_3
      refine lv_iconst (v := 1) hx hb dX5_isAt_28 (by decide) ?_
      refine lv_goto (tgt := 33) hx hb dX5_isAt_29 (by decide) ?_
      exact hret _ _ _ _ _ _ hP hD hS (⟨by unfold atV; rw [if_neg (by omega)]; exact ((inI_01 _ _ _).resolve_left c25_3).symm, rfl⟩) (by first | exact Or.inl rfl | exact Or.inr rfl | assumption) dX5_isAt_33

set_option maxHeartbeats 4000000 in
set_option maxRecDepth 100000 in
theorem m_stops (l : Launch) (E : NE) (ad : Nat → Nat) (st : NW) (b : Nat) (N P : Nat → Int32) (kp : Nat) (C : Nat → Int32) (n : Nat) (th : Int32) (J : Nat → Nat → Int32) (p : Nat) (f : Int32) (T : Nat → Int32) (k : Nat) (hn : n ≤ 60) (hC : okC C n) (hM : isR E ad st b sM (tG (mG N P kp C n th J) p f T k)) (hp6 : p ≤ n) : nMi l yX5_stops wsX5_stops (nRm 0 0) E ad st [.ref (ad b)] (fun r s1 => r = 0 ∧ isR E ad s1 b sM (tG (mG N P kp C n th J) p (stF p n) T k) ∧ fr b st s1) := by
  refine nSz (cc := cX5_stops) (maxL := 1) (by decide) rfl (Nat.le_of_ble_eq_true rfl) ?_
  intro pg en s mi ar bw mth cd R Q A ls hx hb hml hown hts hRm hP hK hD hZ hA hl hret
  subst hRm
  have hown : s.vm.findClass RX5 = some mi.cls := hown
  have hS : va_S A s.heap s.heap [] := va_S.rf
  have hl : lv_has ls 1 [(0, .ref (ad b))] := hl
  have hf : fr b st st := fr.rf
  have hM : isR E ad st b sM (gu (gu (gu (gu (mG N P kp C n th J) 7 (fun _ => nI p)) 8 (fun _ => f)) 9 T) 10 (fun _ => nI k)) := hM
  have hinX5 : ∀ w ∈ wsX50, w ∈ wsX5_stops := by decide +kernel
  refine lv_aload_n hx hb dX5_stops_0 rfl (lv_at hl 0 rfl) ?_
  refine lv_aload_n hx hb dX5_stops_1 rfl (lv_at hl 0 rfl) ?_
  refine rg (v := .int (nI p)) (T := TX5) (N := 14) (C := RX5) hx hb hts hinX5 hown hK hP hM rfl 7 (by decide) (hts (.fieldLink RX5 113 "NeedleGridModel" "at" "I") (by decide +kernel)) rfl dX5_stops_2 ?_
  refine lv_aload_n hx hb dX5_stops_5 rfl (lv_at hl 0 rfl) ?_
  refine rg (v := .int (nI n)) (T := TX5) (N := 14) (C := RX5) hx hb hts hinX5 hown hK hP hM rfl 5 (by decide) (hts (.fieldLink RX5 110 "NeedleGridModel" "typed" "I") (by decide +kernel)) rfl dX5_stops_6 ?_
  refine lv_icmp_ge (tgt := 16) hx hb dX5_stops_9 (by decide) (fun c9_0 => ?_) (fun c9_0 => ?_)
  · have hge : n ≤ p := (nI_leI (by omega) (by omega)).mp c9_0
    refine lv_iconst (v := 0) hx hb dX5_stops_16 (by decide) ?_
    refine rp (v := 0) (ty := .boolean) (T := TX5) (N := 14) (C := RX5) hx hb hts hinX5 tyX5 tyX5_ok nmX5 hown hK hP hD hS hM rfl 8 (by decide) (hts (.fieldLink RX5 116 "NeedleGridModel" "isFault" "Z") (by decide +kernel)) rfl rfl (by decide +kernel) (by rcases (show (0 : Int32) = 0 ∨ (0 : Int32) = 1 from (by first | exact Or.inl rfl | exact Or.inr rfl | assumption)) with h9 | h9 <;> rw [h9] <;> rfl) (by rcases (show (0 : Int32) = 0 ∨ (0 : Int32) = 1 from (by first | exact Or.inl rfl | exact Or.inr rfl | assumption)) with h9 | h9 <;> rw [h9] <;> rfl) dX5_stops_17 (fun s_2 H locs hM hf_3 hP hD hS => ?_)
    have hf := hf.tr hf_3
    have hM : isR E ad s_2 b sM (gu (gu (gu (gu (mG N P kp C n th J) 7 (fun _ => nI p)) 9 T) 10 (fun _ => nI k)) 8 (fun _ => 0)) := hM.eq (all14 rfl rfl rfl rfl rfl rfl rfl rfl rfl rfl rfl rfl rfl rfl)
    refine lv_iconst (v := 0) hx hb dX5_stops_20 (by decide) ?_
    exact hret _ _ _ _ _ _ hP hD hS (⟨rfl, hM.eq (all14 rfl rfl rfl rfl rfl rfl rfl rfl (funext fun _ => (stF_0 hge).symm) rfl rfl rfl rfl rfl), hf⟩) (by first | exact Or.inl rfl | exact Or.inr rfl | assumption) dX5_stops_21
  · have hge : ¬ n ≤ p := mt (nI_leI (a := n) (b := p) (by omega) (by omega)).mpr c9_0
    refine lv_iconst (v := 1) hx hb dX5_stops_12 (by decide) ?_
    refine lv_goto (tgt := 17) hx hb dX5_stops_13 (by decide) ?_
    refine rp (v := 1) (ty := .boolean) (T := TX5) (N := 14) (C := RX5) hx hb hts hinX5 tyX5 tyX5_ok nmX5 hown hK hP hD hS hM rfl 8 (by decide) (hts (.fieldLink RX5 116 "NeedleGridModel" "isFault" "Z") (by decide +kernel)) rfl rfl (by decide +kernel) (by rcases (show (1 : Int32) = 0 ∨ (1 : Int32) = 1 from (by first | exact Or.inl rfl | exact Or.inr rfl | assumption)) with h9 | h9 <;> rw [h9] <;> rfl) (by rcases (show (1 : Int32) = 0 ∨ (1 : Int32) = 1 from (by first | exact Or.inl rfl | exact Or.inr rfl | assumption)) with h9 | h9 <;> rw [h9] <;> rfl) dX5_stops_17 (fun s_4 H locs hM hf_5 hP hD hS => ?_)
    have hf := hf.tr hf_5
    have hM : isR E ad s_4 b sM (gu (gu (gu (gu (mG N P kp C n th J) 7 (fun _ => nI p)) 9 T) 10 (fun _ => nI k)) 8 (fun _ => 1)) := hM.eq (all14 rfl rfl rfl rfl rfl rfl rfl rfl rfl rfl rfl rfl rfl rfl)
    refine lv_iconst (v := 0) hx hb dX5_stops_20 (by decide) ?_
    exact hret _ _ _ _ _ _ hP hD hS (⟨rfl, hM.eq (all14 rfl rfl rfl rfl rfl rfl rfl rfl (funext fun _ => (stF_1 hge).symm) rfl rfl rfl rfl rfl), hf⟩) (by first | exact Or.inl rfl | exact Or.inr rfl | assumption) dX5_stops_21

set_option maxHeartbeats 4000000 in
set_option maxRecDepth 100000 in
theorem m_isPart (l : Launch) (E : NE) (ad : Nat → Nat) (st : NW) (b : Nat) (N P : Nat → Int32) (kp : Nat) (C : Nat → Int32) (n : Nat) (th : Int32) (J : Nat → Nat → Int32) (p : Nat) (f : Int32) (T : Nat → Int32) (k : Nat) (hn : n ≤ 60) (hC : okC C n) (hM : isR E ad st b sM (tG (mG N P kp C n th J) p f T k)) (hk5 : k ≤ 5) (hp : p ≤ n) (hR0 : rdS r00 C p 0 = 0) : nMi l yX5_isPart wsX5_isPart (nRm 2 44) E ad st [.ref (ad b)] (fun r s1 => (r = 0 ∧ (∃ q, prtB C n p q ∧ isR E ad s1 b sM (tG (mG N P kp C n th J) q (stF q n) T k)) ∨ r = 1 ∧ (∃ q c d s, prtY C n p q c d s ∧ isR E ad s1 b sM (tG (mG N P kp C n th J) q f (putT T k c d s) k))) ∧ fr b st s1) := by
  refine nSz (cc := cX5_isPart) (maxL := 4) (by decide) rfl (Nat.le_of_ble_eq_true rfl) ?_
  intro pg en s mi ar bw mth cd R Q A ls hx hb hml hown hts hRm hP hK hD hZ hA hl hret
  subst hRm
  have hown : s.vm.findClass RX5 = some mi.cls := hown
  have hS : va_S A s.heap s.heap [] := va_S.rf
  have hl : lv_has ls 4 [(0, .ref (ad b))] := hl
  have hf : fr b st st := fr.rf
  have hM : isR E ad st b sM (gu (gu (gu (gu (mG N P kp C n th J) 7 (fun _ => nI p)) 8 (fun _ => f)) 9 T) 10 (fun _ => nI k)) := hM
  have hinX5 : ∀ w ∈ wsX50, w ∈ wsX5_isPart := by decide +kernel
  refine lv_iconst (v := 0) hx hb dX5_isPart_0 (by decide) ?_
  refine lv_istore_n (lv' := [(1, .int 0), (0, .ref (ad b))]) hx hb dX5_isPart_1 rfl hl (by decide) rfl (fun ls hl => ?_)
  refine lv_iconst (v := 0) hx hb dX5_isPart_2 (by decide) ?_
  refine lv_istore_n (lv' := [(2, .int 0), (1, .int 0), (0, .ref (ad b))]) hx hb dX5_isPart_3 rfl hl (by decide) rfl (fun ls hl => ?_)
  refine lv_iload_n hx hb dX5_isPart_4 rfl (lv_at hl 0 rfl) ?_
  refine lv_iconst (v := 2) hx hb dX5_isPart_5 (by decide) ?_
  refine lv_icmp_ge (tgt := 67) hx hb dX5_isPart_6 (by decide) (fun c6_0 => absurd c6_0 (by decide)) (fun c6_0 => ?_)
  refine lv_aload_n hx hb dX5_isPart_9 rfl (lv_at hl 2 rfl) ?_
  refine lv_bipush (v := 48) hx hb dX5_isPart_10 (by decide) ?_
  refine lv_bipush (v := 53) hx hb dX5_isPart_12 (by decide) ?_
  refine nVi (As := [.int 48, .int 53]) (rest := _) hx hb hml hown hts hP hK hD hZ hA hS ⟨Nat.zero_le _, Nat.zero_le _⟩ hM.1 rfl (m_isAt l E ad st b N P kp C n th J p f T k hn hC (hM.eq (all14 rfl rfl rfl rfl rfl rfl rfl rfl rfl rfl rfl rfl rfl rfl)) 48 53 (by omega)) (cwV 2 hts gX5_isPart_X5_isAt rfl rfl rfl (by decide +kernel) ⟨Nat.le_of_ble_eq_true rfl, Nat.le_of_ble_eq_true rfl⟩) hl.1 rfl (Nat.le_of_ble_eq_true rfl) dX5_isPart_14 (fun r_2 s_4 H locs hq hP hD hS => ?_)
  obtain ⟨hrr_2, rfl⟩ := hq
  have hrr_2 : r_2 = atV C n p 48 53 := hrr_2
  refine lv_if_ne (tgt := 25) hx hb dX5_isPart_17 (by decide) (fun c17_4 => ?_) (fun c17_4 => ?_)
  · obtain ⟨a0, ha0, x0, g0⟩ := at0 hC (atV_y hrr_2 c17_4) (Or.inl hR0)
    have hp0 := (atV_y hrr_2 c17_4).1
    have q1 : rd1 (rdS r00 C (p + 1)) (rdS r00 C p 1) a0 := tR0 hR0 x0
    refine lv_iload_n hx hb dX5_isPart_25 rfl (lv_at hl 1 rfl) ?_
    refine lv_iload_n hx hb dX5_isPart_26 rfl (lv_at hl 0 rfl) ?_
    refine lv_if_ne (tgt := 34) hx hb dX5_isPart_27 (by decide) (fun c27_5 => absurd (by decide) c27_5) (fun c27_5 => ?_)
    refine lv_iconst (v := 1) hx hb dX5_isPart_30 (by decide) ?_
    refine lv_goto (tgt := 36) hx hb dX5_isPart_31 (by decide) ?_
    refine lv_aload_n hx hb dX5_isPart_36 rfl (lv_at hl 2 rfl) ?_
    refine rg (v := .ref (ad (b + 1 + 4))) (T := TX5) (N := 14) (C := RX5) hx hb hts hinX5 hown hK hP hM rfl 4 (by decide) (hts (.fieldLink RX5 19 "NeedleGridModel" "text" "[I") (by decide +kernel)) rfl dX5_isPart_37 ?_
    refine lv_aload_n hx hb dX5_isPart_40 rfl (lv_at hl 2 rfl) ?_
    refine rg (v := .int (nI p)) (T := TX5) (N := 14) (C := RX5) hx hb hts hinX5 hown hK hP hM rfl 7 (by decide) (hts (.fieldLink RX5 113 "NeedleGridModel" "at" "I") (by decide +kernel)) rfl dX5_isPart_41 ?_
    refine ra (j := p) (n := 60) hx hb hK hP hM 4 rfl (by omega) (by decide) dX5_isPart_44 ?_
    refine lv_bipush (v := 48) hx hb dX5_isPart_45 (by decide) ?_
    refine lv_isub hx hb dX5_isPart_47 ?_
    refine lv_imul hx hb dX5_isPart_48 ?_
    refine lv_iadd hx hb dX5_isPart_49 ?_
    refine lv_topi (fun x1_50 ex1_50 => ?_)
    have ex1_50 : x1_50 = 0 + (1 * ((C p) - 48)) := ex1_50
    refine lv_istore_n (lv' := [(1, .int x1_50), (2, .int 0), (0, .ref (ad b))]) hx hb dX5_isPart_50 rfl hl (by decide) rfl (fun ls hl => ?_)
    refine lv_aload_n hx hb dX5_isPart_51 rfl (lv_at hl 2 rfl) ?_
    refine lv_dup hx hb dX5_isPart_52 rfl ?_
    refine rg (v := .int (nI p)) (T := TX5) (N := 14) (C := RX5) hx hb hts hinX5 hown hK hP hM rfl 7 (by decide) (hts (.fieldLink RX5 113 "NeedleGridModel" "at" "I") (by decide +kernel)) rfl dX5_isPart_53 ?_
    refine lv_iconst (v := 1) hx hb dX5_isPart_56 (by decide) ?_
    refine lv_iadd hx hb dX5_isPart_57 ?_
    rw [nI_1]
    refine rp (v := nI (p + 1)) (ty := .int) (T := TX5) (N := 14) (C := RX5) hx hb hts hinX5 tyX5 tyX5_ok nmX5 hown hK hP hD hS hM rfl 7 (by decide) (hts (.fieldLink RX5 113 "NeedleGridModel" "at" "I") (by decide +kernel)) rfl rfl (by decide +kernel) rfl rfl dX5_isPart_58 (fun s_7 H locs hM hf_8 hP hD hS => ?_)
    have hf := hf.tr hf_8
    have hM : isR E ad s_7 b sM (gu (gu (gu (gu (mG N P kp C n th J) 8 (fun _ => f)) 9 T) 10 (fun _ => nI k)) 7 (fun _ => nI (p + 1))) := hM.eq (all14 rfl rfl rfl rfl rfl rfl rfl rfl rfl rfl rfl rfl rfl rfl)
    refine lv_iinc (v := 1) (lv' := [(2, .int 1), (1, .int x1_50), (0, .ref (ad b))]) hx hb dX5_isPart_61 hl (k := 1) rfl (rfl) (by decide) rfl (fun ls hl => ?_)
    refine lv_goto (tgt := 4) hx hb dX5_isPart_64 (by decide) ?_
    refine lv_iload_n hx hb dX5_isPart_4 rfl (lv_at hl 0 rfl) ?_
    refine lv_iconst (v := 2) hx hb dX5_isPart_5 (by decide) ?_
    refine lv_icmp_ge (tgt := 67) hx hb dX5_isPart_6 (by decide) (fun c6_8 => absurd c6_8 (by decide)) (fun c6_8 => ?_)
    refine lv_aload_n hx hb dX5_isPart_9 rfl (lv_at hl 2 rfl) ?_
    refine lv_bipush (v := 48) hx hb dX5_isPart_10 (by decide) ?_
    refine lv_bipush (v := 53) hx hb dX5_isPart_12 (by decide) ?_
    refine nVi (As := [.int 48, .int 53]) (rest := _) hx hb hml hown hts hP hK hD hZ hA hS ⟨Nat.zero_le _, Nat.zero_le _⟩ hM.1 rfl (m_isAt l E ad s_7 b N P kp C n th J (p + 1) f T k hn hC (hM.eq (all14 rfl rfl rfl rfl rfl rfl rfl rfl rfl rfl rfl rfl rfl rfl)) 48 53 (by omega)) (cwV 2 hts gX5_isPart_X5_isAt rfl rfl rfl (by decide +kernel) ⟨Nat.le_of_ble_eq_true rfl, Nat.le_of_ble_eq_true rfl⟩) hl.1 rfl (Nat.le_of_ble_eq_true rfl) dX5_isPart_14 (fun r_10 s_12 H locs hq hP hD hS => ?_)
    obtain ⟨hrr_10, rfl⟩ := hq
    have hrr_10 : r_10 = atV C n (p + 1) 48 53 := hrr_10
    refine lv_if_ne (tgt := 25) hx hb dX5_isPart_17 (by decide) (fun c17_12 => ?_) (fun c17_12 => ?_)
    · obtain ⟨a1, ha1, x1, g1⟩ := at0 hC (atV_y hrr_10 c17_12) (Or.inr q1.1)
      have hp1 := (atV_y hrr_10 c17_12).1
      have q2 : rd2 (rdS r00 C (p + 1 + 1)) (rdS r00 C p 1) a0 a1 := tR1 q1 x1
      refine lv_iload_n hx hb dX5_isPart_25 rfl (lv_at hl 1 rfl) ?_
      refine lv_iload_n hx hb dX5_isPart_26 rfl (lv_at hl 0 rfl) ?_
      refine lv_if_ne (tgt := 34) hx hb dX5_isPart_27 (by decide) (fun c27_13 => ?_) (fun c27_13 => absurd c27_13 (by decide))
      refine lv_bipush (v := 6) hx hb dX5_isPart_34 (by decide) ?_
      refine lv_aload_n hx hb dX5_isPart_36 rfl (lv_at hl 2 rfl) ?_
      refine rg (v := .ref (ad (b + 1 + 4))) (T := TX5) (N := 14) (C := RX5) hx hb hts hinX5 hown hK hP hM rfl 4 (by decide) (hts (.fieldLink RX5 19 "NeedleGridModel" "text" "[I") (by decide +kernel)) rfl dX5_isPart_37 ?_
      refine lv_aload_n hx hb dX5_isPart_40 rfl (lv_at hl 2 rfl) ?_
      refine rg (v := .int (nI (p + 1))) (T := TX5) (N := 14) (C := RX5) hx hb hts hinX5 hown hK hP hM rfl 7 (by decide) (hts (.fieldLink RX5 113 "NeedleGridModel" "at" "I") (by decide +kernel)) rfl dX5_isPart_41 ?_
      refine ra (j := (p + 1)) (n := 60) hx hb hK hP hM 4 rfl (by omega) (by decide) dX5_isPart_44 ?_
      refine lv_bipush (v := 48) hx hb dX5_isPart_45 (by decide) ?_
      refine lv_isub hx hb dX5_isPart_47 ?_
      refine lv_imul hx hb dX5_isPart_48 ?_
      refine lv_iadd hx hb dX5_isPart_49 ?_
      refine lv_topi (fun x1_50b ex1_50b => ?_)
      have ex1_50b : x1_50b = x1_50 + (6 * ((C (p + 1)) - 48)) := ex1_50b
      refine lv_istore_n (lv' := [(1, .int x1_50b), (2, .int 1), (0, .ref (ad b))]) hx hb dX5_isPart_50 rfl hl (by decide) rfl (fun ls hl => ?_)
      refine lv_aload_n hx hb dX5_isPart_51 rfl (lv_at hl 2 rfl) ?_
      refine lv_dup hx hb dX5_isPart_52 rfl ?_
      refine rg (v := .int (nI (p + 1))) (T := TX5) (N := 14) (C := RX5) hx hb hts hinX5 hown hK hP hM rfl 7 (by decide) (hts (.fieldLink RX5 113 "NeedleGridModel" "at" "I") (by decide +kernel)) rfl dX5_isPart_53 ?_
      refine lv_iconst (v := 1) hx hb dX5_isPart_56 (by decide) ?_
      refine lv_iadd hx hb dX5_isPart_57 ?_
      rw [nI_1]
      refine rp (v := nI ((p + 1) + 1)) (ty := .int) (T := TX5) (N := 14) (C := RX5) hx hb hts hinX5 tyX5 tyX5_ok nmX5 hown hK hP hD hS hM rfl 7 (by decide) (hts (.fieldLink RX5 113 "NeedleGridModel" "at" "I") (by decide +kernel)) rfl rfl (by decide +kernel) rfl rfl dX5_isPart_58 (fun s_15 H locs hM hf_16 hP hD hS => ?_)
      have hf := hf.tr hf_16
      have hM : isR E ad s_15 b sM (gu (gu (gu (gu (mG N P kp C n th J) 8 (fun _ => f)) 9 T) 10 (fun _ => nI k)) 7 (fun _ => nI ((p + 1) + 1))) := hM.eq (all14 rfl rfl rfl rfl rfl rfl rfl rfl rfl rfl rfl rfl rfl rfl)
      refine lv_iinc (v := 2) (lv' := [(2, .int 2), (1, .int x1_50b), (0, .ref (ad b))]) hx hb dX5_isPart_61 hl (k := 1) rfl (rfl) (by decide) rfl (fun ls hl => ?_)
      refine lv_goto (tgt := 4) hx hb dX5_isPart_64 (by decide) ?_
      refine lv_iload_n hx hb dX5_isPart_4 rfl (lv_at hl 0 rfl) ?_
      refine lv_iconst (v := 2) hx hb dX5_isPart_5 (by decide) ?_
      refine lv_icmp_ge (tgt := 67) hx hb dX5_isPart_6 (by decide) (fun c6_16 => ?_) (fun c6_16 => absurd (by decide) c6_16)
      refine lv_aload_n hx hb dX5_isPart_67 rfl (lv_at hl 2 rfl) ?_
      refine lv_bipush (v := 97) hx hb dX5_isPart_68 (by decide) ?_
      refine lv_bipush (v := 104) hx hb dX5_isPart_70 (by decide) ?_
      refine nVi (As := [.int 97, .int 104]) (rest := _) hx hb hml hown hts hP hK hD hZ hA hS ⟨Nat.zero_le _, Nat.zero_le _⟩ hM.1 rfl (m_isAt l E ad s_15 b N P kp C n th J ((p + 1) + 1) f T k hn hC (hM.eq (all14 rfl rfl rfl rfl rfl rfl rfl rfl rfl rfl rfl rfl rfl rfl)) 97 104 (by omega)) (cwV 2 hts gX5_isPart_X5_isAt rfl rfl rfl (by decide +kernel) ⟨Nat.le_of_ble_eq_true rfl, Nat.le_of_ble_eq_true rfl⟩) hl.1 rfl (Nat.le_of_ble_eq_true rfl) dX5_isPart_72 (fun r_18 s_20 H locs hq hP hD hS => ?_)
      obtain ⟨hrr_18, rfl⟩ := hq
      have hrr_18 : r_18 = atV C n ((p + 1) + 1) 97 104 := hrr_18
      refine lv_if_ne (tgt := 83) hx hb dX5_isPart_75 (by decide) (fun c75_20 => ?_) (fun c75_20 => ?_)
      · obtain ⟨a2, ha2, x2, g2⟩ := at2 hC (atV_y hrr_18 c75_20) q2.1
        have hp2 := (atV_y hrr_18 c75_20).1
        have q3 : rd3 (rdS r00 C (p + 1 + 1 + 1)) (rdS r00 C p 1) a0 a1 a2 := tR2 q2 x2
        refine lv_aload_n hx hb dX5_isPart_83 rfl (lv_at hl 2 rfl) ?_
        refine rg (v := .ref (ad (b + 1 + 4))) (T := TX5) (N := 14) (C := RX5) hx hb hts hinX5 hown hK hP hM rfl 4 (by decide) (hts (.fieldLink RX5 19 "NeedleGridModel" "text" "[I") (by decide +kernel)) rfl dX5_isPart_84 ?_
        refine lv_aload_n hx hb dX5_isPart_87 rfl (lv_at hl 2 rfl) ?_
        refine rg (v := .int (nI ((p + 1) + 1))) (T := TX5) (N := 14) (C := RX5) hx hb hts hinX5 hown hK hP hM rfl 7 (by decide) (hts (.fieldLink RX5 113 "NeedleGridModel" "at" "I") (by decide +kernel)) rfl dX5_isPart_88 ?_
        refine ra (j := ((p + 1) + 1)) (n := 60) hx hb hK hP hM 4 rfl (by omega) (by decide) dX5_isPart_91 ?_
        refine lv_bipush (v := 97) hx hb dX5_isPart_92 (by decide) ?_
        refine lv_isub hx hb dX5_isPart_94 ?_
        refine lv_topi (fun x2_95 ex2_95 => ?_)
        have ex2_95 : x2_95 = (C ((p + 1) + 1)) - 97 := ex2_95
        refine lv_istore_n (lv' := [(2, .int x2_95), (1, .int x1_50b), (0, .ref (ad b))]) hx hb dX5_isPart_95 rfl hl (by decide) rfl (fun ls hl => ?_)
        refine lv_aload_n hx hb dX5_isPart_96 rfl (lv_at hl 2 rfl) ?_
        refine lv_dup hx hb dX5_isPart_97 rfl ?_
        refine rg (v := .int (nI ((p + 1) + 1))) (T := TX5) (N := 14) (C := RX5) hx hb hts hinX5 hown hK hP hM rfl 7 (by decide) (hts (.fieldLink RX5 113 "NeedleGridModel" "at" "I") (by decide +kernel)) rfl dX5_isPart_98 ?_
        refine lv_iconst (v := 1) hx hb dX5_isPart_101 (by decide) ?_
        refine lv_iadd hx hb dX5_isPart_102 ?_
        rw [nI_1]
        refine rp (v := nI (((p + 1) + 1) + 1)) (ty := .int) (T := TX5) (N := 14) (C := RX5) hx hb hts hinX5 tyX5 tyX5_ok nmX5 hown hK hP hD hS hM rfl 7 (by decide) (hts (.fieldLink RX5 113 "NeedleGridModel" "at" "I") (by decide +kernel)) rfl rfl (by decide +kernel) rfl rfl dX5_isPart_103 (fun s_22 H locs hM hf_23 hP hD hS => ?_)
        have hf := hf.tr hf_23
        have hM : isR E ad s_22 b sM (gu (gu (gu (gu (mG N P kp C n th J) 8 (fun _ => f)) 9 T) 10 (fun _ => nI k)) 7 (fun _ => nI (((p + 1) + 1) + 1))) := hM.eq (all14 rfl rfl rfl rfl rfl rfl rfl rfl rfl rfl rfl rfl rfl rfl)
        refine lv_aload_n hx hb dX5_isPart_106 rfl (lv_at hl 2 rfl) ?_
        refine lv_bipush (v := 49) hx hb dX5_isPart_107 (by decide) ?_
        refine lv_bipush (v := 57) hx hb dX5_isPart_109 (by decide) ?_
        refine nVi (As := [.int 49, .int 57]) (rest := _) hx hb hml hown hts hP hK hD hZ hA hS ⟨Nat.zero_le _, Nat.zero_le _⟩ hM.1 rfl (m_isAt l E ad s_22 b N P kp C n th J (((p + 1) + 1) + 1) f T k hn hC (hM.eq (all14 rfl rfl rfl rfl rfl rfl rfl rfl rfl rfl rfl rfl rfl rfl)) 49 57 (by omega)) (cwV 2 hts gX5_isPart_X5_isAt rfl rfl rfl (by decide +kernel) ⟨Nat.le_of_ble_eq_true rfl, Nat.le_of_ble_eq_true rfl⟩) hl.1 rfl (Nat.le_of_ble_eq_true rfl) dX5_isPart_111 (fun r_24 s_26 H locs hq hP hD hS => ?_)
        obtain ⟨hrr_24, rfl⟩ := hq
        have hrr_24 : r_24 = atV C n (((p + 1) + 1) + 1) 49 57 := hrr_24
        refine lv_if_ne (tgt := 122) hx hb dX5_isPart_114 (by decide) (fun c114_26 => ?_) (fun c114_26 => ?_)
        · obtain ⟨a3, ha3, x3, g3⟩ := at3 hC (atV_y hrr_24 c114_26) q3.1
          have hp3 := (atV_y hrr_24 c114_26).1
          have q4 : rd4 (rdS r00 C (p + 1 + 1 + 1 + 1)) (rdS r00 C p 1) a0 a1 a2 (a3 + 1) := tR3 q3 x3
          refine lv_aload_n hx hb dX5_isPart_122 rfl (lv_at hl 2 rfl) ?_
          refine rg (v := .ref (ad (b + 1 + 4))) (T := TX5) (N := 14) (C := RX5) hx hb hts hinX5 hown hK hP hM rfl 4 (by decide) (hts (.fieldLink RX5 19 "NeedleGridModel" "text" "[I") (by decide +kernel)) rfl dX5_isPart_123 ?_
          refine lv_aload_n hx hb dX5_isPart_126 rfl (lv_at hl 2 rfl) ?_
          refine rg (v := .int (nI (((p + 1) + 1) + 1))) (T := TX5) (N := 14) (C := RX5) hx hb hts hinX5 hown hK hP hM rfl 7 (by decide) (hts (.fieldLink RX5 113 "NeedleGridModel" "at" "I") (by decide +kernel)) rfl dX5_isPart_127 ?_
          refine ra (j := (((p + 1) + 1) + 1)) (n := 60) hx hb hK hP hM 4 rfl (by omega) (by decide) dX5_isPart_130 ?_
          refine lv_bipush (v := 48) hx hb dX5_isPart_131 (by decide) ?_
          refine lv_isub hx hb dX5_isPart_133 ?_
          refine lv_topi (fun x3_134 ex3_134 => ?_)
          have ex3_134 : x3_134 = (C (((p + 1) + 1) + 1)) - 48 := ex3_134
          refine lv_istore_n (lv' := [(3, .int x3_134), (2, .int x2_95), (1, .int x1_50b), (0, .ref (ad b))]) hx hb dX5_isPart_134 rfl hl (by decide) rfl (fun ls hl => ?_)
          refine lv_aload_n hx hb dX5_isPart_135 rfl (lv_at hl 3 rfl) ?_
          refine lv_dup hx hb dX5_isPart_136 rfl ?_
          refine rg (v := .int (nI (((p + 1) + 1) + 1))) (T := TX5) (N := 14) (C := RX5) hx hb hts hinX5 hown hK hP hM rfl 7 (by decide) (hts (.fieldLink RX5 113 "NeedleGridModel" "at" "I") (by decide +kernel)) rfl dX5_isPart_137 ?_
          refine lv_iconst (v := 1) hx hb dX5_isPart_140 (by decide) ?_
          refine lv_iadd hx hb dX5_isPart_141 ?_
          rw [nI_1]
          refine rp (v := nI ((((p + 1) + 1) + 1) + 1)) (ty := .int) (T := TX5) (N := 14) (C := RX5) hx hb hts hinX5 tyX5 tyX5_ok nmX5 hown hK hP hD hS hM rfl 7 (by decide) (hts (.fieldLink RX5 113 "NeedleGridModel" "at" "I") (by decide +kernel)) rfl rfl (by decide +kernel) rfl rfl dX5_isPart_142 (fun s_28 H locs hM hf_29 hP hD hS => ?_)
          have hf := hf.tr hf_29
          have hM : isR E ad s_28 b sM (gu (gu (gu (gu (mG N P kp C n th J) 8 (fun _ => f)) 9 T) 10 (fun _ => nI k)) 7 (fun _ => nI ((((p + 1) + 1) + 1) + 1))) := hM.eq (all14 rfl rfl rfl rfl rfl rfl rfl rfl rfl rfl rfl rfl rfl rfl)
          refine lv_aload_n hx hb dX5_isPart_145 rfl (lv_at hl 3 rfl) ?_
          refine lv_bipush (v := 48) hx hb dX5_isPart_146 (by decide) ?_
          refine lv_bipush (v := 57) hx hb dX5_isPart_148 (by decide) ?_
          refine nVi (As := [.int 48, .int 57]) (rest := _) hx hb hml hown hts hP hK hD hZ hA hS ⟨Nat.zero_le _, Nat.zero_le _⟩ hM.1 rfl (m_isAt l E ad s_28 b N P kp C n th J ((((p + 1) + 1) + 1) + 1) f T k hn hC (hM.eq (all14 rfl rfl rfl rfl rfl rfl rfl rfl rfl rfl rfl rfl rfl rfl)) 48 57 (by omega)) (cwV 2 hts gX5_isPart_X5_isAt rfl rfl rfl (by decide +kernel) ⟨Nat.le_of_ble_eq_true rfl, Nat.le_of_ble_eq_true rfl⟩) hl.1 rfl (Nat.le_of_ble_eq_true rfl) dX5_isPart_150 (fun r_30 s_32 H locs hq hP hD hS => ?_)
          obtain ⟨hrr_30, rfl⟩ := hq
          have hrr_30 : r_30 = atV C n ((((p + 1) + 1) + 1) + 1) 48 57 := hrr_30
          refine lv_if_eq (tgt := 206) hx hb dX5_isPart_153 (by decide) (fun c153_32 => ?_) (fun c153_32 => ?_)
          · have hy := yes4 rfl hp3 ha0 ha1 ha2 ha3 x0 x1 x2 x3 g0 g1 g2 g3 q4 (no4 hC q4.1 (atV_n hrr_30 c153_32))
            refine lv_aload_n hx hb dX5_isPart_206 rfl (lv_at hl 3 rfl) ?_
            refine rg (v := .ref (ad (b + 1 + 9))) (T := TX5) (N := 14) (C := RX5) hx hb hts hinX5 hown hK hP hM rfl 9 (by decide) (hts (.fieldLink RX5 22 "NeedleGridModel" "told" "[I") (by decide +kernel)) rfl dX5_isPart_207 ?_
            refine lv_iconst (v := 3) hx hb dX5_isPart_210 (by decide) ?_
            refine lv_aload_n hx hb dX5_isPart_211 rfl (lv_at hl 3 rfl) ?_
            refine rg (v := .int (nI k)) (T := TX5) (N := 14) (C := RX5) hx hb hts hinX5 hown hK hP hM rfl 10 (by decide) (hts (.fieldLink RX5 127 "NeedleGridModel" "tolds" "I") (by decide +kernel)) rfl dX5_isPart_212 ?_
            refine lv_imul hx hb dX5_isPart_215 ?_
            rw [show 3 * nI k = nI (3 * k) from pk_mul 3 k]
            refine lv_iload_n hx hb dX5_isPart_216 rfl (lv_at hl 2 rfl) ?_
            refine rs (j := (3 * k)) (n := 18) (x := x1_50b) hx hb hK hP hD hS hM 9 rfl (by decide) (by omega) (by decide) dX5_isPart_217 (fun s_34 H locs hM hf_35 hP hD hS => ?_)
            have hf := hf.tr hf_35
            have hM : isR E ad s_34 b sM (gu (gu (gu (gu (mG N P kp C n th J) 8 (fun _ => f)) 10 (fun _ => nI k)) 7 (fun _ => nI ((((p + 1) + 1) + 1) + 1))) 9 (upd T (3 * k) x1_50b)) := hM.eq (all14 rfl rfl rfl rfl rfl rfl rfl rfl rfl rfl rfl rfl rfl rfl)
            refine lv_aload_n hx hb dX5_isPart_218 rfl (lv_at hl 3 rfl) ?_
            refine rg (v := .ref (ad (b + 1 + 9))) (T := TX5) (N := 14) (C := RX5) hx hb hts hinX5 hown hK hP hM rfl 9 (by decide) (hts (.fieldLink RX5 22 "NeedleGridModel" "told" "[I") (by decide +kernel)) rfl dX5_isPart_219 ?_
            refine lv_iconst (v := 3) hx hb dX5_isPart_222 (by decide) ?_
            refine lv_aload_n hx hb dX5_isPart_223 rfl (lv_at hl 3 rfl) ?_
            refine rg (v := .int (nI k)) (T := TX5) (N := 14) (C := RX5) hx hb hts hinX5 hown hK hP hM rfl 10 (by decide) (hts (.fieldLink RX5 127 "NeedleGridModel" "tolds" "I") (by decide +kernel)) rfl dX5_isPart_224 ?_
            refine lv_imul hx hb dX5_isPart_227 ?_
            rw [show 3 * nI k = nI (3 * k) from pk_mul 3 k]
            refine lv_iconst (v := 1) hx hb dX5_isPart_228 (by decide) ?_
            refine lv_iadd hx hb dX5_isPart_229 ?_
            rw [nI_1]
            refine lv_iload_n hx hb dX5_isPart_230 rfl (lv_at hl 1 rfl) ?_
            refine rs (j := ((3 * k) + 1)) (n := 18) (x := x2_95) hx hb hK hP hD hS hM 9 rfl (by decide) (by omega) (by decide) dX5_isPart_231 (fun s_36 H locs hM hf_37 hP hD hS => ?_)
            have hf := hf.tr hf_37
            have hM : isR E ad s_36 b sM (gu (gu (gu (gu (mG N P kp C n th J) 8 (fun _ => f)) 10 (fun _ => nI k)) 7 (fun _ => nI ((((p + 1) + 1) + 1) + 1))) 9 (upd (upd T (3 * k) x1_50b) ((3 * k) + 1) x2_95)) := hM.eq (all14 rfl rfl rfl rfl rfl rfl rfl rfl rfl rfl rfl rfl rfl rfl)
            refine lv_aload_n hx hb dX5_isPart_232 rfl (lv_at hl 3 rfl) ?_
            refine rg (v := .ref (ad (b + 1 + 9))) (T := TX5) (N := 14) (C := RX5) hx hb hts hinX5 hown hK hP hM rfl 9 (by decide) (hts (.fieldLink RX5 22 "NeedleGridModel" "told" "[I") (by decide +kernel)) rfl dX5_isPart_233 ?_
            refine lv_iconst (v := 3) hx hb dX5_isPart_236 (by decide) ?_
            refine lv_aload_n hx hb dX5_isPart_237 rfl (lv_at hl 3 rfl) ?_
            refine rg (v := .int (nI k)) (T := TX5) (N := 14) (C := RX5) hx hb hts hinX5 hown hK hP hM rfl 10 (by decide) (hts (.fieldLink RX5 127 "NeedleGridModel" "tolds" "I") (by decide +kernel)) rfl dX5_isPart_238 ?_
            refine lv_imul hx hb dX5_isPart_241 ?_
            rw [show 3 * nI k = nI (3 * k) from pk_mul 3 k]
            refine lv_iconst (v := 2) hx hb dX5_isPart_242 (by decide) ?_
            refine lv_iadd hx hb dX5_isPart_243 ?_
            rw [show nI (3 * k) + 2 = nI ((3 * k) + 2) from nI_add (3 * k) 2]
            refine lv_iload_n hx hb dX5_isPart_244 rfl (lv_at hl 0 rfl) ?_
            refine rs (j := ((3 * k) + 2)) (n := 18) (x := x3_134) hx hb hK hP hD hS hM 9 rfl (by decide) (by omega) (by decide) dX5_isPart_245 (fun s_38 H locs hM hf_39 hP hD hS => ?_)
            have hf := hf.tr hf_39
            have hM : isR E ad s_38 b sM (gu (gu (gu (gu (mG N P kp C n th J) 8 (fun _ => f)) 10 (fun _ => nI k)) 7 (fun _ => nI ((((p + 1) + 1) + 1) + 1))) 9 (upd (upd (upd T (3 * k) x1_50b) ((3 * k) + 1) x2_95) ((3 * k) + 2) x3_134)) := hM.eq (all14 rfl rfl rfl rfl rfl rfl rfl rfl rfl rfl rfl rfl rfl rfl)
            refine lv_iconst (v := 1) hx hb dX5_isPart_246 (by decide) ?_
            have hcell : x1_50b = nI (a0 + 6 * a1) := by rw [ex1_50b, ex1_50, x0, x1]; exact cel_sum
            have hdir : x2_95 = nI a2 := by rw [ex2_95, x2, sub97]
            have hstr : x3_134 = nI (a3 + 1) := by rw [ex3_134, x3, sub49]
            have h9 : upd (upd (upd T (3 * k) x1_50b) ((3 * k) + 1) x2_95) ((3 * k) + 2) x3_134 = putT T k (a0 + 6 * a1) a2 (a3 + 1) := by rw [hcell, hdir, hstr]; rfl
            exact hret _ _ _ _ _ _ hP hD hS (⟨Or.inr ⟨rfl, (((p + 1) + 1) + 1) + 1, a0 + 6 * a1, a2, (a3 + 1), hy, hM.eq (all14 rfl rfl rfl rfl rfl rfl rfl rfl rfl h9 rfl rfl rfl rfl)⟩, hf⟩) (by first | exact Or.inl rfl | exact Or.inr rfl | assumption) dX5_isPart_247
          · obtain ⟨a4, ha4, x4⟩ := at4 hC (atV_y hrr_30 c153_32)
            have hp4 := (atV_y hrr_30 c153_32).1
            refine lv_bipush (v := 10) hx hb dX5_isPart_156 (by decide) ?_
            refine lv_iload_n hx hb dX5_isPart_158 rfl (lv_at hl 0 rfl) ?_
            refine lv_imul hx hb dX5_isPart_159 ?_
            refine lv_aload_n hx hb dX5_isPart_160 rfl (lv_at hl 3 rfl) ?_
            refine rg (v := .ref (ad (b + 1 + 4))) (T := TX5) (N := 14) (C := RX5) hx hb hts hinX5 hown hK hP hM rfl 4 (by decide) (hts (.fieldLink RX5 19 "NeedleGridModel" "text" "[I") (by decide +kernel)) rfl dX5_isPart_161 ?_
            refine lv_aload_n hx hb dX5_isPart_164 rfl (lv_at hl 3 rfl) ?_
            refine rg (v := .int (nI ((((p + 1) + 1) + 1) + 1))) (T := TX5) (N := 14) (C := RX5) hx hb hts hinX5 hown hK hP hM rfl 7 (by decide) (hts (.fieldLink RX5 113 "NeedleGridModel" "at" "I") (by decide +kernel)) rfl dX5_isPart_165 ?_
            refine ra (j := ((((p + 1) + 1) + 1) + 1)) (n := 60) hx hb hK hP hM 4 rfl (by omega) (by decide) dX5_isPart_168 ?_
            refine lv_iadd hx hb dX5_isPart_169 ?_
            refine lv_bipush (v := 48) hx hb dX5_isPart_170 (by decide) ?_
            refine lv_isub hx hb dX5_isPart_172 ?_
            refine lv_bipush (v := 50) hx hb dX5_isPart_173 (by decide) ?_
            refine lv_icmp_gt (tgt := 206) hx hb dX5_isPart_175 (by decide) (fun c175_39 => ?_) (fun c175_39 => ?_)
            · have c175_39 : 50 < (((10 * x3_134) + (C ((((p + 1) + 1) + 1) + 1))) - 48) := c175_39
              have hv : 10 * x3_134 + C (p + 1 + 1 + 1 + 1) - 48 = nI (10 * (a3 + 1) + a4) := by rw [ex3_134, x3, sub49, x4]; exact ten_sum
              rw [hv] at c175_39
              have hbig := big4 q4 ha4 (by omega) x4 ((nI_ltI (a := 50) (by omega) (by omega)).mp c175_39)
              have hy := yes4 rfl hp3 ha0 ha1 ha2 ha3 x0 x1 x2 x3 g0 g1 g2 g3 q4 (fun _ _ => hbig)
              refine lv_aload_n hx hb dX5_isPart_206 rfl (lv_at hl 3 rfl) ?_
              refine rg (v := .ref (ad (b + 1 + 9))) (T := TX5) (N := 14) (C := RX5) hx hb hts hinX5 hown hK hP hM rfl 9 (by decide) (hts (.fieldLink RX5 22 "NeedleGridModel" "told" "[I") (by decide +kernel)) rfl dX5_isPart_207 ?_
              refine lv_iconst (v := 3) hx hb dX5_isPart_210 (by decide) ?_
              refine lv_aload_n hx hb dX5_isPart_211 rfl (lv_at hl 3 rfl) ?_
              refine rg (v := .int (nI k)) (T := TX5) (N := 14) (C := RX5) hx hb hts hinX5 hown hK hP hM rfl 10 (by decide) (hts (.fieldLink RX5 127 "NeedleGridModel" "tolds" "I") (by decide +kernel)) rfl dX5_isPart_212 ?_
              refine lv_imul hx hb dX5_isPart_215 ?_
              rw [show 3 * nI k = nI (3 * k) from pk_mul 3 k]
              refine lv_iload_n hx hb dX5_isPart_216 rfl (lv_at hl 2 rfl) ?_
              refine rs (j := (3 * k)) (n := 18) (x := x1_50b) hx hb hK hP hD hS hM 9 rfl (by decide) (by omega) (by decide) dX5_isPart_217 (fun s_41 H locs hM hf_42 hP hD hS => ?_)
              have hf := hf.tr hf_42
              have hM : isR E ad s_41 b sM (gu (gu (gu (gu (mG N P kp C n th J) 8 (fun _ => f)) 10 (fun _ => nI k)) 7 (fun _ => nI ((((p + 1) + 1) + 1) + 1))) 9 (upd T (3 * k) x1_50b)) := hM.eq (all14 rfl rfl rfl rfl rfl rfl rfl rfl rfl rfl rfl rfl rfl rfl)
              refine lv_aload_n hx hb dX5_isPart_218 rfl (lv_at hl 3 rfl) ?_
              refine rg (v := .ref (ad (b + 1 + 9))) (T := TX5) (N := 14) (C := RX5) hx hb hts hinX5 hown hK hP hM rfl 9 (by decide) (hts (.fieldLink RX5 22 "NeedleGridModel" "told" "[I") (by decide +kernel)) rfl dX5_isPart_219 ?_
              refine lv_iconst (v := 3) hx hb dX5_isPart_222 (by decide) ?_
              refine lv_aload_n hx hb dX5_isPart_223 rfl (lv_at hl 3 rfl) ?_
              refine rg (v := .int (nI k)) (T := TX5) (N := 14) (C := RX5) hx hb hts hinX5 hown hK hP hM rfl 10 (by decide) (hts (.fieldLink RX5 127 "NeedleGridModel" "tolds" "I") (by decide +kernel)) rfl dX5_isPart_224 ?_
              refine lv_imul hx hb dX5_isPart_227 ?_
              rw [show 3 * nI k = nI (3 * k) from pk_mul 3 k]
              refine lv_iconst (v := 1) hx hb dX5_isPart_228 (by decide) ?_
              refine lv_iadd hx hb dX5_isPart_229 ?_
              rw [nI_1]
              refine lv_iload_n hx hb dX5_isPart_230 rfl (lv_at hl 1 rfl) ?_
              refine rs (j := ((3 * k) + 1)) (n := 18) (x := x2_95) hx hb hK hP hD hS hM 9 rfl (by decide) (by omega) (by decide) dX5_isPart_231 (fun s_43 H locs hM hf_44 hP hD hS => ?_)
              have hf := hf.tr hf_44
              have hM : isR E ad s_43 b sM (gu (gu (gu (gu (mG N P kp C n th J) 8 (fun _ => f)) 10 (fun _ => nI k)) 7 (fun _ => nI ((((p + 1) + 1) + 1) + 1))) 9 (upd (upd T (3 * k) x1_50b) ((3 * k) + 1) x2_95)) := hM.eq (all14 rfl rfl rfl rfl rfl rfl rfl rfl rfl rfl rfl rfl rfl rfl)
              refine lv_aload_n hx hb dX5_isPart_232 rfl (lv_at hl 3 rfl) ?_
              refine rg (v := .ref (ad (b + 1 + 9))) (T := TX5) (N := 14) (C := RX5) hx hb hts hinX5 hown hK hP hM rfl 9 (by decide) (hts (.fieldLink RX5 22 "NeedleGridModel" "told" "[I") (by decide +kernel)) rfl dX5_isPart_233 ?_
              refine lv_iconst (v := 3) hx hb dX5_isPart_236 (by decide) ?_
              refine lv_aload_n hx hb dX5_isPart_237 rfl (lv_at hl 3 rfl) ?_
              refine rg (v := .int (nI k)) (T := TX5) (N := 14) (C := RX5) hx hb hts hinX5 hown hK hP hM rfl 10 (by decide) (hts (.fieldLink RX5 127 "NeedleGridModel" "tolds" "I") (by decide +kernel)) rfl dX5_isPart_238 ?_
              refine lv_imul hx hb dX5_isPart_241 ?_
              rw [show 3 * nI k = nI (3 * k) from pk_mul 3 k]
              refine lv_iconst (v := 2) hx hb dX5_isPart_242 (by decide) ?_
              refine lv_iadd hx hb dX5_isPart_243 ?_
              rw [show nI (3 * k) + 2 = nI ((3 * k) + 2) from nI_add (3 * k) 2]
              refine lv_iload_n hx hb dX5_isPart_244 rfl (lv_at hl 0 rfl) ?_
              refine rs (j := ((3 * k) + 2)) (n := 18) (x := x3_134) hx hb hK hP hD hS hM 9 rfl (by decide) (by omega) (by decide) dX5_isPart_245 (fun s_45 H locs hM hf_46 hP hD hS => ?_)
              have hf := hf.tr hf_46
              have hM : isR E ad s_45 b sM (gu (gu (gu (gu (mG N P kp C n th J) 8 (fun _ => f)) 10 (fun _ => nI k)) 7 (fun _ => nI ((((p + 1) + 1) + 1) + 1))) 9 (upd (upd (upd T (3 * k) x1_50b) ((3 * k) + 1) x2_95) ((3 * k) + 2) x3_134)) := hM.eq (all14 rfl rfl rfl rfl rfl rfl rfl rfl rfl rfl rfl rfl rfl rfl)
              refine lv_iconst (v := 1) hx hb dX5_isPart_246 (by decide) ?_
              have hcell : x1_50b = nI (a0 + 6 * a1) := by rw [ex1_50b, ex1_50, x0, x1]; exact cel_sum
              have hdir : x2_95 = nI a2 := by rw [ex2_95, x2, sub97]
              have hstr : x3_134 = nI (a3 + 1) := by rw [ex3_134, x3, sub49]
              have h9 : upd (upd (upd T (3 * k) x1_50b) ((3 * k) + 1) x2_95) ((3 * k) + 2) x3_134 = putT T k (a0 + 6 * a1) a2 (a3 + 1) := by rw [hcell, hdir, hstr]; rfl
              exact hret _ _ _ _ _ _ hP hD hS (⟨Or.inr ⟨rfl, (((p + 1) + 1) + 1) + 1, a0 + 6 * a1, a2, (a3 + 1), hy, hM.eq (all14 rfl rfl rfl rfl rfl rfl rfl rfl rfl h9 rfl rfl rfl rfl)⟩, hf⟩) (by first | exact Or.inl rfl | exact Or.inr rfl | assumption) dX5_isPart_247
            · have c175_39 : ¬ 50 < (((10 * x3_134) + (C ((((p + 1) + 1) + 1) + 1))) - 48) := c175_39
              have hv : 10 * x3_134 + C (p + 1 + 1 + 1 + 1) - 48 = nI (10 * (a3 + 1) + a4) := by rw [ex3_134, x3, sub49, x4]; exact ten_sum
              rw [hv] at c175_39
              have hsz : 10 * (a3 + 1) + a4 ≤ 50 := by have := mt (nI_ltI (a := 50) (b := 10 * (a3 + 1) + a4) (by omega) (by omega)).mpr c175_39; omega
              have hy := yes5 rfl hC hp4 ha0 ha1 ha2 ha3 ha4 hsz x0 x1 x2 x3 x4 g0 g1 g2 g3 q4
              refine lv_bipush (v := 10) hx hb dX5_isPart_178 (by decide) ?_
              refine lv_iload_n hx hb dX5_isPart_180 rfl (lv_at hl 0 rfl) ?_
              refine lv_imul hx hb dX5_isPart_181 ?_
              refine lv_aload_n hx hb dX5_isPart_182 rfl (lv_at hl 3 rfl) ?_
              refine rg (v := .ref (ad (b + 1 + 4))) (T := TX5) (N := 14) (C := RX5) hx hb hts hinX5 hown hK hP hM rfl 4 (by decide) (hts (.fieldLink RX5 19 "NeedleGridModel" "text" "[I") (by decide +kernel)) rfl dX5_isPart_183 ?_
              refine lv_aload_n hx hb dX5_isPart_186 rfl (lv_at hl 3 rfl) ?_
              refine rg (v := .int (nI ((((p + 1) + 1) + 1) + 1))) (T := TX5) (N := 14) (C := RX5) hx hb hts hinX5 hown hK hP hM rfl 7 (by decide) (hts (.fieldLink RX5 113 "NeedleGridModel" "at" "I") (by decide +kernel)) rfl dX5_isPart_187 ?_
              refine ra (j := ((((p + 1) + 1) + 1) + 1)) (n := 60) hx hb hK hP hM 4 rfl (by omega) (by decide) dX5_isPart_190 ?_
              refine lv_iadd hx hb dX5_isPart_191 ?_
              refine lv_bipush (v := 48) hx hb dX5_isPart_192 (by decide) ?_
              refine lv_isub hx hb dX5_isPart_194 ?_
              refine lv_topi (fun x3_195 ex3_195 => ?_)
              have ex3_195 : x3_195 = ((10 * x3_134) + (C ((((p + 1) + 1) + 1) + 1))) - 48 := ex3_195
              refine lv_istore_n (lv' := [(3, .int x3_195), (2, .int x2_95), (1, .int x1_50b), (0, .ref (ad b))]) hx hb dX5_isPart_195 rfl hl (by decide) rfl (fun ls hl => ?_)
              refine lv_aload_n hx hb dX5_isPart_196 rfl (lv_at hl 3 rfl) ?_
              refine lv_dup hx hb dX5_isPart_197 rfl ?_
              refine rg (v := .int (nI ((((p + 1) + 1) + 1) + 1))) (T := TX5) (N := 14) (C := RX5) hx hb hts hinX5 hown hK hP hM rfl 7 (by decide) (hts (.fieldLink RX5 113 "NeedleGridModel" "at" "I") (by decide +kernel)) rfl dX5_isPart_198 ?_
              refine lv_iconst (v := 1) hx hb dX5_isPart_201 (by decide) ?_
              refine lv_iadd hx hb dX5_isPart_202 ?_
              rw [nI_1]
              refine rp (v := nI (((((p + 1) + 1) + 1) + 1) + 1)) (ty := .int) (T := TX5) (N := 14) (C := RX5) hx hb hts hinX5 tyX5 tyX5_ok nmX5 hown hK hP hD hS hM rfl 7 (by decide) (hts (.fieldLink RX5 113 "NeedleGridModel" "at" "I") (by decide +kernel)) rfl rfl (by decide +kernel) rfl rfl dX5_isPart_203 (fun s_47 H locs hM hf_48 hP hD hS => ?_)
              have hf := hf.tr hf_48
              have hM : isR E ad s_47 b sM (gu (gu (gu (gu (mG N P kp C n th J) 8 (fun _ => f)) 9 T) 10 (fun _ => nI k)) 7 (fun _ => nI (((((p + 1) + 1) + 1) + 1) + 1))) := hM.eq (all14 rfl rfl rfl rfl rfl rfl rfl rfl rfl rfl rfl rfl rfl rfl)
              refine lv_aload_n hx hb dX5_isPart_206 rfl (lv_at hl 3 rfl) ?_
              refine rg (v := .ref (ad (b + 1 + 9))) (T := TX5) (N := 14) (C := RX5) hx hb hts hinX5 hown hK hP hM rfl 9 (by decide) (hts (.fieldLink RX5 22 "NeedleGridModel" "told" "[I") (by decide +kernel)) rfl dX5_isPart_207 ?_
              refine lv_iconst (v := 3) hx hb dX5_isPart_210 (by decide) ?_
              refine lv_aload_n hx hb dX5_isPart_211 rfl (lv_at hl 3 rfl) ?_
              refine rg (v := .int (nI k)) (T := TX5) (N := 14) (C := RX5) hx hb hts hinX5 hown hK hP hM rfl 10 (by decide) (hts (.fieldLink RX5 127 "NeedleGridModel" "tolds" "I") (by decide +kernel)) rfl dX5_isPart_212 ?_
              refine lv_imul hx hb dX5_isPart_215 ?_
              rw [show 3 * nI k = nI (3 * k) from pk_mul 3 k]
              refine lv_iload_n hx hb dX5_isPart_216 rfl (lv_at hl 2 rfl) ?_
              refine rs (j := (3 * k)) (n := 18) (x := x1_50b) hx hb hK hP hD hS hM 9 rfl (by decide) (by omega) (by decide) dX5_isPart_217 (fun s_49 H locs hM hf_50 hP hD hS => ?_)
              have hf := hf.tr hf_50
              have hM : isR E ad s_49 b sM (gu (gu (gu (gu (mG N P kp C n th J) 8 (fun _ => f)) 10 (fun _ => nI k)) 7 (fun _ => nI (((((p + 1) + 1) + 1) + 1) + 1))) 9 (upd T (3 * k) x1_50b)) := hM.eq (all14 rfl rfl rfl rfl rfl rfl rfl rfl rfl rfl rfl rfl rfl rfl)
              refine lv_aload_n hx hb dX5_isPart_218 rfl (lv_at hl 3 rfl) ?_
              refine rg (v := .ref (ad (b + 1 + 9))) (T := TX5) (N := 14) (C := RX5) hx hb hts hinX5 hown hK hP hM rfl 9 (by decide) (hts (.fieldLink RX5 22 "NeedleGridModel" "told" "[I") (by decide +kernel)) rfl dX5_isPart_219 ?_
              refine lv_iconst (v := 3) hx hb dX5_isPart_222 (by decide) ?_
              refine lv_aload_n hx hb dX5_isPart_223 rfl (lv_at hl 3 rfl) ?_
              refine rg (v := .int (nI k)) (T := TX5) (N := 14) (C := RX5) hx hb hts hinX5 hown hK hP hM rfl 10 (by decide) (hts (.fieldLink RX5 127 "NeedleGridModel" "tolds" "I") (by decide +kernel)) rfl dX5_isPart_224 ?_
              refine lv_imul hx hb dX5_isPart_227 ?_
              rw [show 3 * nI k = nI (3 * k) from pk_mul 3 k]
              refine lv_iconst (v := 1) hx hb dX5_isPart_228 (by decide) ?_
              refine lv_iadd hx hb dX5_isPart_229 ?_
              rw [nI_1]
              refine lv_iload_n hx hb dX5_isPart_230 rfl (lv_at hl 1 rfl) ?_
              refine rs (j := ((3 * k) + 1)) (n := 18) (x := x2_95) hx hb hK hP hD hS hM 9 rfl (by decide) (by omega) (by decide) dX5_isPart_231 (fun s_51 H locs hM hf_52 hP hD hS => ?_)
              have hf := hf.tr hf_52
              have hM : isR E ad s_51 b sM (gu (gu (gu (gu (mG N P kp C n th J) 8 (fun _ => f)) 10 (fun _ => nI k)) 7 (fun _ => nI (((((p + 1) + 1) + 1) + 1) + 1))) 9 (upd (upd T (3 * k) x1_50b) ((3 * k) + 1) x2_95)) := hM.eq (all14 rfl rfl rfl rfl rfl rfl rfl rfl rfl rfl rfl rfl rfl rfl)
              refine lv_aload_n hx hb dX5_isPart_232 rfl (lv_at hl 3 rfl) ?_
              refine rg (v := .ref (ad (b + 1 + 9))) (T := TX5) (N := 14) (C := RX5) hx hb hts hinX5 hown hK hP hM rfl 9 (by decide) (hts (.fieldLink RX5 22 "NeedleGridModel" "told" "[I") (by decide +kernel)) rfl dX5_isPart_233 ?_
              refine lv_iconst (v := 3) hx hb dX5_isPart_236 (by decide) ?_
              refine lv_aload_n hx hb dX5_isPart_237 rfl (lv_at hl 3 rfl) ?_
              refine rg (v := .int (nI k)) (T := TX5) (N := 14) (C := RX5) hx hb hts hinX5 hown hK hP hM rfl 10 (by decide) (hts (.fieldLink RX5 127 "NeedleGridModel" "tolds" "I") (by decide +kernel)) rfl dX5_isPart_238 ?_
              refine lv_imul hx hb dX5_isPart_241 ?_
              rw [show 3 * nI k = nI (3 * k) from pk_mul 3 k]
              refine lv_iconst (v := 2) hx hb dX5_isPart_242 (by decide) ?_
              refine lv_iadd hx hb dX5_isPart_243 ?_
              rw [show nI (3 * k) + 2 = nI ((3 * k) + 2) from nI_add (3 * k) 2]
              refine lv_iload_n hx hb dX5_isPart_244 rfl (lv_at hl 0 rfl) ?_
              refine rs (j := ((3 * k) + 2)) (n := 18) (x := x3_195) hx hb hK hP hD hS hM 9 rfl (by decide) (by omega) (by decide) dX5_isPart_245 (fun s_53 H locs hM hf_54 hP hD hS => ?_)
              have hf := hf.tr hf_54
              have hM : isR E ad s_53 b sM (gu (gu (gu (gu (mG N P kp C n th J) 8 (fun _ => f)) 10 (fun _ => nI k)) 7 (fun _ => nI (((((p + 1) + 1) + 1) + 1) + 1))) 9 (upd (upd (upd T (3 * k) x1_50b) ((3 * k) + 1) x2_95) ((3 * k) + 2) x3_195)) := hM.eq (all14 rfl rfl rfl rfl rfl rfl rfl rfl rfl rfl rfl rfl rfl rfl)
              refine lv_iconst (v := 1) hx hb dX5_isPart_246 (by decide) ?_
              have hcell : x1_50b = nI (a0 + 6 * a1) := by rw [ex1_50b, ex1_50, x0, x1]; exact cel_sum
              have hdir : x2_95 = nI a2 := by rw [ex2_95, x2, sub97]
              have hstr : x3_195 = nI (10 * (a3 + 1) + a4) := by rw [ex3_195]; exact hv
              have h9 : upd (upd (upd T (3 * k) x1_50b) ((3 * k) + 1) x2_95) ((3 * k) + 2) x3_195 = putT T k (a0 + 6 * a1) a2 (10 * (a3 + 1) + a4) := by rw [hcell, hdir, hstr]; rfl
              exact hret _ _ _ _ _ _ hP hD hS (⟨Or.inr ⟨rfl, ((((p + 1) + 1) + 1) + 1) + 1, a0 + 6 * a1, a2, (10 * (a3 + 1) + a4), hy, hM.eq (all14 rfl rfl rfl rfl rfl rfl rfl rfl rfl h9 rfl rfl rfl rfl)⟩, hf⟩) (by first | exact Or.inl rfl | exact Or.inr rfl | assumption) dX5_isPart_247
        · have hbad := bad3 hp2 g0 g1 g2 q3.1 (no3 hC (atV_n hrr_24 c114_26) q3.1)
          refine lv_aload_n hx hb dX5_isPart_117 rfl (lv_at hl 2 rfl) ?_
          refine nVi (As := []) (rest := _) hx hb hml hown hts hP hK hD hZ hA hS ⟨Nat.zero_le _, Nat.zero_le _⟩ hM.1 rfl (m_stops l E ad s_22 b N P kp C n th J (((p + 1) + 1) + 1) f T k hn hC (hM.eq (all14 rfl rfl rfl rfl rfl rfl rfl rfl rfl rfl rfl rfl rfl rfl)) (by omega)) (cwV 0 hts gX5_isPart_X5_stops rfl rfl rfl (by decide +kernel) ⟨Nat.le_of_ble_eq_true rfl, Nat.le_of_ble_eq_true rfl⟩) hl.1 rfl (Nat.le_of_ble_eq_true rfl) dX5_isPart_118 (fun r_55 s_57 H locs hq hP hD hS => ?_)
          obtain ⟨hrr_55, hM, hf_56⟩ := hq
          have hf := hf.tr hf_56
          have hM : isR E ad s_57 b sM (gu (gu (gu (gu (mG N P kp C n th J) 9 T) 10 (fun _ => nI k)) 7 (fun _ => nI (((p + 1) + 1) + 1))) 8 (fun _ => stF (((p + 1) + 1) + 1) n)) := hM.eq (all14 rfl rfl rfl rfl rfl rfl rfl rfl rfl rfl rfl rfl rfl rfl)
          exact hret _ _ _ _ _ _ hP hD hS (⟨Or.inl ⟨hrr_55, ((p + 1) + 1) + 1, hbad, hM.eq (all14 rfl rfl rfl rfl rfl rfl rfl rfl rfl rfl rfl rfl rfl rfl)⟩, hf⟩) (Or.inl hrr_55) dX5_isPart_121
      · have hbad := bad2 hp1 g0 g1 q2.1 (no2 hC (atV_n hrr_18 c75_20) q2.1)
        refine lv_aload_n hx hb dX5_isPart_78 rfl (lv_at hl 2 rfl) ?_
        refine nVi (As := []) (rest := _) hx hb hml hown hts hP hK hD hZ hA hS ⟨Nat.zero_le _, Nat.zero_le _⟩ hM.1 rfl (m_stops l E ad s_15 b N P kp C n th J ((p + 1) + 1) f T k hn hC (hM.eq (all14 rfl rfl rfl rfl rfl rfl rfl rfl rfl rfl rfl rfl rfl rfl)) (by omega)) (cwV 0 hts gX5_isPart_X5_stops rfl rfl rfl (by decide +kernel) ⟨Nat.le_of_ble_eq_true rfl, Nat.le_of_ble_eq_true rfl⟩) hl.1 rfl (Nat.le_of_ble_eq_true rfl) dX5_isPart_79 (fun r_58 s_60 H locs hq hP hD hS => ?_)
        obtain ⟨hrr_58, hM, hf_59⟩ := hq
        have hf := hf.tr hf_59
        have hM : isR E ad s_60 b sM (gu (gu (gu (gu (mG N P kp C n th J) 9 T) 10 (fun _ => nI k)) 7 (fun _ => nI ((p + 1) + 1))) 8 (fun _ => stF ((p + 1) + 1) n)) := hM.eq (all14 rfl rfl rfl rfl rfl rfl rfl rfl rfl rfl rfl rfl rfl rfl)
        exact hret _ _ _ _ _ _ hP hD hS (⟨Or.inl ⟨hrr_58, (p + 1) + 1, hbad, hM.eq (all14 rfl rfl rfl rfl rfl rfl rfl rfl rfl rfl rfl rfl rfl rfl)⟩, hf⟩) (Or.inl hrr_58) dX5_isPart_82
    · have hbad := bad1 hp0 g0 q1.1 (no0 hC (atV_n hrr_10 c17_12) (Or.inr q1.1))
      refine lv_aload_n hx hb dX5_isPart_20 rfl (lv_at hl 2 rfl) ?_
      refine nVi (As := []) (rest := _) hx hb hml hown hts hP hK hD hZ hA hS ⟨Nat.zero_le _, Nat.zero_le _⟩ hM.1 rfl (m_stops l E ad s_7 b N P kp C n th J (p + 1) f T k hn hC (hM.eq (all14 rfl rfl rfl rfl rfl rfl rfl rfl rfl rfl rfl rfl rfl rfl)) (by omega)) (cwV 0 hts gX5_isPart_X5_stops rfl rfl rfl (by decide +kernel) ⟨Nat.le_of_ble_eq_true rfl, Nat.le_of_ble_eq_true rfl⟩) hl.1 rfl (Nat.le_of_ble_eq_true rfl) dX5_isPart_21 (fun r_61 s_63 H locs hq hP hD hS => ?_)
      obtain ⟨hrr_61, hM, hf_62⟩ := hq
      have hf := hf.tr hf_62
      have hM : isR E ad s_63 b sM (gu (gu (gu (gu (mG N P kp C n th J) 9 T) 10 (fun _ => nI k)) 7 (fun _ => nI (p + 1))) 8 (fun _ => stF (p + 1) n)) := hM.eq (all14 rfl rfl rfl rfl rfl rfl rfl rfl rfl rfl rfl rfl rfl rfl)
      exact hret _ _ _ _ _ _ hP hD hS (⟨Or.inl ⟨hrr_61, p + 1, hbad, hM.eq (all14 rfl rfl rfl rfl rfl rfl rfl rfl rfl rfl rfl rfl rfl rfl)⟩, hf⟩) (Or.inl hrr_61) dX5_isPart_24
  · have hbad := bad0 hp hR0 (no0 hC (atV_n hrr_2 c17_4) (Or.inl hR0))
    refine lv_aload_n hx hb dX5_isPart_20 rfl (lv_at hl 2 rfl) ?_
    refine nVi (As := []) (rest := _) hx hb hml hown hts hP hK hD hZ hA hS ⟨Nat.zero_le _, Nat.zero_le _⟩ hM.1 rfl (m_stops l E ad st b N P kp C n th J p f T k hn hC (hM.eq (all14 rfl rfl rfl rfl rfl rfl rfl rfl rfl rfl rfl rfl rfl rfl)) (by omega)) (cwV 0 hts gX5_isPart_X5_stops rfl rfl rfl (by decide +kernel) ⟨Nat.le_of_ble_eq_true rfl, Nat.le_of_ble_eq_true rfl⟩) hl.1 rfl (Nat.le_of_ble_eq_true rfl) dX5_isPart_21 (fun r_64 s_66 H locs hq hP hD hS => ?_)
    obtain ⟨hrr_64, hM, hf_65⟩ := hq
    have hf := hf.tr hf_65
    have hM : isR E ad s_66 b sM (gu (gu (gu (gu (mG N P kp C n th J) 7 (fun _ => nI p)) 9 T) 10 (fun _ => nI k)) 8 (fun _ => stF p n)) := hM.eq (all14 rfl rfl rfl rfl rfl rfl rfl rfl rfl rfl rfl rfl rfl rfl)
    exact hret _ _ _ _ _ _ hP hD hS (⟨Or.inl ⟨hrr_64, p, hbad, hM.eq (all14 rfl rfl rfl rfl rfl rfl rfl rfl rfl rfl rfl rfl rfl rfl)⟩, hf⟩) (Or.inl hrr_64) dX5_isPart_24

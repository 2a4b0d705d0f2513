set_option maxHeartbeats 4000000 in
set_option maxRecDepth 100000 in
theorem m_isText (l : Launch) (E : NE) (ad : Nat → Nat) (st : NW) (b : Nat) (N P : Nat → Int32) (kp : Nat) (C : Nat → Int32) (n : Nat) (th : Int32) (J : Nat → Nat → Int32) (hkp : kp ≤ 6) (hn : n ≤ 60) (hO : okN N) (hM : isR E ad st b sM (mG N P kp C n th J)) (hC : okC C n)  : nMi l yX5_isText wsX5_isText (nRm 3 67) E ad st [.ref (ad b)] (fun r s1 => (r = 0 ∧ ¬ cmpl C n ∧ (∃ T k, isR E ad s1 b sM (tG (mG N P kp C n th J) (fErr C n) (stF (fErr C n) n) T k)) ∨ r = 1 ∧ cmpl C n ∧ (∃ T k f, txN C n T k ∧ isR E ad s1 b sM (tG (mG N P kp C n th J) n f T k))) ∧ fr b st s1) := by
  refine nSz (cc := cX5_isText) (maxL := 2) (by decide) rfl (Nat.le_of_ble_eq_true rfl) ?_
  intro pg en s mi ar bw mth cd R Q A ls hx hb hml hown hts hRm hP hK hD hZ hA hl hret
  subst hRm
  have hown : s.vm.findClass RX5 = some mi.cls := hown
  have hS : va_S A s.heap s.heap [] := va_S.rf
  have hl : lv_has ls 2 [(0, .ref (ad b))] := hl
  have hf : fr b st st := fr.rf
  have hdB := hO.1.b
  have hinX5 : ∀ w ∈ wsX50, w ∈ wsX5_isText := by decide +kernel
  refine lv_aload_n hx hb dX5_isText_0 rfl (lv_at hl 0 rfl) ?_
  refine lv_iconst (v := 0) hx hb dX5_isText_1 (by decide) ?_
  refine rp (v := 0) (ty := .int) (T := TX5) (N := 14) (C := RX5) hx hb hts hinX5 tyX5 tyX5_ok nmX5 hown hK hP hD hS hM rfl 7 (by decide) (hts (.fieldLink RX5 113 "NeedleGridModel" "at" "I") (by decide +kernel)) rfl rfl (by decide +kernel) rfl rfl dX5_isText_2 (fun s_1 H locs hM hf_2 hP hD hS => ?_)
  have hf := hf.tr hf_2
  refine lv_aload_n hx hb dX5_isText_5 rfl (lv_at hl 0 rfl) ?_
  refine lv_iconst (v := 0) hx hb dX5_isText_6 (by decide) ?_
  refine rp (v := 0) (ty := .int) (T := TX5) (N := 14) (C := RX5) hx hb hts hinX5 tyX5 tyX5_ok nmX5 hown hK hP hD hS hM rfl 10 (by decide) (hts (.fieldLink RX5 127 "NeedleGridModel" "tolds" "I") (by decide +kernel)) rfl rfl (by decide +kernel) rfl rfl dX5_isText_7 (fun s_3 H locs hM hf_4 hP hD hS => ?_)
  have hf := hf.tr hf_4
  refine lv_aload_n hx hb dX5_isText_10 rfl (lv_at hl 0 rfl) ?_
  refine lv_iconst (v := 0) hx hb dX5_isText_11 (by decide) ?_
  refine rp (v := 0) (ty := .boolean) (T := TX5) (N := 14) (C := RX5) hx hb hts hinX5 tyX5 tyX5_ok nmX5 hown hK hP hD hS hM rfl 8 (by decide) (hts (.fieldLink RX5 116 "NeedleGridModel" "isFault" "Z") (by decide +kernel)) rfl rfl (by decide +kernel) (by rcases (show (0 : Int32) = 0 ∨ (0 : Int32) = 1 from (by first | exact Or.inl rfl | exact Or.inr rfl | assumption)) with h9 | h9 <;> rw [h9] <;> rfl) (by rcases (show (0 : Int32) = 0 ∨ (0 : Int32) = 1 from (by first | exact Or.inl rfl | exact Or.inr rfl | assumption)) with h9 | h9 <;> rw [h9] <;> rfl) dX5_isText_12 (fun s_5 H locs hM hf_6 hP hD hS => ?_)
  have hf := hf.tr hf_6
  refine lv_iconst (v := 1) hx hb dX5_isText_15 (by decide) ?_
  refine lv_istore_n (lv' := [(1, .int 1), (0, .ref (ad b))]) hx hb dX5_isText_16 rfl hl (by decide) rfl (fun ls hl => ?_)
  have LP : ∀ (k9 p k : Nat) (f : Int32) (T : Nat → Int32), n - p < k9 → k ≤ 5 → p ≤ n → rdS r00 C p 0 = 0 → rdS r00 C p 1 = nI (k + 1) → gudTo C p → tOK T k → (∀ M : Nat → Int32, laysN r00 C M p = layK T k M) → ∀ (sL : NW) (H : Heap) (locs : List Loc) (ls : Array Slot), isR E ad sL b sM (gu (gu (gu (gu (mG N P kp C n th J) 7 (fun _ => nI p)) 8 (fun _ => f)) 9 T) 10 (fun _ => nI k)) → fr b st sL → nP E ad sL H → nD A ad sL → va_S A s.heap H locs → lv_has ls 2 [(1, .int 1), (0, .ref (ad b))] → W pg l en (nRm 3 67) s mi ar bw mth cd H locs 0 0 Q (F0 mi 17 ls []) := by
    intro k9
    induction k9 with
    | zero => intro p k f T h9; exact absurd h9 (Nat.not_lt_zero _)
    | succ k9 ih9 =>
      intro p k f T hk9 hk5 hp hR0 hR1 hgu htk hlk sL H locs ls hM hf hP hD hS hl
      refine lv_iload_n hx hb dX5_isText_17 rfl (lv_at hl 0 rfl) ?_
      refine lv_if_eq (tgt := 87) hx hb dX5_isText_18 (by decide) (fun c18_6 => absurd c18_6 (by decide)) (fun c18_6 => ?_)
      refine lv_aload_n hx hb dX5_isText_21 rfl (lv_at hl 1 rfl) ?_
      refine nVi (As := []) (rest := _) hx hb hml hown hts hP hK hD hZ hA hS ⟨Nat.zero_le _, Nat.zero_le _⟩ hM.1 rfl (m_isPart l E ad sL b N P kp C n th J p f T k hn hC (hM.eq (all14 rfl rfl rfl rfl rfl rfl rfl rfl rfl rfl rfl rfl rfl rfl)) hk5 hp hR0) (cwV 0 hts gX5_isText_X5_isPart rfl rfl rfl (by decide +kernel) ⟨Nat.le_of_ble_eq_true rfl, Nat.le_of_ble_eq_true rfl⟩) hl.1 rfl (Nat.le_of_ble_eq_true rfl) dX5_isText_22 (fun r_8 s_10 H locs hq hP hD hS => ?_)
      obtain ⟨hor, hf_9⟩ := hq
      have hf := hf.tr hf_9
      rcases hor with ⟨hr, q, hB, hM⟩ | ⟨hr, q, c9, d9, s9, hY, hM⟩
      · subst hr
        have hM : isR E ad s_10 b sM (gu (gu (gu (gu (mG N P kp C n th J) 7 (fun _ => nI q)) 8 (fun _ => stF q n)) 9 T) 10 (fun _ => nI k)) := hM.eq (all14 rfl rfl rfl rfl rfl rfl rfl rfl rfl rfl rfl rfl rfl rfl)
        have hE := hB.err hgu
        refine lv_if_ne (tgt := 30) hx hb dX5_isText_25 (by decide) (fun c25_10 => absurd (by decide) c25_10) (fun c25_10 => ?_)
        refine lv_iconst (v := 0) hx hb dX5_isText_28 (by decide) ?_
        exact hret _ _ _ _ _ _ hP hD hS (⟨Or.inl ⟨rfl, hE.2, _, _, (by rw [hE.1]; exact hM.eq (all14 rfl rfl rfl rfl rfl rfl rfl rfl rfl rfl rfl rfl rfl rfl) : isR E ad s_10 b sM (tG (mG N P kp C n th J) (fErr C n) (stF (fErr C n) n) T k))⟩, hf⟩) (by first | exact Or.inl rfl | exact Or.inr rfl | assumption) dX5_isText_29
      · subst hr
        have hM : isR E ad s_10 b sM (gu (gu (gu (gu (mG N P kp C n th J) 7 (fun _ => nI q)) 8 (fun _ => f)) 9 (putT T k c9 d9 s9)) 10 (fun _ => nI k)) := hM.eq (all14 rfl rfl rfl rfl rfl rfl rfl rfl rfl rfl rfl rfl rfl rfl)
        have hq2 := hY.2.1
        have hq1 := hY.1
        have ht2 := htk.put hY.2.2.2.2.1.1 hY.2.2.2.2.1.2.1 hY.2.2.2.2.1.2.2.1 hY.2.2.2.2.1.2.2.2
        have hl3 : ∀ M : Nat → Int32, layN (rdS r00 C q) (laysN r00 C M q) = layK (putT T k c9 d9 s9) (k + 1) M := fun M => hY.lay (hlk M)
        refine lv_if_ne (tgt := 30) hx hb dX5_isText_25 (by decide) (fun c25_11 => ?_) (fun c25_11 => absurd c25_11 (by decide))
        refine lv_aload_n hx hb dX5_isText_30 rfl (lv_at hl 1 rfl) ?_
        refine lv_dup hx hb dX5_isText_31 rfl ?_
        refine rg (v := .int (nI k)) (T := TX5) (N := 14) (C := RX5) hx hb hts hinX5 hown hK hP hM rfl 10 (by decide) (hts (.fieldLink RX5 127 "NeedleGridModel" "tolds" "I") (by decide +kernel)) rfl dX5_isText_32 ?_
        refine lv_iconst (v := 1) hx hb dX5_isText_35 (by decide) ?_
        refine lv_iadd hx hb dX5_isText_36 ?_
        rw [nI_1]
        refine rp (v := nI (k + 1)) (ty := .int) (T := TX5) (N := 14) (C := RX5) hx hb hts hinX5 tyX5 tyX5_ok nmX5 hown hK hP hD hS hM rfl 10 (by decide) (hts (.fieldLink RX5 127 "NeedleGridModel" "tolds" "I") (by decide +kernel)) rfl rfl (by decide +kernel) rfl rfl dX5_isText_37 (fun s_13 H locs hM hf_14 hP hD hS => ?_)
        have hf := hf.tr hf_14
        have hM : isR E ad s_13 b sM (gu (gu (gu (gu (mG N P kp C n th J) 7 (fun _ => nI q)) 8 (fun _ => f)) 9 (putT T k c9 d9 s9)) 10 (fun _ => nI (k + 1))) := hM.eq (all14 rfl rfl rfl rfl rfl rfl rfl rfl rfl rfl rfl rfl rfl rfl)
        refine lv_aload_n hx hb dX5_isText_40 rfl (lv_at hl 1 rfl) ?_
        refine rg (v := .int (nI (k + 1))) (T := TX5) (N := 14) (C := RX5) hx hb hts hinX5 hown hK hP hM rfl 10 (by decide) (hts (.fieldLink RX5 127 "NeedleGridModel" "tolds" "I") (by decide +kernel)) rfl dX5_isText_41 ?_
        refine lv_bipush (v := 6) hx hb dX5_isText_44 (by decide) ?_
        refine lv_icmp_ge (tgt := 64) hx hb dX5_isText_46 (by decide) (fun c46_14 => ?_) (fun c46_14 => ?_)
        · have hk6 : ¬ k + 1 < 6 := by have := (nI_geL (n := 6) (i := k + 1) rfl (by decide) (by omega)).mp c46_14; omega
          have hm : q < n → C q = 59 → k + 1 = 6 := fun _ _ => by omega
          refine lv_iconst (v := 0) hx hb dX5_isText_64 (by decide) ?_
          refine lv_istore_n (lv' := [(1, .int 0), (0, .ref (ad b))]) hx hb dX5_isText_65 rfl hl (by decide) rfl (fun ls hl => ?_)
          refine lv_aload_n hx hb dX5_isText_66 rfl (lv_at hl 1 rfl) ?_
          refine lv_dup hx hb dX5_isText_67 rfl ?_
          refine rg (v := .int (nI q)) (T := TX5) (N := 14) (C := RX5) hx hb hts hinX5 hown hK hP hM rfl 7 (by decide) (hts (.fieldLink RX5 113 "NeedleGridModel" "at" "I") (by decide +kernel)) rfl dX5_isText_68 ?_
          refine lv_iload_n hx hb dX5_isText_71 rfl (lv_at hl 0 rfl) ?_
          refine lv_if_eq (tgt := 79) hx hb dX5_isText_72 (by decide) (fun c72_15 => ?_) (fun c72_15 => absurd (by decide) c72_15)
          refine lv_iconst (v := 0) hx hb dX5_isText_79 (by decide) ?_
          refine lv_iadd hx hb dX5_isText_80 ?_
          rw [show nI q + 0 = nI q from Int32.add_zero _]
          refine rp (v := nI q) (ty := .int) (T := TX5) (N := 14) (C := RX5) hx hb hts hinX5 tyX5 tyX5_ok nmX5 hown hK hP hD hS hM rfl 7 (by decide) (hts (.fieldLink RX5 113 "NeedleGridModel" "at" "I") (by decide +kernel)) rfl rfl (by decide +kernel) rfl rfl dX5_isText_81 (fun s_17 H locs hM hf_18 hP hD hS => ?_)
          have hf := hf.tr hf_18
          have hM : isR E ad s_17 b sM (gu (gu (gu (gu (mG N P kp C n th J) 8 (fun _ => f)) 9 (putT T k c9 d9 s9)) 10 (fun _ => nI (k + 1))) 7 (fun _ => nI q)) := hM.eq (all14 rfl rfl rfl rfl rfl rfl rfl rfl rfl rfl rfl rfl rfl rfl)
          refine lv_goto (tgt := 17) hx hb dX5_isText_84 (by decide) ?_
          refine lv_iload_n hx hb dX5_isText_17 rfl (lv_at hl 0 rfl) ?_
          refine lv_if_eq (tgt := 87) hx hb dX5_isText_18 (by decide) (fun c18_18 => ?_) (fun c18_18 => absurd (by decide) c18_18)
          refine lv_aload_n hx hb dX5_isText_87 rfl (lv_at hl 1 rfl) ?_
          refine lv_aload_n hx hb dX5_isText_88 rfl (lv_at hl 1 rfl) ?_
          refine rg (v := .int (nI q)) (T := TX5) (N := 14) (C := RX5) hx hb hts hinX5 hown hK hP hM rfl 7 (by decide) (hts (.fieldLink RX5 113 "NeedleGridModel" "at" "I") (by decide +kernel)) rfl dX5_isText_89 ?_
          refine lv_aload_n hx hb dX5_isText_92 rfl (lv_at hl 1 rfl) ?_
          refine rg (v := .int (nI n)) (T := TX5) (N := 14) (C := RX5) hx hb hts hinX5 hown hK hP hM rfl 5 (by decide) (hts (.fieldLink RX5 110 "NeedleGridModel" "typed" "I") (by decide +kernel)) rfl dX5_isText_93 ?_
          refine lv_icmp_ge (tgt := 103) hx hb dX5_isText_96 (by decide) (fun c96_19 => ?_) (fun c96_19 => ?_)
          · obtain rfl : n = q := by have := (nI_leI (a := n) (b := q) (by omega) (by omega)).mp c96_19; omega
            refine lv_iconst (v := 0) hx hb dX5_isText_103 (by decide) ?_
            refine rp (v := 0) (ty := .boolean) (T := TX5) (N := 14) (C := RX5) hx hb hts hinX5 tyX5 tyX5_ok nmX5 hown hK hP hD hS hM rfl 8 (by decide) (hts (.fieldLink RX5 116 "NeedleGridModel" "isFault" "Z") (by decide +kernel)) rfl rfl (by decide +kernel) (by rcases (show (0 : Int32) = 0 ∨ (0 : Int32) = 1 from (by first | exact Or.inl rfl | exact Or.inr rfl | assumption)) with h9 | h9 <;> rw [h9] <;> rfl) (by rcases (show (0 : Int32) = 0 ∨ (0 : Int32) = 1 from (by first | exact Or.inl rfl | exact Or.inr rfl | assumption)) with h9 | h9 <;> rw [h9] <;> rfl) dX5_isText_104 (fun s_21 H locs hM hf_22 hP hD hS => ?_)
            have hf := hf.tr hf_22
            have hM : isR E ad s_21 b sM (gu (gu (gu (gu (mG N P kp C n th J) 9 (putT T k c9 d9 s9)) 10 (fun _ => nI (k + 1))) 7 (fun _ => nI n)) 8 (fun _ => 0)) := hM.eq (all14 rfl rfl rfl rfl rfl rfl rfl rfl rfl rfl rfl rfl rfl rfl)
            refine lv_aload_n hx hb dX5_isText_107 rfl (lv_at hl 1 rfl) ?_
            refine rg (v := .int (nI n)) (T := TX5) (N := 14) (C := RX5) hx hb hts hinX5 hown hK hP hM rfl 7 (by decide) (hts (.fieldLink RX5 113 "NeedleGridModel" "at" "I") (by decide +kernel)) rfl dX5_isText_108 ?_
            refine lv_aload_n hx hb dX5_isText_111 rfl (lv_at hl 1 rfl) ?_
            refine rg (v := .int (nI n)) (T := TX5) (N := 14) (C := RX5) hx hb hts hinX5 hown hK hP hM rfl 5 (by decide) (hts (.fieldLink RX5 110 "NeedleGridModel" "typed" "I") (by decide +kernel)) rfl dX5_isText_112 ?_
            refine lv_icmp_ne (tgt := 122) hx hb dX5_isText_115 (by decide) (fun c115_22 => absurd rfl c115_22) (fun c115_22 => ?_)
            refine lv_iconst (v := 1) hx hb dX5_isText_118 (by decide) ?_
            refine lv_goto (tgt := 123) hx hb dX5_isText_119 (by decide) ?_
            exact hret _ _ _ _ _ _ hP hD hS (⟨Or.inr ⟨rfl, hY.cmp hgu, putT T k c9 d9 s9, k + 1, 0, ⟨by omega, ht2, hl3⟩, hM.eq (all14 rfl rfl rfl rfl rfl rfl rfl rfl rfl rfl rfl rfl rfl rfl)⟩, hf⟩) (by first | exact Or.inl rfl | exact Or.inr rfl | assumption) dX5_isText_123
          · have hqe : ¬ q = n := by have := mt (nI_leI (a := n) (b := q) (by omega) (by omega)).mpr c96_19; omega
            refine lv_iconst (v := 1) hx hb dX5_isText_99 (by decide) ?_
            refine lv_goto (tgt := 104) hx hb dX5_isText_100 (by decide) ?_
            refine rp (v := 1) (ty := .boolean) (T := TX5) (N := 14) (C := RX5) hx hb hts hinX5 tyX5 tyX5_ok nmX5 hown hK hP hD hS hM rfl 8 (by decide) (hts (.fieldLink RX5 116 "NeedleGridModel" "isFault" "Z") (by decide +kernel)) rfl rfl (by decide +kernel) (by rcases (show (1 : Int32) = 0 ∨ (1 : Int32) = 1 from (by first | exact Or.inl rfl | exact Or.inr rfl | assumption)) with h9 | h9 <;> rw [h9] <;> rfl) (by rcases (show (1 : Int32) = 0 ∨ (1 : Int32) = 1 from (by first | exact Or.inl rfl | exact Or.inr rfl | assumption)) with h9 | h9 <;> rw [h9] <;> rfl) dX5_isText_104 (fun s_24 H locs hM hf_25 hP hD hS => ?_)
            have hf := hf.tr hf_25
            have hM : isR E ad s_24 b sM (gu (gu (gu (gu (mG N P kp C n th J) 9 (putT T k c9 d9 s9)) 10 (fun _ => nI (k + 1))) 7 (fun _ => nI q)) 8 (fun _ => 1)) := hM.eq (all14 rfl rfl rfl rfl rfl rfl rfl rfl rfl rfl rfl rfl rfl rfl)
            refine lv_aload_n hx hb dX5_isText_107 rfl (lv_at hl 1 rfl) ?_
            refine rg (v := .int (nI q)) (T := TX5) (N := 14) (C := RX5) hx hb hts hinX5 hown hK hP hM rfl 7 (by decide) (hts (.fieldLink RX5 113 "NeedleGridModel" "at" "I") (by decide +kernel)) rfl dX5_isText_108 ?_
            refine lv_aload_n hx hb dX5_isText_111 rfl (lv_at hl 1 rfl) ?_
            refine rg (v := .int (nI n)) (T := TX5) (N := 14) (C := RX5) hx hb hts hinX5 hown hK hP hM rfl 5 (by decide) (hts (.fieldLink RX5 110 "NeedleGridModel" "typed" "I") (by decide +kernel)) rfl dX5_isText_112 ?_
            refine lv_icmp_ne (tgt := 122) hx hb dX5_isText_115 (by decide) (fun c115_25 => ?_) (fun c115_25 => absurd ((nI_eq (by omega) (by omega)).mp c115_25) hqe)
            refine lv_iconst (v := 0) hx hb dX5_isText_122 (by decide) ?_
            have hE : fErr C n = q := hY.end hgu hR1 (by omega) hm
            have hMt : isR E ad s_24 b sM (tG (mG N P kp C n th J) q (stF q n) (putT T k c9 d9 s9) (k + 1)) := hM.eq (all14 rfl rfl rfl rfl rfl rfl rfl rfl (funext fun _ => (stF_1 (by omega)).symm) rfl rfl rfl rfl rfl)
            exact hret _ _ _ _ _ _ hP hD hS (⟨Or.inl ⟨rfl, hY.ncmp hgu hR1 (by omega) hm hqe, putT T k c9 d9 s9, k + 1, (by rw [hE]; exact hMt)⟩, hf⟩) (by first | exact Or.inl rfl | exact Or.inr rfl | assumption) dX5_isText_123
        · have hk6 : k + 1 < 6 := by have := mt (nI_geL (n := 6) (i := k + 1) rfl (by decide) (by omega)).mpr c46_14; omega
          refine lv_aload_n hx hb dX5_isText_49 rfl (lv_at hl 1 rfl) ?_
          refine lv_bipush (v := 59) hx hb dX5_isText_50 (by decide) ?_
          refine lv_bipush (v := 59) hx hb dX5_isText_52 (by decide) ?_
          refine nVi (As := [.int 59, .int 59]) (rest := _) hx hb hml hown hts hP hK hD hZ hA hS ⟨Nat.zero_le _, Nat.zero_le _⟩ hM.1 rfl (m_isAt l E ad s_13 b N P kp C n th J q f (putT T k c9 d9 s9) (k + 1) hn hC (hM.eq (all14 rfl rfl rfl rfl rfl rfl rfl rfl rfl rfl rfl rfl rfl rfl)) 59 59 (by omega)) (cwV 2 hts gX5_isText_X5_isAt rfl rfl rfl (by decide +kernel) ⟨Nat.le_of_ble_eq_true rfl, Nat.le_of_ble_eq_true rfl⟩) hl.1 rfl (Nat.le_of_ble_eq_true rfl) dX5_isText_54 (fun r_27 s_29 H locs hq hP hD hS => ?_)
          obtain ⟨hrr_27, rfl⟩ := hq
          have hrr_27 : r_27 = atV C n q 59 59 := hrr_27
          refine lv_if_eq (tgt := 64) hx hb dX5_isText_57 (by decide) (fun c57_29 => ?_) (fun c57_29 => ?_)
          · have hm : q < n → C q = 59 → k + 1 = 6 := fun h8 h9 => absurd h9 (semi_n hC (atV_n hrr_27 c57_29) h8)
            refine lv_iconst (v := 0) hx hb dX5_isText_64 (by decide) ?_
            refine lv_istore_n (lv' := [(1, .int 0), (0, .ref (ad b))]) hx hb dX5_isText_65 rfl hl (by decide) rfl (fun ls hl => ?_)
            refine lv_aload_n hx hb dX5_isText_66 rfl (lv_at hl 1 rfl) ?_
            refine lv_dup hx hb dX5_isText_67 rfl ?_
            refine rg (v := .int (nI q)) (T := TX5) (N := 14) (C := RX5) hx hb hts hinX5 hown hK hP hM rfl 7 (by decide) (hts (.fieldLink RX5 113 "NeedleGridModel" "at" "I") (by decide +kernel)) rfl dX5_isText_68 ?_
            refine lv_iload_n hx hb dX5_isText_71 rfl (lv_at hl 0 rfl) ?_
            refine lv_if_eq (tgt := 79) hx hb dX5_isText_72 (by decide) (fun c72_30 => ?_) (fun c72_30 => absurd (by decide) c72_30)
            refine lv_iconst (v := 0) hx hb dX5_isText_79 (by decide) ?_
            refine lv_iadd hx hb dX5_isText_80 ?_
            rw [show nI q + 0 = nI q from Int32.add_zero _]
            refine rp (v := nI q) (ty := .int) (T := TX5) (N := 14) (C := RX5) hx hb hts hinX5 tyX5 tyX5_ok nmX5 hown hK hP hD hS hM rfl 7 (by decide) (hts (.fieldLink RX5 113 "NeedleGridModel" "at" "I") (by decide +kernel)) rfl rfl (by decide +kernel) rfl rfl dX5_isText_81 (fun s_32 H locs hM hf_33 hP hD hS => ?_)
            have hf := hf.tr hf_33
            have hM : isR E ad s_32 b sM (gu (gu (gu (gu (mG N P kp C n th J) 8 (fun _ => f)) 9 (putT T k c9 d9 s9)) 10 (fun _ => nI (k + 1))) 7 (fun _ => nI q)) := hM.eq (all14 rfl rfl rfl rfl rfl rfl rfl rfl rfl rfl rfl rfl rfl rfl)
            refine lv_goto (tgt := 17) hx hb dX5_isText_84 (by decide) ?_
            refine lv_iload_n hx hb dX5_isText_17 rfl (lv_at hl 0 rfl) ?_
            refine lv_if_eq (tgt := 87) hx hb dX5_isText_18 (by decide) (fun c18_33 => ?_) (fun c18_33 => absurd (by decide) c18_33)
            refine lv_aload_n hx hb dX5_isText_87 rfl (lv_at hl 1 rfl) ?_
            refine lv_aload_n hx hb dX5_isText_88 rfl (lv_at hl 1 rfl) ?_
            refine rg (v := .int (nI q)) (T := TX5) (N := 14) (C := RX5) hx hb hts hinX5 hown hK hP hM rfl 7 (by decide) (hts (.fieldLink RX5 113 "NeedleGridModel" "at" "I") (by decide +kernel)) rfl dX5_isText_89 ?_
            refine lv_aload_n hx hb dX5_isText_92 rfl (lv_at hl 1 rfl) ?_
            refine rg (v := .int (nI n)) (T := TX5) (N := 14) (C := RX5) hx hb hts hinX5 hown hK hP hM rfl 5 (by decide) (hts (.fieldLink RX5 110 "NeedleGridModel" "typed" "I") (by decide +kernel)) rfl dX5_isText_93 ?_
            refine lv_icmp_ge (tgt := 103) hx hb dX5_isText_96 (by decide) (fun c96_34 => ?_) (fun c96_34 => ?_)
            · obtain rfl : n = q := by have := (nI_leI (a := n) (b := q) (by omega) (by omega)).mp c96_34; omega
              refine lv_iconst (v := 0) hx hb dX5_isText_103 (by decide) ?_
              refine rp (v := 0) (ty := .boolean) (T := TX5) (N := 14) (C := RX5) hx hb hts hinX5 tyX5 tyX5_ok nmX5 hown hK hP hD hS hM rfl 8 (by decide) (hts (.fieldLink RX5 116 "NeedleGridModel" "isFault" "Z") (by decide +kernel)) rfl rfl (by decide +kernel) (by rcases (show (0 : Int32) = 0 ∨ (0 : Int32) = 1 from (by first | exact Or.inl rfl | exact Or.inr rfl | assumption)) with h9 | h9 <;> rw [h9] <;> rfl) (by rcases (show (0 : Int32) = 0 ∨ (0 : Int32) = 1 from (by first | exact Or.inl rfl | exact Or.inr rfl | assumption)) with h9 | h9 <;> rw [h9] <;> rfl) dX5_isText_104 (fun s_36 H locs hM hf_37 hP hD hS => ?_)
              have hf := hf.tr hf_37
              have hM : isR E ad s_36 b sM (gu (gu (gu (gu (mG N P kp C n th J) 9 (putT T k c9 d9 s9)) 10 (fun _ => nI (k + 1))) 7 (fun _ => nI n)) 8 (fun _ => 0)) := hM.eq (all14 rfl rfl rfl rfl rfl rfl rfl rfl rfl rfl rfl rfl rfl rfl)
              refine lv_aload_n hx hb dX5_isText_107 rfl (lv_at hl 1 rfl) ?_
              refine rg (v := .int (nI n)) (T := TX5) (N := 14) (C := RX5) hx hb hts hinX5 hown hK hP hM rfl 7 (by decide) (hts (.fieldLink RX5 113 "NeedleGridModel" "at" "I") (by decide +kernel)) rfl dX5_isText_108 ?_
              refine lv_aload_n hx hb dX5_isText_111 rfl (lv_at hl 1 rfl) ?_
              refine rg (v := .int (nI n)) (T := TX5) (N := 14) (C := RX5) hx hb hts hinX5 hown hK hP hM rfl 5 (by decide) (hts (.fieldLink RX5 110 "NeedleGridModel" "typed" "I") (by decide +kernel)) rfl dX5_isText_112 ?_
              refine lv_icmp_ne (tgt := 122) hx hb dX5_isText_115 (by decide) (fun c115_37 => absurd rfl c115_37) (fun c115_37 => ?_)
              refine lv_iconst (v := 1) hx hb dX5_isText_118 (by decide) ?_
              refine lv_goto (tgt := 123) hx hb dX5_isText_119 (by decide) ?_
              exact hret _ _ _ _ _ _ hP hD hS (⟨Or.inr ⟨rfl, hY.cmp hgu, putT T k c9 d9 s9, k + 1, 0, ⟨by omega, ht2, hl3⟩, hM.eq (all14 rfl rfl rfl rfl rfl rfl rfl rfl rfl rfl rfl rfl rfl rfl)⟩, hf⟩) (by first | exact Or.inl rfl | exact Or.inr rfl | assumption) dX5_isText_123
            · have hqe : ¬ q = n := by have := mt (nI_leI (a := n) (b := q) (by omega) (by omega)).mpr c96_34; omega
              refine lv_iconst (v := 1) hx hb dX5_isText_99 (by decide) ?_
              refine lv_goto (tgt := 104) hx hb dX5_isText_100 (by decide) ?_
              refine rp (v := 1) (ty := .boolean) (T := TX5) (N := 14) (C := RX5) hx hb hts hinX5 tyX5 tyX5_ok nmX5 hown hK hP hD hS hM rfl 8 (by decide) (hts (.fieldLink RX5 116 "NeedleGridModel" "isFault" "Z") (by decide +kernel)) rfl rfl (by decide +kernel) (by rcases (show (1 : Int32) = 0 ∨ (1 : Int32) = 1 from (by first | exact Or.inl rfl | exact Or.inr rfl | assumption)) with h9 | h9 <;> rw [h9] <;> rfl) (by rcases (show (1 : Int32) = 0 ∨ (1 : Int32) = 1 from (by first | exact Or.inl rfl | exact Or.inr rfl | assumption)) with h9 | h9 <;> rw [h9] <;> rfl) dX5_isText_104 (fun s_39 H locs hM hf_40 hP hD hS => ?_)
              have hf := hf.tr hf_40
              have hM : isR E ad s_39 b sM (gu (gu (gu (gu (mG N P kp C n th J) 9 (putT T k c9 d9 s9)) 10 (fun _ => nI (k + 1))) 7 (fun _ => nI q)) 8 (fun _ => 1)) := hM.eq (all14 rfl rfl rfl rfl rfl rfl rfl rfl rfl rfl rfl rfl rfl rfl)
              refine lv_aload_n hx hb dX5_isText_107 rfl (lv_at hl 1 rfl) ?_
              refine rg (v := .int (nI q)) (T := TX5) (N := 14) (C := RX5) hx hb hts hinX5 hown hK hP hM rfl 7 (by decide) (hts (.fieldLink RX5 113 "NeedleGridModel" "at" "I") (by decide +kernel)) rfl dX5_isText_108 ?_
              refine lv_aload_n hx hb dX5_isText_111 rfl (lv_at hl 1 rfl) ?_
              refine rg (v := .int (nI n)) (T := TX5) (N := 14) (C := RX5) hx hb hts hinX5 hown hK hP hM rfl 5 (by decide) (hts (.fieldLink RX5 110 "NeedleGridModel" "typed" "I") (by decide +kernel)) rfl dX5_isText_112 ?_
              refine lv_icmp_ne (tgt := 122) hx hb dX5_isText_115 (by decide) (fun c115_40 => ?_) (fun c115_40 => absurd ((nI_eq (by omega) (by omega)).mp c115_40) hqe)
              refine lv_iconst (v := 0) hx hb dX5_isText_122 (by decide) ?_
              have hE : fErr C n = q := hY.end hgu hR1 (by omega) hm
              have hMt : isR E ad s_39 b sM (tG (mG N P kp C n th J) q (stF q n) (putT T k c9 d9 s9) (k + 1)) := hM.eq (all14 rfl rfl rfl rfl rfl rfl rfl rfl (funext fun _ => (stF_1 (by omega)).symm) rfl rfl rfl rfl rfl)
              exact hret _ _ _ _ _ _ hP hD hS (⟨Or.inl ⟨rfl, hY.ncmp hgu hR1 (by omega) hm hqe, putT T k c9 d9 s9, k + 1, (by rw [hE]; exact hMt)⟩, hf⟩) (by first | exact Or.inl rfl | exact Or.inr rfl | assumption) dX5_isText_123
          · have h59 := semi_y hC (atV_y hrr_27 c57_29)
            have hqn := (atV_y hrr_27 c57_29).1
            have hn2 := hY.nxt hgu hR1 hk6 hqn h59
            have hl2 : ∀ M : Nat → Int32, laysN r00 C M (q + 1) = layK (putT T k c9 d9 s9) (k + 1) M := fun M => (laysN_59 h59).trans (hl3 M)
            refine lv_iconst (v := 1) hx hb dX5_isText_60 (by decide) ?_
            refine lv_goto (tgt := 65) hx hb dX5_isText_61 (by decide) ?_
            refine lv_istore_n (lv' := [(1, .int 1), (0, .ref (ad b))]) hx hb dX5_isText_65 rfl hl (by decide) rfl (fun ls hl => ?_)
            refine lv_aload_n hx hb dX5_isText_66 rfl (lv_at hl 1 rfl) ?_
            refine lv_dup hx hb dX5_isText_67 rfl ?_
            refine rg (v := .int (nI q)) (T := TX5) (N := 14) (C := RX5) hx hb hts hinX5 hown hK hP hM rfl 7 (by decide) (hts (.fieldLink RX5 113 "NeedleGridModel" "at" "I") (by decide +kernel)) rfl dX5_isText_68 ?_
            refine lv_iload_n hx hb dX5_isText_71 rfl (lv_at hl 0 rfl) ?_
            refine lv_if_eq (tgt := 79) hx hb dX5_isText_72 (by decide) (fun c72_41 => absurd c72_41 (by decide)) (fun c72_41 => ?_)
            refine lv_iconst (v := 1) hx hb dX5_isText_75 (by decide) ?_
            refine lv_goto (tgt := 80) hx hb dX5_isText_76 (by decide) ?_
            refine lv_iadd hx hb dX5_isText_80 ?_
            rw [nI_1]
            refine rp (v := nI (q + 1)) (ty := .int) (T := TX5) (N := 14) (C := RX5) hx hb hts hinX5 tyX5 tyX5_ok nmX5 hown hK hP hD hS hM rfl 7 (by decide) (hts (.fieldLink RX5 113 "NeedleGridModel" "at" "I") (by decide +kernel)) rfl rfl (by decide +kernel) rfl rfl dX5_isText_81 (fun s_43 H locs hM hf_44 hP hD hS => ?_)
            have hf := hf.tr hf_44
            have hM : isR E ad s_43 b sM (gu (gu (gu (gu (mG N P kp C n th J) 8 (fun _ => f)) 9 (putT T k c9 d9 s9)) 10 (fun _ => nI (k + 1))) 7 (fun _ => nI (q + 1))) := hM.eq (all14 rfl rfl rfl rfl rfl rfl rfl rfl rfl rfl rfl rfl rfl rfl)
            refine lv_goto (tgt := 17) hx hb dX5_isText_84 (by decide) ?_
            exact ih9 (q + 1) (k + 1) f (putT T k c9 d9 s9) (by omega) (by omega) (by omega) hn2.2.1 hn2.2.2 hn2.1 ht2 hl2 _ _ _ _ (hM.eq (all14 rfl rfl rfl rfl rfl rfl rfl rfl rfl rfl rfl rfl rfl rfl)) hf hP hD hS (lv_sub hl [0, 1] rfl)
  exact LP (n + 1) 0 0 0 (J 9) (by omega) (by omega) (Nat.zero_le _) rfl rd0_1 gud_0 tOK_0 (fun _ => rfl) _ _ _ _ (hM.eq (all14 rfl rfl rfl rfl rfl rfl rfl rfl rfl rfl rfl rfl rfl rfl)) hf hP hD hS (lv_sub hl [0, 1] rfl)

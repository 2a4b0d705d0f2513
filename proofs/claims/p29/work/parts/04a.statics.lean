set_option maxHeartbeats 4000000 in
set_option maxRecDepth 100000 in
theorem c_across (l : Launch) (E : NE) (ad : Nat → Nat) (st : NW) (d : Int32) : nMi l yX4_across wsX4_across (nRm 0 0) E ad st [.int d] (fun r s1 => r = acr d ∧ st = s1) := by
  refine nSi (cc := cX4_across) (maxL := 1) (by decide) rfl (Nat.le_of_ble_eq_true rfl) ?_
  intro pg en s mi ar bw mth cd R Q A ls hx hb hml hown hts hRm hP hK hD hZ hA hl hret
  subst hRm
  have hown : s.vm.findClass RX4 = some mi.cls := hown
  have hS : va_S A s.heap s.heap [] := va_S.rf
  have hl : lv_has ls 1 [(0, .int d)] := hl
  refine ngs hx hb hZ.1.1 hS hown (hts (.fieldLink RX4 284 "NeedleGrid" "ACROSS" "[I") (by decide +kernel)) dX4_across_0 ?_
  refine lv_iload_n hx hb dX4_across_3 rfl (lv_at hl 0 rfl) ?_
  refine lv_bipush (v := 7) hx hb dX4_across_4 (by decide) ?_
  refine lv_iand hx hb dX4_across_6 ?_
  refine nga hx hb hZ.1.1 hS (pk_andIn d (m := 7) 3 (by decide) (by decide)) dX4_across_7 ?_
  exact hret _ _ _ _ _ _ hP hD hS (⟨rfl, rfl⟩) dX4_across_8

set_option maxHeartbeats 4000000 in
set_option maxRecDepth 100000 in
theorem c_down (l : Launch) (E : NE) (ad : Nat → Nat) (st : NW) (d : Int32) : nMi l yX4_down wsX4_down (nRm 0 0) E ad st [.int d] (fun r s1 => r = dwn d ∧ st = s1) := by
  refine nSi (cc := cX4_down) (maxL := 1) (by decide) rfl (Nat.le_of_ble_eq_true rfl) ?_
  intro pg en s mi ar bw mth cd R Q A ls hx hb hml hown hts hRm hP hK hD hZ hA hl hret
  subst hRm
  have hown : s.vm.findClass RX4 = some mi.cls := hown
  have hS : va_S A s.heap s.heap [] := va_S.rf
  have hl : lv_has ls 1 [(0, .int d)] := hl
  refine ngs hx hb hZ.1.2.1 hS hown (hts (.fieldLink RX4 287 "NeedleGrid" "DOWN" "[I") (by decide +kernel)) dX4_down_0 ?_
  refine lv_iload_n hx hb dX4_down_3 rfl (lv_at hl 0 rfl) ?_
  refine lv_bipush (v := 7) hx hb dX4_down_4 (by decide) ?_
  refine lv_iand hx hb dX4_down_6 ?_
  refine nga hx hb hZ.1.2.1 hS (pk_andIn d (m := 7) 3 (by decide) (by decide)) dX4_down_7 ?_
  exact hret _ _ _ _ _ _ hP hD hS (⟨rfl, rfl⟩) dX4_down_8

set_option maxHeartbeats 4000000 in
set_option maxRecDepth 100000 in
theorem c_ahead (l : Launch) (E : NE) (ad : Nat → Nat) (st : NW) (d a : Int32) : nMi l yX4_ahead wsX4_ahead (nRm 0 0) E ad st [.int d, .int a] (fun r s1 => r = ahead d a ∧ st = s1) := by
  refine nSi (cc := cX4_ahead) (maxL := 2) (by decide) rfl (Nat.le_of_ble_eq_true rfl) ?_
  intro pg en s mi ar bw mth cd R Q A ls hx hb hml hown hts hRm hP hK hD hZ hA hl hret
  subst hRm
  have hown : s.vm.findClass RX4 = some mi.cls := hown
  have hS : va_S A s.heap s.heap [] := va_S.rf
  have hl : lv_has ls 2 [(0, .int d), (1, .int a)] := hl
  refine lv_iload_n hx hb dX4_ahead_0 rfl (lv_at hl 1 rfl) ?_
  refine lv_iload_n hx hb dX4_ahead_1 rfl (lv_at hl 0 rfl) ?_
  refine lv_isub hx hb dX4_ahead_2 ?_
  refine lv_bipush (v := 7) hx hb dX4_ahead_3 (by decide) ?_
  refine lv_iand hx hb dX4_ahead_5 ?_
  exact hret _ _ _ _ _ _ hP hD hS (⟨rfl, rfl⟩) dX4_ahead_6

set_option maxHeartbeats 4000000 in
set_option maxRecDepth 100000 in
theorem c_aimOf (l : Launch) (E : NE) (ad : Nat → Nat) (st : NW) (x y : Int32) : nMi l yX4_aimOf wsX4_aimOf (nRm 0 0) E ad st [.int x, .int y] (fun r s1 => r = aimOf x y ∧ st = s1) := by
  refine nSi (cc := cX4_aimOf) (maxL := 4) (by decide) rfl (Nat.le_of_ble_eq_true rfl) ?_
  intro pg en s mi ar bw mth cd R Q A ls hx hb hml hown hts hRm hP hK hD hZ hA hl hret
  subst hRm
  have hown : s.vm.findClass RX4 = some mi.cls := hown
  have hS : va_S A s.heap s.heap [] := va_S.rf
  have hl : lv_has ls 4 [(0, .int x), (1, .int y)] := hl
  have J_1 : ∀ v_2 : Int32, v_2 = ab x → W pg l en (nRm 0 0) s mi ar bw mth cd s.heap [] 0 0 Q (F0 mi 10 ls [.int v_2]) := by
    intro v_2 ev_2
    refine lv_istore_n (lv' := [(2, .int v_2), (0, .int x), (1, .int y)]) hx hb dX4_aimOf_10 rfl hl (by decide) rfl (fun ls hl => ?_)
    have J_3 : ∀ v_4 : Int32, v_4 = ab y → W pg l en (nRm 0 0) s mi ar bw mth cd s.heap [] 0 0 Q (F0 mi 21 ls [.int v_4]) := by
      intro v_4 ev_4
      refine lv_istore_n (lv' := [(3, .int v_4), (2, .int v_2), (0, .int x), (1, .int y)]) hx hb dX4_aimOf_21 rfl hl (by decide) rfl (fun ls hl => ?_)
      refine lv_iload_n hx hb dX4_aimOf_22 rfl (lv_at hl 1 rfl) ?_
      refine lv_if_ne (tgt := 32) hx hb dX4_aimOf_23 (by decide) (fun c23_4 => ?_) (fun c23_4 => ?_)
      · refine lv_bipush (v := 12) hx hb dX4_aimOf_32 (by decide) ?_
        refine lv_iload_n hx hb dX4_aimOf_34 rfl (lv_at hl 0 rfl) ?_
        refine lv_imul hx hb dX4_aimOf_35 ?_
        refine lv_iconst (v := 5) hx hb dX4_aimOf_36 (by decide) ?_
        refine lv_iload_n hx hb dX4_aimOf_37 rfl (lv_at hl 1 rfl) ?_
        refine lv_imul hx hb dX4_aimOf_38 ?_
        refine lv_icmp_gt (tgt := 52) hx hb dX4_aimOf_39 (by decide) (fun c39_5 => ?_) (fun c39_5 => ?_)
        · refine lv_bipush (v := 12) hx hb dX4_aimOf_52 (by decide) ?_
          refine lv_iload_n hx hb dX4_aimOf_54 rfl (lv_at hl 1 rfl) ?_
          refine lv_imul hx hb dX4_aimOf_55 ?_
          refine lv_iconst (v := 5) hx hb dX4_aimOf_56 (by decide) ?_
          refine lv_iload_n hx hb dX4_aimOf_57 rfl (lv_at hl 0 rfl) ?_
          refine lv_imul hx hb dX4_aimOf_58 ?_
          refine lv_icmp_gt (tgt := 73) hx hb dX4_aimOf_59 (by decide) (fun c59_6 => ?_) (fun c59_6 => ?_)
          · refine lv_iload_n hx hb dX4_aimOf_73 rfl (lv_at hl 3 rfl) ?_
            refine lv_if_le (tgt := 87) hx hb dX4_aimOf_74 (by decide) (fun c74_7 => ?_) (fun c74_7 => ?_)
            · refine lv_iload_n hx hb dX4_aimOf_87 rfl (lv_at hl 2 rfl) ?_
              refine lv_if_le (tgt := 96) hx hb dX4_aimOf_88 (by decide) (fun c88_8 => ?_) (fun c88_8 => ?_)
              · refine lv_iconst (v := 5) hx hb dX4_aimOf_96 (by decide) ?_
                exact hret _ _ _ _ _ _ hP hD hS (⟨by subst ev_2 ev_4; delta aimOf aimO; simp only [if_neg c23_4, if_pos c39_5, if_pos c59_6, if_pos c74_7, if_pos c88_8], rfl⟩) dX4_aimOf_97
              · refine lv_bipush (v := 7) hx hb dX4_aimOf_91 (by decide) ?_
                refine lv_goto (tgt := 97) hx hb dX4_aimOf_93 (by decide) ?_
                exact hret _ _ _ _ _ _ hP hD hS (⟨by subst ev_2 ev_4; delta aimOf aimO; simp only [if_neg c23_4, if_pos c39_5, if_pos c59_6, if_pos c74_7, if_neg c88_8], rfl⟩) dX4_aimOf_97
            · refine lv_iload_n hx hb dX4_aimOf_77 rfl (lv_at hl 2 rfl) ?_
              refine lv_if_le (tgt := 85) hx hb dX4_aimOf_78 (by decide) (fun c78_9 => ?_) (fun c78_9 => ?_)
              · refine lv_iconst (v := 3) hx hb dX4_aimOf_85 (by decide) ?_
                exact hret _ _ _ _ _ _ hP hD hS (⟨by subst ev_2 ev_4; delta aimOf aimO; simp only [if_neg c23_4, if_pos c39_5, if_pos c59_6, if_neg c74_7, if_pos c78_9], rfl⟩) dX4_aimOf_86
              · refine lv_iconst (v := 1) hx hb dX4_aimOf_81 (by decide) ?_
                refine lv_goto (tgt := 86) hx hb dX4_aimOf_82 (by decide) ?_
                exact hret _ _ _ _ _ _ hP hD hS (⟨by subst ev_2 ev_4; delta aimOf aimO; simp only [if_neg c23_4, if_pos c39_5, if_pos c59_6, if_neg c74_7, if_neg c78_9], rfl⟩) dX4_aimOf_86
          · refine lv_iload_n hx hb dX4_aimOf_62 rfl (lv_at hl 3 rfl) ?_
            refine lv_if_le (tgt := 70) hx hb dX4_aimOf_63 (by decide) (fun c63_10 => ?_) (fun c63_10 => ?_)
            · refine lv_bipush (v := 6) hx hb dX4_aimOf_70 (by decide) ?_
              exact hret _ _ _ _ _ _ hP hD hS (⟨by subst ev_2 ev_4; delta aimOf aimO; simp only [if_neg c23_4, if_pos c39_5, if_neg c59_6, if_pos c63_10], rfl⟩) dX4_aimOf_72
            · refine lv_iconst (v := 2) hx hb dX4_aimOf_66 (by decide) ?_
              refine lv_goto (tgt := 72) hx hb dX4_aimOf_67 (by decide) ?_
              exact hret _ _ _ _ _ _ hP hD hS (⟨by subst ev_2 ev_4; delta aimOf aimO; simp only [if_neg c23_4, if_pos c39_5, if_neg c59_6, if_neg c63_10], rfl⟩) dX4_aimOf_72
        · refine lv_iload_n hx hb dX4_aimOf_42 rfl (lv_at hl 2 rfl) ?_
          refine lv_if_le (tgt := 50) hx hb dX4_aimOf_43 (by decide) (fun c43_11 => ?_) (fun c43_11 => ?_)
          · refine lv_iconst (v := 4) hx hb dX4_aimOf_50 (by decide) ?_
            exact hret _ _ _ _ _ _ hP hD hS (⟨by subst ev_2 ev_4; delta aimOf aimO; simp only [if_neg c23_4, if_neg c39_5, if_pos c43_11], rfl⟩) dX4_aimOf_51
          · refine lv_iconst (v := 0) hx hb dX4_aimOf_46 (by decide) ?_
            refine lv_goto (tgt := 51) hx hb dX4_aimOf_47 (by decide) ?_
            exact hret _ _ _ _ _ _ hP hD hS (⟨by subst ev_2 ev_4; delta aimOf aimO; simp only [if_neg c23_4, if_neg c39_5, if_neg c43_11], rfl⟩) dX4_aimOf_51
      · refine lv_iload_n hx hb dX4_aimOf_26 rfl (lv_at hl 0 rfl) ?_
        refine lv_if_ne (tgt := 32) hx hb dX4_aimOf_27 (by decide) (fun c27_12 => ?_) (fun c27_12 => ?_)
        · refine lv_bipush (v := 12) hx hb dX4_aimOf_32 (by decide) ?_
          refine lv_iload_n hx hb dX4_aimOf_34 rfl (lv_at hl 0 rfl) ?_
          refine lv_imul hx hb dX4_aimOf_35 ?_
          refine lv_iconst (v := 5) hx hb dX4_aimOf_36 (by decide) ?_
          refine lv_iload_n hx hb dX4_aimOf_37 rfl (lv_at hl 1 rfl) ?_
          refine lv_imul hx hb dX4_aimOf_38 ?_
          refine lv_icmp_gt (tgt := 52) hx hb dX4_aimOf_39 (by decide) (fun c39_13 => ?_) (fun c39_13 => ?_)
          · refine lv_bipush (v := 12) hx hb dX4_aimOf_52 (by decide) ?_
            refine lv_iload_n hx hb dX4_aimOf_54 rfl (lv_at hl 1 rfl) ?_
            refine lv_imul hx hb dX4_aimOf_55 ?_
            refine lv_iconst (v := 5) hx hb dX4_aimOf_56 (by decide) ?_
            refine lv_iload_n hx hb dX4_aimOf_57 rfl (lv_at hl 0 rfl) ?_
            refine lv_imul hx hb dX4_aimOf_58 ?_
            refine lv_icmp_gt (tgt := 73) hx hb dX4_aimOf_59 (by decide) (fun c59_14 => ?_) (fun c59_14 => ?_)
            · refine lv_iload_n hx hb dX4_aimOf_73 rfl (lv_at hl 3 rfl) ?_
              refine lv_if_le (tgt := 87) hx hb dX4_aimOf_74 (by decide) (fun c74_15 => ?_) (fun c74_15 => ?_)
              · refine lv_iload_n hx hb dX4_aimOf_87 rfl (lv_at hl 2 rfl) ?_
                refine lv_if_le (tgt := 96) hx hb dX4_aimOf_88 (by decide) (fun c88_16 => ?_) (fun c88_16 => ?_)
                · refine lv_iconst (v := 5) hx hb dX4_aimOf_96 (by decide) ?_
                  exact hret _ _ _ _ _ _ hP hD hS (⟨by subst ev_2 ev_4; delta aimOf aimO; simp only [if_pos c23_4, if_neg c27_12, if_pos c39_13, if_pos c59_14, if_pos c74_15, if_pos c88_16], rfl⟩) dX4_aimOf_97
                · refine lv_bipush (v := 7) hx hb dX4_aimOf_91 (by decide) ?_
                  refine lv_goto (tgt := 97) hx hb dX4_aimOf_93 (by decide) ?_
                  exact hret _ _ _ _ _ _ hP hD hS (⟨by subst ev_2 ev_4; delta aimOf aimO; simp only [if_pos c23_4, if_neg c27_12, if_pos c39_13, if_pos c59_14, if_pos c74_15, if_neg c88_16], rfl⟩) dX4_aimOf_97
              · refine lv_iload_n hx hb dX4_aimOf_77 rfl (lv_at hl 2 rfl) ?_
                refine lv_if_le (tgt := 85) hx hb dX4_aimOf_78 (by decide) (fun c78_17 => ?_) (fun c78_17 => ?_)
                · refine lv_iconst (v := 3) hx hb dX4_aimOf_85 (by decide) ?_
                  exact hret _ _ _ _ _ _ hP hD hS (⟨by subst ev_2 ev_4; delta aimOf aimO; simp only [if_pos c23_4, if_neg c27_12, if_pos c39_13, if_pos c59_14, if_neg c74_15, if_pos c78_17], rfl⟩) dX4_aimOf_86
                · refine lv_iconst (v := 1) hx hb dX4_aimOf_81 (by decide) ?_
                  refine lv_goto (tgt := 86) hx hb dX4_aimOf_82 (by decide) ?_
                  exact hret _ _ _ _ _ _ hP hD hS (⟨by subst ev_2 ev_4; delta aimOf aimO; simp only [if_pos c23_4, if_neg c27_12, if_pos c39_13, if_pos c59_14, if_neg c74_15, if_neg c78_17], rfl⟩) dX4_aimOf_86
            · refine lv_iload_n hx hb dX4_aimOf_62 rfl (lv_at hl 3 rfl) ?_
              refine lv_if_le (tgt := 70) hx hb dX4_aimOf_63 (by decide) (fun c63_18 => ?_) (fun c63_18 => ?_)
              · refine lv_bipush (v := 6) hx hb dX4_aimOf_70 (by decide) ?_
                exact hret _ _ _ _ _ _ hP hD hS (⟨by subst ev_2 ev_4; delta aimOf aimO; simp only [if_pos c23_4, if_neg c27_12, if_pos c39_13, if_neg c59_14, if_pos c63_18], rfl⟩) dX4_aimOf_72
              · refine lv_iconst (v := 2) hx hb dX4_aimOf_66 (by decide) ?_
                refine lv_goto (tgt := 72) hx hb dX4_aimOf_67 (by decide) ?_
                exact hret _ _ _ _ _ _ hP hD hS (⟨by subst ev_2 ev_4; delta aimOf aimO; simp only [if_pos c23_4, if_neg c27_12, if_pos c39_13, if_neg c59_14, if_neg c63_18], rfl⟩) dX4_aimOf_72
          · refine lv_iload_n hx hb dX4_aimOf_42 rfl (lv_at hl 2 rfl) ?_
            refine lv_if_le (tgt := 50) hx hb dX4_aimOf_43 (by decide) (fun c43_19 => ?_) (fun c43_19 => ?_)
            · refine lv_iconst (v := 4) hx hb dX4_aimOf_50 (by decide) ?_
              exact hret _ _ _ _ _ _ hP hD hS (⟨by subst ev_2 ev_4; delta aimOf aimO; simp only [if_pos c23_4, if_neg c27_12, if_neg c39_13, if_pos c43_19], rfl⟩) dX4_aimOf_51
            · refine lv_iconst (v := 0) hx hb dX4_aimOf_46 (by decide) ?_
              refine lv_goto (tgt := 51) hx hb dX4_aimOf_47 (by decide) ?_
              exact hret _ _ _ _ _ _ hP hD hS (⟨by subst ev_2 ev_4; delta aimOf aimO; simp only [if_pos c23_4, if_neg c27_12, if_neg c39_13, if_neg c43_19], rfl⟩) dX4_aimOf_51
        · refine lv_iconst (v := -1) hx hb dX4_aimOf_30 (by decide) ?_
          exact hret _ _ _ _ _ _ hP hD hS (⟨by subst ev_2 ev_4; delta aimOf aimO; simp only [if_pos c23_4, if_pos c27_12], rfl⟩) dX4_aimOf_31
    refine lv_iload_n hx hb dX4_aimOf_11 rfl (lv_at hl 2 rfl) ?_
    refine lv_if_ge (tgt := 20) hx hb dX4_aimOf_12 (by decide) (fun c12_20 => ?_) (fun c12_20 => ?_)
    · refine lv_iload_n hx hb dX4_aimOf_20 rfl (lv_at hl 2 rfl) ?_
      exact J_3 _ (by first | exact (ab_ge (by assumption)).symm | exact (ab_nge (by assumption)).symm)
    · refine lv_iload_n hx hb dX4_aimOf_15 rfl (lv_at hl 2 rfl) ?_
      refine lv_ineg hx hb dX4_aimOf_16 ?_
      refine lv_goto (tgt := 21) hx hb dX4_aimOf_17 (by decide) ?_
      exact J_3 _ (by first | exact (ab_ge (by assumption)).symm | exact (ab_nge (by assumption)).symm)
  refine lv_iload_n hx hb dX4_aimOf_0 rfl (lv_at hl 0 rfl) ?_
  refine lv_if_ge (tgt := 9) hx hb dX4_aimOf_1 (by decide) (fun c1_21 => ?_) (fun c1_21 => ?_)
  · refine lv_iload_n hx hb dX4_aimOf_9 rfl (lv_at hl 0 rfl) ?_
    exact J_1 _ (by first | exact (ab_ge (by assumption)).symm | exact (ab_nge (by assumption)).symm)
  · refine lv_iload_n hx hb dX4_aimOf_4 rfl (lv_at hl 0 rfl) ?_
    refine lv_ineg hx hb dX4_aimOf_5 ?_
    refine lv_goto (tgt := 10) hx hb dX4_aimOf_6 (by decide) ?_
    exact J_1 _ (by first | exact (ab_ge (by assumption)).symm | exact (ab_nge (by assumption)).symm)

set_option maxHeartbeats 4000000 in
set_option maxRecDepth 100000 in
theorem c_pull (l : Launch) (E : NE) (ad : Nat → Nat) (st : NW) (b d t c : Int32) : nMi l yX4_pull wsX4_pull (nRm 1 20) E ad st [.int b, .int d, .int t, .int c] (fun r s1 => r = pull b d t c ∧ st = s1) := by
  refine nSi (cc := cX4_pull) (maxL := 12) (by decide) rfl (Nat.le_of_ble_eq_true rfl) ?_
  intro pg en s mi ar bw mth cd R Q A ls hx hb hml hown hts hRm hP hK hD hZ hA hl hret
  subst hRm
  have hown : s.vm.findClass RX4 = some mi.cls := hown
  have hS : va_S A s.heap s.heap [] := va_S.rf
  have hl : lv_has ls 12 [(0, .int b), (1, .int d), (2, .int t), (3, .int c)] := hl
  refine lv_iload_n hx hb dX4_pull_0 rfl (lv_at hl 3 rfl) ?_
  refine lv_bipush (v := 6) hx hb dX4_pull_1 (by decide) ?_
  refine lv_irem hx hb dX4_pull_3 (by decide) ?_
  refine lv_iload_n hx hb dX4_pull_4 rfl (lv_at hl 0 rfl) ?_
  refine lv_bipush (v := 6) hx hb dX4_pull_5 (by decide) ?_
  refine lv_irem hx hb dX4_pull_7 (by decide) ?_
  refine lv_isub hx hb dX4_pull_8 ?_
  refine lv_topi (fun x4_9 ex4_9 => ?_)
  refine lv_istore (lv' := [(4, .int x4_9), (0, .int b), (1, .int d), (2, .int t), (3, .int c)]) hx hb dX4_pull_9 hl (by decide) rfl (fun ls hl => ?_)
  refine lv_iload_n hx hb dX4_pull_11 rfl (lv_at hl 4 rfl) ?_
  refine lv_bipush (v := 6) hx hb dX4_pull_12 (by decide) ?_
  refine lv_idiv hx hb dX4_pull_14 (by decide) ?_
  refine lv_iload_n hx hb dX4_pull_15 rfl (lv_at hl 1 rfl) ?_
  refine lv_bipush (v := 6) hx hb dX4_pull_16 (by decide) ?_
  refine lv_idiv hx hb dX4_pull_18 (by decide) ?_
  refine lv_isub hx hb dX4_pull_19 ?_
  refine lv_topi (fun x5_20 ex5_20 => ?_)
  refine lv_istore (lv' := [(5, .int x5_20), (4, .int x4_9), (0, .int b), (1, .int d), (2, .int t), (3, .int c)]) hx hb dX4_pull_20 hl (by decide) rfl (fun ls hl => ?_)
  refine lv_iload hx hb dX4_pull_22 (lv_at hl 1 rfl) ?_
  refine lv_iload hx hb dX4_pull_24 (lv_at hl 1 rfl) ?_
  refine lv_imul hx hb dX4_pull_26 ?_
  refine lv_iload hx hb dX4_pull_27 (lv_at hl 0 rfl) ?_
  refine lv_iload hx hb dX4_pull_29 (lv_at hl 0 rfl) ?_
  refine lv_imul hx hb dX4_pull_31 ?_
  refine lv_iadd hx hb dX4_pull_32 ?_
  refine lv_topi (fun x6_33 ex6_33 => ?_)
  refine lv_istore (lv' := [(6, .int x6_33), (5, .int x5_20), (4, .int x4_9), (0, .int b), (1, .int d), (2, .int t), (3, .int c)]) hx hb dX4_pull_33 hl (by decide) rfl (fun ls hl => ?_)
  refine lv_iload hx hb dX4_pull_35 (lv_at hl 0 rfl) ?_
  refine lv_if_ne (tgt := 42) hx hb dX4_pull_37 (by decide) (fun c37_0 => ?_) (fun c37_0 => ?_)
  · refine lv_iload_n hx hb dX4_pull_42 rfl (lv_at hl 4 rfl) ?_
    refine nS_i (As := [.int d]) (rest := _) hx hb hml hown hts hP hK hD hZ hA hS ⟨Nat.zero_le _, Nat.zero_le _⟩ (c_across l E ad st d) (va_cwS 1 hts gX4_pull_X4_across rfl rfl rfl (by decide +kernel) ⟨Nat.le_of_ble_eq_true rfl, Nat.le_of_ble_eq_true rfl⟩) hl.1 rfl (Nat.le_of_ble_eq_true rfl) dX4_pull_43 (fun r_2 s_3 H locs hq hP hD hS => ?_)
    obtain ⟨rfl, rfl⟩ := hq
    refine lv_topi (fun x7_46 ex7_46 => ?_)
    refine lv_istore (lv' := [(7, .int x7_46), (6, .int x6_33), (5, .int x5_20), (4, .int x4_9), (0, .int b), (1, .int d), (2, .int t), (3, .int c)]) hx hb dX4_pull_46 hl (by decide) rfl (fun ls hl => ?_)
    refine lv_iload_n hx hb dX4_pull_48 rfl (lv_at hl 5 rfl) ?_
    refine nS_i (As := [.int d]) (rest := _) hx hb hml hown hts hP hK hD hZ hA hS ⟨Nat.zero_le _, Nat.zero_le _⟩ (c_down l E ad st d) (va_cwS 1 hts gX4_pull_X4_down rfl rfl rfl (by decide +kernel) ⟨Nat.le_of_ble_eq_true rfl, Nat.le_of_ble_eq_true rfl⟩) hl.1 rfl (Nat.le_of_ble_eq_true rfl) dX4_pull_49 (fun r_4 s_5 H locs hq hP hD hS => ?_)
    obtain ⟨rfl, rfl⟩ := hq
    refine lv_topi (fun x8_52 ex8_52 => ?_)
    refine lv_istore (lv' := [(8, .int x8_52), (7, .int x7_46), (6, .int x6_33), (5, .int x5_20), (4, .int x4_9), (0, .int b), (1, .int d), (2, .int t), (3, .int c)]) hx hb dX4_pull_52 hl (by decide) rfl (fun ls hl => ?_)
    refine lv_iload_n hx hb dX4_pull_54 rfl (lv_at hl 7 rfl) ?_
    refine lv_bipush (v := 100) hx hb dX4_pull_55 (by decide) ?_
    refine lv_imul hx hb dX4_pull_57 ?_
    refine lv_iload hx hb dX4_pull_58 (lv_at hl 2 rfl) ?_
    refine lv_idiv hx hb dX4_pull_60 (by assumption) ?_
    refine lv_topi (fun x9_61 ex9_61 => ?_)
    refine lv_istore (lv' := [(9, .int x9_61), (8, .int x8_52), (7, .int x7_46), (6, .int x6_33), (5, .int x5_20), (4, .int x4_9), (0, .int b), (1, .int d), (2, .int t), (3, .int c)]) hx hb dX4_pull_61 hl (by decide) rfl (fun ls hl => ?_)
    refine lv_iload hx hb dX4_pull_63 (lv_at hl 5 rfl) ?_
    refine lv_iload hx hb dX4_pull_65 (lv_at hl 2 rfl) ?_
    refine lv_imul hx hb dX4_pull_67 ?_
    refine lv_iload hx hb dX4_pull_68 (lv_at hl 4 rfl) ?_
    refine lv_iload hx hb dX4_pull_70 (lv_at hl 1 rfl) ?_
    refine lv_imul hx hb dX4_pull_72 ?_
    refine lv_iadd hx hb dX4_pull_73 ?_
    refine lv_topi (fun x10_74 ex10_74 => ?_)
    refine lv_istore (lv' := [(10, .int x10_74), (9, .int x9_61), (8, .int x8_52), (7, .int x7_46), (6, .int x6_33), (5, .int x5_20), (4, .int x4_9), (0, .int b), (1, .int d), (2, .int t), (3, .int c)]) hx hb dX4_pull_74 hl (by decide) rfl (fun ls hl => ?_)
    refine lv_iconst (v := 2) hx hb dX4_pull_76 (by decide) ?_
    refine lv_iload hx hb dX4_pull_77 (lv_at hl 0 rfl) ?_
    refine lv_imul hx hb dX4_pull_79 ?_
    refine lv_iload hx hb dX4_pull_80 (lv_at hl 0 rfl) ?_
    refine lv_imul hx hb dX4_pull_82 ?_
    refine lv_iload hx hb dX4_pull_83 (lv_at hl 4 rfl) ?_
    refine lv_iload hx hb dX4_pull_85 (lv_at hl 3 rfl) ?_
    refine lv_iload hx hb dX4_pull_87 (lv_at hl 3 rfl) ?_
    refine lv_imul hx hb dX4_pull_89 ?_
    refine lv_iload hx hb dX4_pull_90 (lv_at hl 2 rfl) ?_
    refine lv_iload hx hb dX4_pull_92 (lv_at hl 2 rfl) ?_
    refine lv_imul hx hb dX4_pull_94 ?_
    refine lv_iadd hx hb dX4_pull_95 ?_
    refine lv_imul hx hb dX4_pull_96 ?_
    refine lv_icmp_lt (tgt := 104) hx hb dX4_pull_97 (by decide) (fun c97_5 => ?_) (fun c97_5 => ?_)
    · refine lv_iconst (v := 0) hx hb dX4_pull_104 (by decide) ?_
      refine lv_istore (lv' := [(11, .int 0), (10, .int x10_74), (9, .int x9_61), (8, .int x8_52), (7, .int x7_46), (6, .int x6_33), (5, .int x5_20), (4, .int x4_9), (0, .int b), (1, .int d), (2, .int t), (3, .int c)]) hx hb dX4_pull_105 hl (by decide) rfl (fun ls hl => ?_)
      refine lv_iload hx hb dX4_pull_107 (lv_at hl 0 rfl) ?_
      refine lv_if_eq (tgt := 117) hx hb dX4_pull_109 (by decide) (fun c109_6 => ?_) (fun c109_6 => absurd (by decide) c109_6)
      refine lv_iload hx hb dX4_pull_117 (lv_at hl 2 rfl) ?_
      refine lv_iconst (v := 2) hx hb dX4_pull_119 (by decide) ?_
      refine lv_idiv hx hb dX4_pull_120 (by decide) ?_
      refine lv_ineg hx hb dX4_pull_121 ?_
      exact hret _ _ _ _ _ _ hP hD hS (⟨by subst ex4_9 ex5_20 ex6_33 ex7_46 ex8_52 ex9_61 ex10_74; delta pull pSq pAl pP pQ rm6; simp only [if_neg c37_0, if_pos c97_5, if_pos c109_6], rfl⟩) dX4_pull_122
    · refine lv_iconst (v := 1) hx hb dX4_pull_100 (by decide) ?_
      refine lv_goto (tgt := 105) hx hb dX4_pull_101 (by decide) ?_
      refine lv_istore (lv' := [(11, .int 1), (10, .int x10_74), (9, .int x9_61), (8, .int x8_52), (7, .int x7_46), (6, .int x6_33), (5, .int x5_20), (4, .int x4_9), (0, .int b), (1, .int d), (2, .int t), (3, .int c)]) hx hb dX4_pull_105 hl (by decide) rfl (fun ls hl => ?_)
      refine lv_iload hx hb dX4_pull_107 (lv_at hl 0 rfl) ?_
      refine lv_if_eq (tgt := 117) hx hb dX4_pull_109 (by decide) (fun c109_7 => absurd c109_7 (by decide)) (fun c109_7 => ?_)
      refine lv_iload hx hb dX4_pull_112 (lv_at hl 2 rfl) ?_
      refine lv_goto (tgt := 122) hx hb dX4_pull_114 (by decide) ?_
      exact hret _ _ _ _ _ _ hP hD hS (⟨by subst ex4_9 ex5_20 ex6_33 ex7_46 ex8_52 ex9_61 ex10_74; delta pull pSq pAl pP pQ rm6; simp only [if_neg c37_0, if_neg c97_5, if_neg c109_7], rfl⟩) dX4_pull_122
  · refine lv_iconst (v := 0) hx hb dX4_pull_40 (by decide) ?_
    exact hret _ _ _ _ _ _ hP hD hS (⟨by subst ex4_9 ex5_20 ex6_33; delta pull pSq pAl pP pQ rm6; simp only [if_pos c37_0], rfl⟩) dX4_pull_41

set_option maxHeartbeats 4000000 in
set_option maxRecDepth 100000 in
theorem c_requireCell (l : Launch) (E : NE) (ad : Nat → Nat) (st : NW) (c : Nat) (hc : c < 36) : nMv l yX4_requireCell wsX4_requireCell (nRm 0 0) E ad st [.int (nI c)] (fun s1 => st = s1) := by
  refine nSv (cc := cX4_requireCell) (maxL := 1) (by decide) rfl (Nat.le_of_ble_eq_true rfl) ?_
  intro pg en s mi ar bw mth cd R Q A ls hx hb hml hown hts hRm hP hK hD hZ hA hl hret
  subst hRm
  have hown : s.vm.findClass RX4 = some mi.cls := hown
  have hS : va_S A s.heap s.heap [] := va_S.rf
  have hl : lv_has ls 1 [(0, .int (nI c))] := hl
  refine lv_iload_n hx hb dX4_requireCell_0 rfl (lv_at hl 0 rfl) ?_
  refine lv_if_lt (tgt := 10) hx hb dX4_requireCell_1 (by decide) (fun c1_0 => absurd c1_0 (nI_pos (by omega))) (fun c1_0 => ?_)
  refine lv_iload_n hx hb dX4_requireCell_4 rfl (lv_at hl 0 rfl) ?_
  refine lv_bipush (v := 36) hx hb dX4_requireCell_5 (by decide) ?_
  refine lv_icmp_lt (tgt := 21) hx hb dX4_requireCell_7 (by decide) (fun c7_1 => ?_) (fun c7_1 => absurd ((nI_ltL (n := 36) rfl (by decide) (by omega)).mpr hc) c7_1)
  exact hret _ _ _ _ _ hP hD hS (rfl) dX4_requireCell_21

set_option maxHeartbeats 4000000 in
set_option maxRecDepth 100000 in
theorem c_requireSetting (l : Launch) (E : NE) (ad : Nat → Nat) (st : NW) (c : Nat) (hc : c < 3) : nMv l yX4_requireSetting wsX4_requireSetting (nRm 0 0) E ad st [.int (nI c)] (fun s1 => st = s1) := by
  refine nSv (cc := cX4_requireSetting) (maxL := 1) (by decide) rfl (Nat.le_of_ble_eq_true rfl) ?_
  intro pg en s mi ar bw mth cd R Q A ls hx hb hml hown hts hRm hP hK hD hZ hA hl hret
  subst hRm
  have hown : s.vm.findClass RX4 = some mi.cls := hown
  have hS : va_S A s.heap s.heap [] := va_S.rf
  have hl : lv_has ls 1 [(0, .int (nI c))] := hl
  refine lv_iload_n hx hb dX4_requireSetting_0 rfl (lv_at hl 0 rfl) ?_
  refine lv_if_lt (tgt := 9) hx hb dX4_requireSetting_1 (by decide) (fun c1_0 => absurd c1_0 (nI_pos (by omega))) (fun c1_0 => ?_)
  refine lv_iload_n hx hb dX4_requireSetting_4 rfl (lv_at hl 0 rfl) ?_
  refine lv_iconst (v := 3) hx hb dX4_requireSetting_5 (by decide) ?_
  refine lv_icmp_lt (tgt := 20) hx hb dX4_requireSetting_6 (by decide) (fun c6_1 => ?_) (fun c6_1 => absurd ((nI_ltL (n := 3) rfl (by decide) (by omega)).mpr hc) c6_1)
  exact hret _ _ _ _ _ hP hD hS (rfl) dX4_requireSetting_20

set_option maxHeartbeats 4000000 in
set_option maxRecDepth 100000 in
theorem c_requireBetween (l : Launch) (E : NE) (ad : Nat → Nat) (st : NW) (v a b : Int32) (h1 : ¬ v < a) (h2 : v ≤ b) : nMv l yX4_requireBetween wsX4_requireBetween (nRm 0 0) E ad st [.int v, .int a, .int b] (fun s1 => st = s1) := by
  refine nSv (cc := cX4_requireBetween) (maxL := 3) (by decide) rfl (Nat.le_of_ble_eq_true rfl) ?_
  intro pg en s mi ar bw mth cd R Q A ls hx hb hml hown hts hRm hP hK hD hZ hA hl hret
  subst hRm
  have hown : s.vm.findClass RX4 = some mi.cls := hown
  have hS : va_S A s.heap s.heap [] := va_S.rf
  have hl : lv_has ls 3 [(0, .int v), (1, .int a), (2, .int b)] := hl
  refine lv_iload_n hx hb dX4_requireBetween_0 rfl (lv_at hl 0 rfl) ?_
  refine lv_iload_n hx hb dX4_requireBetween_1 rfl (lv_at hl 1 rfl) ?_
  refine lv_icmp_lt (tgt := 10) hx hb dX4_requireBetween_2 (by decide) (fun c2_0 => absurd c2_0 h1) (fun c2_0 => ?_)
  refine lv_iload_n hx hb dX4_requireBetween_5 rfl (lv_at hl 0 rfl) ?_
  refine lv_iload_n hx hb dX4_requireBetween_6 rfl (lv_at hl 2 rfl) ?_
  refine lv_icmp_le (tgt := 21) hx hb dX4_requireBetween_7 (by decide) (fun c7_1 => ?_) (fun c7_1 => absurd h2 c7_1)
  exact hret _ _ _ _ _ hP hD hS (rfl) dX4_requireBetween_21

set_option maxHeartbeats 4000000 in
set_option maxRecDepth 100000 in
theorem c_requireDirection (l : Launch) (E : NE) (ad : Nat → Nat) (st : NW) (d : Nat) (hd : d < 8) : nMv l yX4_requireDirection wsX4_requireDirection (nRm 1 22) E ad st [.int (nI d)] (fun s1 => st = s1) := by
  refine nSv (cc := cX4_requireDirection) (maxL := 1) (by decide) rfl (Nat.le_of_ble_eq_true rfl) ?_
  intro pg en s mi ar bw mth cd R Q A ls hx hb hml hown hts hRm hP hK hD hZ hA hl hret
  subst hRm
  have hown : s.vm.findClass RX4 = some mi.cls := hown
  have hS : va_S A s.heap s.heap [] := va_S.rf
  have hl : lv_has ls 1 [(0, .int (nI d))] := hl
  refine lv_iload_n hx hb dX4_requireDirection_0 rfl (lv_at hl 0 rfl) ?_
  refine lv_iconst (v := 0) hx hb dX4_requireDirection_1 (by decide) ?_
  refine lv_bipush (v := 7) hx hb dX4_requireDirection_2 (by decide) ?_
  refine nS_v (As := [.int (nI d), .int 0, .int 7]) (rest := _) hx hb hml hown hts hP hK hD hZ hA hS ⟨Nat.zero_le _, Nat.zero_le _⟩ (c_requireBetween l E ad st (nI d) 0 7 (nI_pos (by omega)) ((nI_leL (n := 7) rfl (by decide) (by omega)).mpr (by omega))) (va_cwS 3 hts gX4_requireDirection_X4_requireBetween rfl rfl rfl (by decide +kernel) ⟨Nat.le_of_ble_eq_true rfl, Nat.le_of_ble_eq_true rfl⟩) hl.1 rfl (Nat.le_of_ble_eq_true rfl) dX4_requireDirection_4 (fun s_1 H locs hq hP hD hS => ?_)
  obtain rfl := hq
  exact hret _ _ _ _ _ hP hD hS (rfl) dX4_requireDirection_7


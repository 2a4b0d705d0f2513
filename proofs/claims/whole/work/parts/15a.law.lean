theorem nlt01 {t : Int32} (h : ¬ t < 1) : ¬ t < 0 := fun z => h (by
  rw [Int32.lt_iff_toInt_lt] at z ⊢
  have a : (0 : Int32).toInt = 0 := by decide
  have b : (1 : Int32).toInt = 1 := by decide
  omega)
theorem one_le {k : Nat} (h : ¬ nI k < 1) (hk : k < 2 ^ 31) : 1 ≤ k := by
  have := mt (nI_ltI (a := k) (b := 1) hk (by decide)).mpr h
  omega

set_option maxHeartbeats 1000000 in
theorem q_needle {l : Launch} (hlt : l.stackTraces = false) {E : NE} {ad : Nat → Nat} {st : NW} {N : Nat → Int32} {Rs : Nat → Nat → Int32} {a x : Nat} {C : Nat → Int32} {n : Nat} {P : Nat → Int32} {th : Int32} {J : Nat → Nat → Int32} {v : Int64} (hS : LSt E ad st N Rs a x C n P th J v) (p0 : Int32) (p1 : Int32) : CaseOK l E ad st yL_needle wsL_needle (nRx 9 147) yX5_needle wsX5_needle (nRm 2 45) [.int p0, .int p1] := by
  obtain ⟨ha, hxx, hn, hO, hOs, hC, hR, hW, hM, h2⟩ := id hS
  have h0 : ∃ fs, st 0 = some (.inr (4, fs)) := ⟨_, hW.1.1⟩
  by_cases hb1 : inI p0 0 35 = 0
  · exact q_throw hS (kk := 1) (by decide) (w_needle_1 l E ad st p0 p1 h0 _ (x_needle_c l hlt E ad st N Rs a x C n ha hxx hn hO.2.1 hW p0 (inI_bad36 hb1) p1)) (fun s9 h => by obtain rfl := h; exact ⟨hW, frX.rf⟩) (fun s1 hM1 => m_needle_c l E ad s1 208 N P a C n th J ha hn hO hM1 p0 hb1 p1) (fun s1 b s2 h => h)
  · obtain ⟨c, hc, rfl⟩ := inI_nat (M := 35) (m := 35) (by decide) hb1
    have hc : c < 36 := by omega
    by_cases hb2 : inI p1 0 7 = 0
    · exact q_throw hS (kk := 2) (by decide) (w_needle_2 l E ad st _ p1 h0 _ (x_needle_d l hlt E ad st N Rs a x C n ha hxx hn hO.2.1 hW c hc p1 (inI_bad hb2))) (fun s9 h => by obtain rfl := h; exact ⟨hW, frX.rf⟩) (fun s1 hM1 => m_needle_d l E ad s1 208 N P a C n th J ha hn hO hM1 c hc p1 hb2) (fun s1 b s2 h => h)
    · obtain ⟨d, hd, rfl⟩ := inI_nat (M := 7) (m := 7) (by decide) hb2
      have hd8 : d < 8 := by omega
      exact q_valid hS (N' := (upd N (6 + c) (nI d))) (Rs' := (svR N Rs x)) (a' := (svA a)) (x' := (svX x)) (C' := C) (n' := n) (P' := (svP P a N)) (fun h240 => w_needle l E ad st _ _ h0 v _ (c_needle l E ad st N Rs a x C n ha hxx hn hO.2.1 hW c d hc hd8) h240) (fun r s9 h => h) (fun s1 hM1 => m_needle l E ad s1 208 N P a C n th J ha hn hO hM1 c d hc hd8) (fun s1 b s2 h => ⟨h.1, h.2.1, h.2.2, (okN_upd hO (by omega) (fun _ _ => ⟨⟨d, hd8⟩, rfl⟩) (fun z => absurd z (by omega)) (fun z => absurd z (by omega)) (fun z => absurd z (by omega)))⟩) ⟨svA_le ha, svX_lt, hn, svR_ok hOs hO, hC, hRel_sv hR ha hxx⟩

set_option maxHeartbeats 1000000 in
theorem q_friction {l : Launch} (hlt : l.stackTraces = false) {E : NE} {ad : Nat → Nat} {st : NW} {N : Nat → Int32} {Rs : Nat → Nat → Int32} {a x : Nat} {C : Nat → Int32} {n : Nat} {P : Nat → Int32} {th : Int32} {J : Nat → Nat → Int32} {v : Int64} (hS : LSt E ad st N Rs a x C n P th J v) (p0 : Int32) (p1 : Int32) : CaseOK l E ad st yL_friction wsL_friction (nRx 9 147) yX5_friction wsX5_friction (nRm 2 45) [.int p0, .int p1] := by
  obtain ⟨ha, hxx, hn, hO, hOs, hC, hR, hW, hM, h2⟩ := id hS
  have h0 : ∃ fs, st 0 = some (.inr (4, fs)) := ⟨_, hW.1.1⟩
  by_cases hb1 : inI p0 0 35 = 0
  · exact q_throw hS (kk := 1) (by decide) (w_friction_1 l E ad st p0 p1 h0 _ (x_friction_c l hlt E ad st N Rs a x C n ha hxx hn hO.2.1 hW p0 (inI_bad36 hb1) p1)) (fun s9 h => by obtain rfl := h; exact ⟨hW, frX.rf⟩) (fun s1 hM1 => m_friction_c l E ad s1 208 N P a C n th J ha hn hO hM1 p0 hb1 p1) (fun s1 b s2 h => h)
  · obtain ⟨c, hc, rfl⟩ := inI_nat (M := 35) (m := 35) (by decide) hb1
    have hc : c < 36 := by omega
    by_cases hb2 : inI p1 0 999 = 0
    · exact q_throw hS (kk := 2) (by decide) (w_friction_2 l E ad st _ p1 h0 _ (x_friction_v l hlt E ad st N Rs a x C n ha hxx hn hO.2.1 hW c hc p1 (inI_bad hb2))) (fun s9 h => by obtain rfl := h; exact ⟨hW, frX.rf⟩) (fun s1 hM1 => m_friction_v l E ad s1 208 N P a C n th J ha hn hO hM1 c hc p1 hb2) (fun s1 b s2 h => h)
    · exact q_valid hS (N' := (upd N (42 + c) p1)) (Rs' := (svR N Rs x)) (a' := (svA a)) (x' := (svX x)) (C' := C) (n' := n) (P' := (svP P a N)) (fun h240 => w_friction l E ad st _ _ h0 v _ (c_friction l E ad st N Rs a x C n ha hxx hn hO.2.1 hW c p1 hc (inI_yes hb2).1 (inI_yes hb2).2) h240) (fun r s9 h => h) (fun s1 hM1 => m_friction l E ad s1 208 N P a C n th J ha hn hO hM1 c p1 hc (inI_yes hb2).1 (inI_yes hb2).2) (fun s1 b s2 h => ⟨h.1, h.2.1, h.2.2, (okN_upd hO (by omega) (fun _ z => absurd z (by omega)) (fun z => absurd z (by omega)) (fun z => absurd z (by omega)) (fun z => absurd z (by omega)))⟩) ⟨svA_le ha, svX_lt, hn, svR_ok hOs hO, hC, hRel_sv hR ha hxx⟩

set_option maxHeartbeats 1000000 in
theorem q_hold {l : Launch} (hlt : l.stackTraces = false) {E : NE} {ad : Nat → Nat} {st : NW} {N : Nat → Int32} {Rs : Nat → Nat → Int32} {a x : Nat} {C : Nat → Int32} {n : Nat} {P : Nat → Int32} {th : Int32} {J : Nat → Nat → Int32} {v : Int64} (hS : LSt E ad st N Rs a x C n P th J v) (p0 : Int32) (p1 : Int32) (h01 : p1 = 0 ∨ p1 = 1) : CaseOK l E ad st yL_hold wsL_hold (nRx 9 147) yX5_hold wsX5_hold (nRm 2 45) [.int p0, .int p1] := by
  obtain ⟨ha, hxx, hn, hO, hOs, hC, hR, hW, hM, h2⟩ := id hS
  have h0 : ∃ fs, st 0 = some (.inr (4, fs)) := ⟨_, hW.1.1⟩
  by_cases hb1 : inI p0 0 35 = 0
  · exact q_throw hS (kk := 1) (by decide) (w_hold_1 l E ad st p0 p1 h0 _ (x_hold_c l hlt E ad st N Rs a x C n ha hxx hn hO.2.1 hW p0 (inI_bad36 hb1) p1)) (fun s9 h => by obtain rfl := h; exact ⟨hW, frX.rf⟩) (fun s1 hM1 => m_hold_c l E ad s1 208 N P a C n th J ha hn hO hM1 p0 hb1 p1) (fun s1 b s2 h => h)
  · obtain ⟨c, hc, rfl⟩ := inI_nat (M := 35) (m := 35) (by decide) hb1
    have hc : c < 36 := by omega
    exact q_valid hS (N' := (upd N (78 + c) p1)) (Rs' := (svR N Rs x)) (a' := (svA a)) (x' := (svX x)) (C' := C) (n' := n) (P' := (svP P a N)) (fun h240 => w_hold l E ad st _ _ h0 v _ (c_hold l E ad st N Rs a x C n ha hxx hn hO.2.1 hW c p1 hc h01) h240) (fun r s9 h => h) (fun s1 hM1 => m_hold l E ad s1 208 N P a C n th J ha hn hO hM1 c p1 hc h01) (fun s1 b s2 h => ⟨h.1, h.2.1, h.2.2, (okN_upd hO (by omega) (fun _ z => absurd z (by omega)) (fun z => absurd z (by omega)) (fun z => absurd z (by omega)) (fun _ _ => h01))⟩) ⟨svA_le ha, svX_lt, hn, svR_ok hOs hO, hC, hRel_sv hR ha hxx⟩

set_option maxHeartbeats 1000000 in
theorem q_swap {l : Launch} (hlt : l.stackTraces = false) {E : NE} {ad : Nat → Nat} {st : NW} {N : Nat → Int32} {Rs : Nat → Nat → Int32} {a x : Nat} {C : Nat → Int32} {n : Nat} {P : Nat → Int32} {th : Int32} {J : Nat → Nat → Int32} {v : Int64} (hS : LSt E ad st N Rs a x C n P th J v) (p0 : Int32) (p1 : Int32) : CaseOK l E ad st yL_swap wsL_swap (nRx 9 146) yX5_swap wsX5_swap (nRm 2 45) [.int p0, .int p1] := by
  obtain ⟨ha, hxx, hn, hO, hOs, hC, hR, hW, hM, h2⟩ := id hS
  have h0 : ∃ fs, st 0 = some (.inr (4, fs)) := ⟨_, hW.1.1⟩
  by_cases hb1 : inI p0 0 35 = 0
  · exact q_throw hS (kk := 1) (by decide) (w_swap_1 l E ad st p0 p1 h0 _ (x_swap_c l hlt E ad st N Rs a x C n ha hxx hn hO.2.1 hW p0 (inI_bad36 hb1) p1)) (fun s9 h => by obtain rfl := h; exact ⟨hW, frX.rf⟩) (fun s1 hM1 => m_swap_c l E ad s1 208 N P a C n th J ha hn hO hM1 p0 hb1 p1) (fun s1 b s2 h => h)
  · obtain ⟨c, hc, rfl⟩ := inI_nat (M := 35) (m := 35) (by decide) hb1
    have hc : c < 36 := by omega
    by_cases hb2 : inI p1 0 35 = 0
    · exact q_throw hS (kk := 1) (by decide) (w_swap_1 l E ad st _ p1 h0 _ (x_swap_o l hlt E ad st N Rs a x C n ha hxx hn hO.2.1 hW c hc p1 (inI_bad36 hb2))) (fun s9 h => by obtain rfl := h; exact ⟨hW, frX.rf⟩) (fun s1 hM1 => m_swap_o l E ad s1 208 N P a C n th J ha hn hO hM1 c hc p1 hb2) (fun s1 b s2 h => h)
    · obtain ⟨o, ho, rfl⟩ := inI_nat (M := 35) (m := 35) (by decide) hb2
      have ho9 : o < 36 := by omega
      exact q_valid hS (N' := (swpN N c o)) (Rs' := (svR N Rs x)) (a' := (svA a)) (x' := (svX x)) (C' := C) (n' := n) (P' := (svP P a N)) (fun h240 => w_swap l E ad st _ _ h0 v _ (c_swap l E ad st N Rs a x C n ha hxx hn hO.2.1 hW c o hc ho9) h240) (fun r s9 h => h) (fun s1 hM1 => m_swap l E ad s1 208 N P a C n th J ha hn hO hM1 c o hc ho9) (fun s1 b s2 h => ⟨h.1, h.2.1, h.2.2, (okN_swap hO hc ho9)⟩) ⟨svA_le ha, svX_lt, hn, svR_ok hOs hO, hC, hRel_sv hR ha hxx⟩

set_option maxHeartbeats 1000000 in
theorem q_bar {l : Launch} (hlt : l.stackTraces = false) {E : NE} {ad : Nat → Nat} {st : NW} {N : Nat → Int32} {Rs : Nat → Nat → Int32} {a x : Nat} {C : Nat → Int32} {n : Nat} {P : Nat → Int32} {th : Int32} {J : Nat → Nat → Int32} {v : Int64} (hS : LSt E ad st N Rs a x C n P th J v) (p0 : Int32) (p1 : Int32) (p2 : Int32) : CaseOK l E ad st yL_bar wsL_bar (nRx 9 147) yX5_bar wsX5_bar (nRm 3 63) [.int p0, .int p1, .int p2] := by
  obtain ⟨ha, hxx, hn, hO, hOs, hC, hR, hW, hM, h2⟩ := id hS
  have h0 : ∃ fs, st 0 = some (.inr (4, fs)) := ⟨_, hW.1.1⟩
  by_cases hb1 : inI p0 0 35 = 0
  · exact q_throw hS (kk := 1) (by decide) (w_bar_1 l E ad st p0 p1 p2 h0 _ (x_bar_c l hlt E ad st N Rs a x C n ha hxx hn hO.2.1 hW p0 (inI_bad36 hb1) p1 p2)) (fun s9 h => by obtain rfl := h; exact ⟨hW, frX.rf⟩) (fun s1 hM1 => m_bar_c l E ad s1 208 N P a C n th J ha hn hO hM1 p0 hb1 p1 p2) (fun s1 b s2 h => h)
  · obtain ⟨c, hc, rfl⟩ := inI_nat (M := 35) (m := 35) (by decide) hb1
    have hc : c < 36 := by omega
    by_cases hb2 : inI p1 0 7 = 0
    · exact q_throw hS (kk := 2) (by decide) (w_bar_2 l E ad st _ p1 p2 h0 _ (x_bar_d l hlt E ad st N Rs a x C n ha hxx hn hO.2.1 hW c hc p1 (inI_bad hb2) p2)) (fun s9 h => by obtain rfl := h; exact ⟨hW, frX.rf⟩) (fun s1 hM1 => m_bar_d l E ad s1 208 N P a C n th J ha hn hO hM1 c hc p1 p2 (if_pos hb2)) (fun s1 b s2 h => h)
    · by_cases hb3 : inI p2 1 50 = 0
      · obtain ⟨d, hd, rfl⟩ := inI_nat (M := 7) (m := 7) (by decide) hb2
        have hd8 : d < 8 := by omega
        exact q_throw hS (kk := 2) (by decide) (w_bar_2 l E ad st _ _ p2 h0 _ (x_bar_t l hlt E ad st N Rs a x C n ha hxx hn hO.2.1 hW c hc d hd8 p2 (inI_badA hb3))) (fun s9 h => by obtain rfl := h; exact ⟨hW, frX.rf⟩) (fun s1 hM1 => m_bar_d l E ad s1 208 N P a C n th J ha hn hO hM1 c hc (nI d) p2 (by rw [if_neg hb2, if_pos hb3])) (fun s1 b s2 h => h)
      · obtain ⟨d, hd, rfl⟩ := inI_nat (M := 7) (m := 7) (by decide) hb2
        have hd8 : d < 8 := by omega
        obtain ⟨t1, t2⟩ := inI_yes hb3
        by_cases hb4 : cnI (barP N) 36 = 6 ∧ N (150 + c) = 0
        · exact q_throw hS (kk := 3) (by decide) (w_bar_3 l E ad st _ _ _ h0 _ (x_bar_n l hlt E ad st N Rs a x C n ha hxx hn hO.2.1 hW c hc d p2 hd8 t1 t2 (by rw [gN4 hc, hb4.2]; decide) (by rw [← cnBar_g, hb4.1]; exact Nat.le_refl _))) (fun s9 h => by obtain rfl := h; exact ⟨hW, frX.rf⟩) (fun s1 hM1 => m_bar_n l E ad s1 208 N P a C n th J ha hn hO hM1 c d p2 hc hd8 t1 t2 hb4.1 hb4.2) (fun s1 b s2 h => h)
        · have hlt6 : N (150 + c) ≤ 0 → cnI (barP N) 36 < 6 := fun z => Nat.lt_of_le_of_ne hO.2.2.2 (fun y => hb4 ⟨y, okN_st0 hO hc z⟩)
          exact q_valid hS (N' := (upd (upd N (114 + c) (nI d)) (150 + c) p2)) (Rs' := (svR N Rs x)) (a' := (svA a)) (x' := (svX x)) (C' := C) (n' := n) (P' := (svP P a N)) (fun h240 => w_bar l E ad st _ _ _ h0 v _ (c_bar l E ad st N Rs a x C n ha hxx hn hO.2.1 hW c d p2 hc hd8 t1 t2 (fun z => by rw [← cnBar_g]; rw [gN4 hc] at z; exact hlt6 z)) h240) (fun r s9 h => h) (fun s1 hM1 => m_bar l E ad s1 208 N P a C n th J ha hn hO hM1 c d p2 hc hd8 t1 t2 (fun y z => hb4 ⟨y, z⟩)) (fun s1 b s2 h => ⟨(h.1.trans (congrArg nI cnBar_g)), h.2.1, h.2.2, (okN_bar hO hc hd8 t1 t2 hlt6)⟩) ⟨svA_le ha, svX_lt, hn, svR_ok hOs hO, hC, hRel_sv hR ha hxx⟩

set_option maxHeartbeats 1000000 in
theorem q_unbar {l : Launch} (hlt : l.stackTraces = false) {E : NE} {ad : Nat → Nat} {st : NW} {N : Nat → Int32} {Rs : Nat → Nat → Int32} {a x : Nat} {C : Nat → Int32} {n : Nat} {P : Nat → Int32} {th : Int32} {J : Nat → Nat → Int32} {v : Int64} (hS : LSt E ad st N Rs a x C n P th J v) (p0 : Int32) : CaseOK l E ad st yL_unbar wsL_unbar (nRx 9 145) yX5_unbar wsX5_unbar (nRm 2 45) [.int p0] := by
  obtain ⟨ha, hxx, hn, hO, hOs, hC, hR, hW, hM, h2⟩ := id hS
  have h0 : ∃ fs, st 0 = some (.inr (4, fs)) := ⟨_, hW.1.1⟩
  by_cases hb1 : inI p0 0 35 = 0
  · exact q_throw hS (kk := 1) (by decide) (w_unbar_1 l E ad st p0 h0 _ (x_unbar_c l hlt E ad st N Rs a x C n ha hxx hn hO.2.1 hW p0 (inI_bad36 hb1))) (fun s9 h => by obtain rfl := h; exact ⟨hW, frX.rf⟩) (fun s1 hM1 => m_unbar_c l E ad s1 208 N P a C n th J ha hn hO hM1 p0 hb1) (fun s1 b s2 h => h)
  · obtain ⟨c, hc, rfl⟩ := inI_nat (M := 35) (m := 35) (by decide) hb1
    have hc : c < 36 := by omega
    by_cases hb2 : N (150 + c) = 0
    · exact q_throw hS (kk := 2) (by decide) (w_unbar_2 l E ad st _ h0 _ (x_unbar_n l hlt E ad st N Rs a x C n ha hxx hn hO.2.1 hW c hc (by rw [gN4 hc, hb2]; decide))) (fun s9 h => by obtain rfl := h; exact ⟨hW, frX.rf⟩) (fun s1 hM1 => m_unbar_n l E ad s1 208 N P a C n th J ha hn hO hM1 c hc hb2) (fun s1 b s2 h => h)
    · exact q_valid hS (N' := (upd (upd N (114 + c) 0) (150 + c) 0)) (Rs' := (svR N Rs x)) (a' := (svA a)) (x' := (svX x)) (C' := C) (n' := n) (P' := (svP P a N)) (fun h240 => w_unbar l E ad st _ h0 v _ (c_unbar l E ad st N Rs a x C n ha hxx hn hO.2.1 hW c hc (by rw [gN4 hc]; exact fun z => hb2 (okN_st0 hO hc z))) h240) (fun r s9 h => h) (fun s1 hM1 => m_unbar l E ad s1 208 N P a C n th J ha hn hO hM1 c hc hb2) (fun s1 b s2 h => ⟨(h.1.trans (congrArg nI cnBar_g)), h.2.1, h.2.2, (okN_unbar hO hc)⟩) ⟨svA_le ha, svX_lt, hn, svR_ok hOs hO, hC, hRel_sv hR ha hxx⟩

set_option maxHeartbeats 1000000 in
theorem q_coil {l : Launch} (hlt : l.stackTraces = false) {E : NE} {ad : Nat → Nat} {st : NW} {N : Nat → Int32} {Rs : Nat → Nat → Int32} {a x : Nat} {C : Nat → Int32} {n : Nat} {P : Nat → Int32} {th : Int32} {J : Nat → Nat → Int32} {v : Int64} (hS : LSt E ad st N Rs a x C n P th J v) (p0 : Int32) (p1 : Int32) : CaseOK l E ad st yL_coil wsL_coil (nRx 9 147) yX5_coil wsX5_coil (nRm 2 45) [.int p0, .int p1] := by
  obtain ⟨ha, hxx, hn, hO, hOs, hC, hR, hW, hM, h2⟩ := id hS
  have h0 : ∃ fs, st 0 = some (.inr (4, fs)) := ⟨_, hW.1.1⟩
  by_cases hb1 : inI p0 0 50 = 0
  · exact q_throw hS (kk := 1) (by decide) (w_coil_1 l E ad st p0 p1 h0 _ (x_coil_t l hlt E ad st N Rs a x C n ha hxx hn hO.2.1 hW p0 p1 (inI_bad hb1))) (fun s9 h => by obtain rfl := h; exact ⟨hW, frX.rf⟩) (fun s1 hM1 => m_coil_t l E ad s1 208 N P a C n th J ha hn hO hM1 p0 p1 hb1) (fun s1 b s2 h => h)
  · obtain ⟨t1, t2⟩ := inI_yes hb1
    by_cases hb2 : inI p1 0 7 = 0
    · exact q_throw hS (kk := 1) (by decide) (w_coil_1 l E ad st p0 p1 h0 _ (x_coil_d l hlt E ad st N Rs a x C n ha hxx hn hO.2.1 hW p0 t1 t2 p1 (inI_bad hb2))) (fun s9 h => by obtain rfl := h; exact ⟨hW, frX.rf⟩) (fun s1 hM1 => m_coil_d l E ad s1 208 N P a C n th J ha hn hO hM1 p0 p1 t1 t2 hb2) (fun s1 b s2 h => h)
    · obtain ⟨d, hd, rfl⟩ := inI_nat (M := 7) (m := 7) (by decide) hb2
      have hd8 : d < 8 := by omega
      exact q_valid hS (N' := (upd (upd N 5 (nI d)) 4 p0)) (Rs' := (svR N Rs x)) (a' := (svA a)) (x' := (svX x)) (C' := C) (n' := n) (P' := (svP P a N)) (fun h240 => w_coil l E ad st _ _ h0 v _ (c_coil l E ad st N Rs a x C n ha hxx hn hO.2.1 hW p0 d hd8 t1 t2) h240) (fun r s9 h => h) (fun s1 hM1 => m_coil l E ad s1 208 N P a C n th J ha hn hO hM1 p0 d hd8 t1 t2) (fun s1 b s2 h => ⟨h.1, h.2.1, h.2.2, (okN_upd (okN_upd hO (by omega) (fun z => absurd z (by omega)) (fun z => absurd z (by omega)) (fun _ => ⟨⟨d, hd8⟩, rfl⟩) (fun z => absurd z (by omega))) (by omega) (fun z => absurd z (by omega)) (fun z => absurd z (by omega)) (fun z => absurd z (by omega)) (fun z => absurd z (by omega)))⟩) ⟨svA_le ha, svX_lt, hn, svR_ok hOs hO, hC, hRel_sv hR ha hxx⟩

set_option maxHeartbeats 1000000 in
theorem q_set {l : Launch} (hlt : l.stackTraces = false) {E : NE} {ad : Nat → Nat} {st : NW} {N : Nat → Int32} {Rs : Nat → Nat → Int32} {a x : Nat} {C : Nat → Int32} {n : Nat} {P : Nat → Int32} {th : Int32} {J : Nat → Nat → Int32} {v : Int64} (hS : LSt E ad st N Rs a x C n P th J v) (p0 : Int32) (p1 : Int32) : CaseOK l E ad st yL_set wsL_set (nRx 9 147) yX5_set wsX5_set (nRm 2 45) [.int p0, .int p1] := by
  obtain ⟨ha, hxx, hn, hO, hOs, hC, hR, hW, hM, h2⟩ := id hS
  have h0 : ∃ fs, st 0 = some (.inr (4, fs)) := ⟨_, hW.1.1⟩
  by_cases hb1 : inI p0 0 2 = 0
  · exact q_throw hS (kk := 1) (by decide) (w_set_1 l E ad st p0 p1 h0 _ (x_set_c l hlt E ad st N Rs a x C n ha hxx hn hO.2.1 hW p0 p1 (inI_bad3 hb1))) (fun s9 h => by obtain rfl := h; exact ⟨hW, frX.rf⟩) (fun s1 hM1 => m_set_c l E ad s1 208 N P a C n th J ha hn hO hM1 p0 p1 hb1) (fun s1 b s2 h => h)
  · obtain ⟨c, hc, rfl⟩ := inI_nat (M := 2) (m := 2) (by decide) hb1
    have hc : c < 3 := by omega
    by_cases hb2 : inI p1 0 (tM c) = 0
    · exact q_throw hS (kk := 2) (by decide) (w_set_2 l E ad st _ p1 h0 _ (x_set_v l hlt E ad st N Rs a x C n ha hxx hn hO.2.1 hW c hc p1 (inI_bad hb2))) (fun s9 h => by obtain rfl := h; exact ⟨hW, frX.rf⟩) (fun s1 hM1 => m_set_v l E ad s1 208 N P a C n th J ha hn hO hM1 c hc p1 hb2) (fun s1 b s2 h => h)
    · exact q_valid hS (N' := (upd N c p1)) (Rs' := (svR N Rs x)) (a' := (svA a)) (x' := (svX x)) (C' := C) (n' := n) (P' := (svP P a N)) (fun h240 => w_set l E ad st _ _ h0 v _ (c_set l E ad st N Rs a x C n ha hxx hn hO.2.1 hW c p1 hc (inI_yes hb2).1 (inI_yes hb2).2) h240) (fun r s9 h => h) (fun s1 hM1 => m_set l E ad s1 208 N P a C n th J ha hn hO hM1 c p1 hc (inI_yes hb2).1 (inI_yes hb2).2) (fun s1 b s2 h => ⟨h.1, h.2.1, h.2.2, (okN_upd hO (by omega) (fun z => absurd z (by omega)) (fun z => absurd z (by omega)) (fun z => absurd z (by omega)) (fun z => absurd z (by omega)))⟩) ⟨svA_le ha, svX_lt, hn, svR_ok hOs hO, hC, hRel_sv hR ha hxx⟩

set_option maxHeartbeats 1000000 in
theorem q_step {l : Launch} (hlt : l.stackTraces = false) {E : NE} {ad : Nat → Nat} {st : NW} {N : Nat → Int32} {Rs : Nat → Nat → Int32} {a x : Nat} {C : Nat → Int32} {n : Nat} {P : Nat → Int32} {th : Int32} {J : Nat → Nat → Int32} {v : Int64} (hS : LSt E ad st N Rs a x C n P th J v) (p0 : Int32) : CaseOK l E ad st yL_step wsL_step (nRx 9 145) yX5_step wsX5_step (nRm 8 189) [.int p0] := by
  obtain ⟨ha, hxx, hn, hO, hOs, hC, hR, hW, hM, h2⟩ := id hS
  have h0 : ∃ fs, st 0 = some (.inr (4, fs)) := ⟨_, hW.1.1⟩
  by_cases hb1 : inI p0 1 50 = 0
  · exact q_throw hS (kk := 1) (by decide) (w_step_1 l E ad st p0 h0 _ (x_step l hlt E ad st N Rs a x C n ha hxx hn hO.2.1 hW p0 (inI_badA hb1))) (fun s9 h => by obtain rfl := h; exact ⟨hW, frX.rf⟩) (fun s1 hM1 => m_step_b l E ad s1 208 N P a C n th J ha hn hO hM1 p0 hb1) (fun s1 b s2 h => h)
  · obtain ⟨t1, t2⟩ := inI_yes hb1
    obtain ⟨k, hk, rfl⟩ := nI_of2 (M := 50) (n := 50) (by decide) (nlt01 t1) t2
    have hk1 : 1 ≤ k := one_le t1 (by omega)
    exact q_valid hS (N' := (upd (itN N k) 3 (N 3 + nI k))) (Rs' := (svR N Rs x)) (a' := (svA a)) (x' := (svX x)) (C' := C) (n' := n) (P' := (svP P a N)) (fun h240 => w_step l E ad st _ h0 v _ (c_step l E ad st N Rs a x C n ha hxx hn hO.2.1 hW k hk hk1) h240) (fun r s9 h => h) (fun s1 hM1 => m_step l E ad s1 208 N P a C n th J ha hn hO hM1 k hk hk1) (fun s1 b s2 h => ⟨h.1, h.2.1, h.2.2, (okN_upd (hO.it k) (by omega) (fun z => absurd z (by omega)) (fun z => absurd z (by omega)) (fun z => absurd z (by omega)) (fun z => absurd z (by omega)))⟩) ⟨svA_le ha, svX_lt, hn, svR_ok hOs hO, hC, hRel_sv hR ha hxx⟩

set_option maxHeartbeats 1000000 in
theorem q_append {l : Launch} (hlt : l.stackTraces = false) {E : NE} {ad : Nat → Nat} {st : NW} {N : Nat → Int32} {Rs : Nat → Nat → Int32} {a x : Nat} {C : Nat → Int32} {n : Nat} {P : Nat → Int32} {th : Int32} {J : Nat → Nat → Int32} {v : Int64} (hS : LSt E ad st N Rs a x C n P th J v) (p0 : Int32) : CaseOK l E ad st yL_append wsL_append (nRx 9 145) yX5_append wsX5_append (nRm 1 22) [.int p0] := by
  obtain ⟨ha, hxx, hn, hO, hOs, hC, hR, hW, hM, h2⟩ := id hS
  have h0 : ∃ fs, st 0 = some (.inr (4, fs)) := ⟨_, hW.1.1⟩
  by_cases hb1 : inI p0 33 126 = 0
  · exact q_throw hS (kk := 1) (by decide) (w_append_1 l E ad st p0 h0 _ (x_append_v l hlt E ad st N Rs a x C n ha hxx hn hO.2.1 hW p0 (inI_badA hb1))) (fun s9 h => by obtain rfl := h; exact ⟨hW, frX.rf⟩) (fun s1 hM1 => m_append_v l E ad s1 208 N P a C n th J ha hn hO hM1 p0 hb1) (fun s1 b s2 h => h)
  · obtain ⟨t1, t2⟩ := inI_yes hb1
    by_cases hb2 : n = 60
    · exact q_throw hS (kk := 2) (by decide) (w_append_2 l E ad st p0 h0 _ (x_append_n l hlt E ad st N Rs a x C n ha hxx hn hO.2.1 hW p0 t1 t2 (by omega))) (fun s9 h => by obtain rfl := h; exact ⟨hW, frX.rf⟩) (fun s1 hM1 => m_append_n l E ad s1 208 N P a C n th J ha hn hO hM1 p0 t1 t2 hb2) (fun s1 b s2 h => h)
    · exact q_valid hS (N' := N) (Rs' := Rs) (a' := a) (x' := x) (C' := (upd C n p0)) (n' := (n + 1)) (P' := P) (fun h240 => w_append l E ad st _ h0 v _ (c_append l E ad st N Rs a x C n ha hxx hn hO.2.1 hW p0 t1 t2 (by omega)) h240) (fun r s9 h => h) (fun s1 hM1 => m_append l E ad s1 208 N P a C n th J ha hn hO hM1 p0 t1 t2 (by omega)) (fun s1 b s2 h => ⟨h.1, h.2.1, h.2.2, hO⟩) ⟨ha, hxx, by omega, hOs, okC_app hC t1 t2, hR⟩

set_option maxHeartbeats 1000000 in
theorem q_bars {l : Launch} (hlt : l.stackTraces = false) {E : NE} {ad : Nat → Nat} {st : NW} {N : Nat → Int32} {Rs : Nat → Nat → Int32} {a x : Nat} {C : Nat → Int32} {n : Nat} {P : Nat → Int32} {th : Int32} {J : Nat → Nat → Int32} {v : Int64} (hS : LSt E ad st N Rs a x C n P th J v) : CaseOK l E ad st yL_bars wsL_bars (nRx 9 144) yX5_bars wsX5_bars (nRm 4 88) [] := by
  obtain ⟨ha, hxx, hn, hO, hOs, hC, hR, hW, hM, h2⟩ := id hS
  have h0 : ∃ fs, st 0 = some (.inr (4, fs)) := ⟨_, hW.1.1⟩
  by_cases hb1 : ¬ cmpl C n
  · exact q_throw hS (kk := 1) (by decide) (w_bars_1 l E ad st  h0 _ (x_bars l hlt E ad st N Rs a x C n ha hxx hn hO.2.1 hW hb1)) (fun s9 h => h) (fun s1 hM1 => m_bars_n l E ad s1 208 N P a C n th J ha hn hO hM1 hC hb1) (fun s1 b s2 h => h)
  · have hcm : cmpl C n := Classical.not_not.mp hb1
    exact q_valid hS (N' := (brsN r00 N C n)) (Rs' := (svR N Rs x)) (a' := (svA a)) (x' := (svX x)) (C' := C) (n' := 0) (P' := (svP P a N)) (fun h240 => w_bars l E ad st  h0 v _ (c_bars l E ad st N Rs a x C n ha hxx hn hO.2.1 hW hcm) h240) (fun r s9 h => h) (fun s1 hM1 => m_bars l E ad s1 208 N P a C n th J ha hn hO hM1 hC hcm) (fun s1 b s2 h => ⟨(h.1.trans (congrArg nI cnBar_g)), h.2.2.1, h.2.2.2, h.2.1⟩) ⟨svA_le ha, svX_lt, Nat.zero_le _, svR_ok hOs hO, fun j hj => absurd hj (Nat.not_lt_zero _), hRel_sv hR ha hxx⟩

set_option maxHeartbeats 1000000 in
theorem q_undo {l : Launch} (hlt : l.stackTraces = false) {E : NE} {ad : Nat → Nat} {st : NW} {N : Nat → Int32} {Rs : Nat → Nat → Int32} {a x : Nat} {C : Nat → Int32} {n : Nat} {P : Nat → Int32} {th : Int32} {J : Nat → Nat → Int32} {v : Int64} (hS : LSt E ad st N Rs a x C n P th J v) : CaseOK l E ad st yL_undo wsL_undo (nRx 9 144) yX5_undo wsX5_undo (nRm 1 24) [] := by
  obtain ⟨ha, hxx, hn, hO, hOs, hC, hR, hW, hM, h2⟩ := id hS
  have h0 : ∃ fs, st 0 = some (.inr (4, fs)) := ⟨_, hW.1.1⟩
  by_cases hb1 : a = 0
  · exact q_throw hS (kk := 1) (by decide) (w_undo_1 l E ad st  h0 _ (x_undo l hlt E ad st N Rs a x C n ha hxx hn hO.2.1 hW hb1)) (fun s9 h => by obtain rfl := h; exact ⟨hW, frX.rf⟩) (fun s1 hM1 => m_undo_n l E ad s1 208 N P a C n th J ha hn hO hM1 hb1) (fun s1 b s2 h => h)
  · have ha0 : 0 < a := by omega
    exact q_valid hS (N' := (Rs (if 0 < x then x - 1 else 5))) (Rs' := Rs) (a' := (a - 1)) (x' := (if 0 < x then x - 1 else 5)) (C' := C) (n' := n) (P' := P) (fun h240 => w_undo l E ad st  h0 v _ (c_undo l E ad st N Rs a x C n ha hxx hn hO.2.1 hW ha0 (fun i hi => (hOs i hi).2.1)) h240) (fun r s9 h => h) (fun s1 hM1 => m_undo l E ad s1 208 N P a C n th J ha hn hO hM1 ha0 (Rs (if 0 < x then x - 1 else 5)) (hRel_last hR ha0 ha hxx)) (fun s1 b s2 h => ⟨h.1, h.2.1, h.2.2, (hOs _ (by split <;> omega))⟩) ⟨by omega, by split <;> omega, hn, hOs, hC, hRel_un hR ha0 ha hxx⟩

set_option maxHeartbeats 1000000 in
theorem q_cell {l : Launch} (hlt : l.stackTraces = false) {E : NE} {ad : Nat → Nat} {st : NW} {N : Nat → Int32} {Rs : Nat → Nat → Int32} {a x : Nat} {C : Nat → Int32} {n : Nat} {P : Nat → Int32} {th : Int32} {J : Nat → Nat → Int32} {v : Int64} (hS : LSt E ad st N Rs a x C n P th J v) (p0 : Int32) (p1 : Int32) : CaseOK l E ad st yL_cell wsL_cell (nRx 9 146) yX5_cell wsX5_cell (nRm 8 189) [.int p0, .int p1] := by
  obtain ⟨ha, hxx, hn, hO, hOs, hC, hR, hW, hM, h2⟩ := id hS
  have h0 : ∃ fs, st 0 = some (.inr (4, fs)) := ⟨_, hW.1.1⟩
  by_cases hb1 : inI p0 0 35 = 0
  · exact q_throw hS (kk := 1) (by decide) (w_cell_1 l E ad st p0 p1 h0 _ (x_cell_c l hlt E ad st N Rs a x C n ha hxx hn hO.2.1 hW p0 (inI_bad36 hb1) p1)) (fun s9 h => by obtain rfl := h; exact ⟨hW, frX.rf⟩) (fun s1 hM1 => m_cell_c l E ad s1 208 N P a C n th J ha hn hO hM1 p0 hb1 p1) (fun s1 b s2 h => h)
  · obtain ⟨c, hc, rfl⟩ := inI_nat (M := 35) (m := 35) (by decide) hb1
    have hc : c < 36 := by omega
    by_cases hb2 : inI p1 0 7 = 0
    · exact q_throw hS (kk := 2) (by decide) (w_cell_2 l E ad st _ p1 h0 _ (x_cell_w l hlt E ad st N Rs a x C n ha hxx hn hO.2.1 hW c hc p1 (inI_out (m := 7) (by decide) hb2))) (fun s9 h => by obtain rfl := h; exact ⟨hW, frX.rf⟩) (fun s1 hM1 => m_cell_w l E ad s1 208 N P a C n th J ha hn hO hM1 c hc p1 hb2) (fun s1 b s2 h => h)
    · obtain ⟨d, hd, rfl⟩ := inI_nat (M := 7) (m := 7) (by decide) hb2
      have hd8 : d < 8 := by omega
      exact q_valid hS (N' := N) (Rs' := Rs) (a' := a) (x' := x) (C' := C) (n' := n) (P' := P) (fun h240 => w_cell l E ad st _ _ h0 v _ (c_cell l E ad st N Rs a x C n ha hxx hn hO.2.1 hW c d hc hd8) h240) (fun r s9 h => ⟨h.1, h.2 ▸ hW, h.2 ▸ frX.rf⟩) (fun s1 hM1 => m_cell l E ad s1 208 N P a C n th J ha hn hO hM1 c d hc hd8) (fun s1 b s2 h => ⟨h.1, h.2.1, h.2.2, hO⟩) ⟨ha, hxx, hn, hOs, hC, hR⟩

set_option maxHeartbeats 1000000 in
theorem q_barOf {l : Launch} (hlt : l.stackTraces = false) {E : NE} {ad : Nat → Nat} {st : NW} {N : Nat → Int32} {Rs : Nat → Nat → Int32} {a x : Nat} {C : Nat → Int32} {n : Nat} {P : Nat → Int32} {th : Int32} {J : Nat → Nat → Int32} {v : Int64} (hS : LSt E ad st N Rs a x C n P th J v) (p0 : Int32) (p1 : Int32) : CaseOK l E ad st yL_barOf wsL_barOf (nRx 9 147) yX5_barOf wsX5_barOf (nRm 1 24) [.int p0, .int p1] := by
  obtain ⟨ha, hxx, hn, hO, hOs, hC, hR, hW, hM, h2⟩ := id hS
  have h0 : ∃ fs, st 0 = some (.inr (4, fs)) := ⟨_, hW.1.1⟩
  by_cases hb1 : p0 < 0
  · exact q_throw hS (kk := 1) (by decide) (w_barOf_1 l E ad st p0 p1 h0 _ (x_barOf_p l hlt E ad st N Rs a x C n ha hxx hn hO.2.1 hW p0 p1 hb1)) (fun s9 h => by obtain rfl := h; exact ⟨hW, frX.rf⟩) (fun s1 hM1 => m_barOf_p l E ad s1 208 N P a C n th J ha hn hO hM1 p0 p1 hb1) (fun s1 b s2 h => h)
  · by_cases hb2 : inI p1 0 2 = 0
    · exact q_throw hS (kk := 1) (by decide) (w_barOf_1 l E ad st p0 p1 h0 _ (x_barOf_w l hlt E ad st N Rs a x C n ha hxx hn hO.2.1 hW p0 p1 hb1 (inI_bad hb2))) (fun s9 h => by obtain rfl := h; exact ⟨hW, frX.rf⟩) (fun s1 hM1 => m_barOf_w l E ad s1 208 N P a C n th J ha hn hO hM1 p0 p1 hb1 hb2) (fun s1 b s2 h => h)
    · obtain ⟨d, hd, rfl⟩ := inI_nat (M := 2) (m := 2) (by decide) hb2
      have hd8 : d < 3 := by omega
      exact q_valid hS (N' := N) (Rs' := Rs) (a' := a) (x' := x) (C' := C) (n' := n) (P' := P) (fun h240 => w_barOf l E ad st _ _ h0 v _ (c_barOf l E ad st N Rs a x C n ha hxx hn hO.2.1 hW p0 d hb1 hd8) h240) (fun r s9 h => ⟨h.1, h.2 ▸ hW, h.2 ▸ frX.rf⟩) (fun s1 hM1 => m_barOf l E ad s1 208 N P a C n th J ha hn hO hM1 p0 d hb1 hd8) (fun s1 b s2 h => ⟨h.1, h.2.1, h.2.2, hO⟩) ⟨ha, hxx, hn, hOs, hC, hR⟩

set_option maxHeartbeats 1000000 in
theorem q_count {l : Launch} (hlt : l.stackTraces = false) {E : NE} {ad : Nat → Nat} {st : NW} {N : Nat → Int32} {Rs : Nat → Nat → Int32} {a x : Nat} {C : Nat → Int32} {n : Nat} {P : Nat → Int32} {th : Int32} {J : Nat → Nat → Int32} {v : Int64} (hS : LSt E ad st N Rs a x C n P th J v) (p0 : Int32) : CaseOK l E ad st yL_count wsL_count (nRx 9 145) yX5_count wsX5_count (nRm 9 213) [.int p0] := by
  obtain ⟨ha, hxx, hn, hO, hOs, hC, hR, hW, hM, h2⟩ := id hS
  have h0 : ∃ fs, st 0 = some (.inr (4, fs)) := ⟨_, hW.1.1⟩
  by_cases hb2 : inI p0 0 8 = 0
  · exact q_throw hS (kk := 1) (by decide) (w_count_1 l E ad st p0 h0 _ (x_count l hlt E ad st N Rs a x C n ha hxx hn hO.2.1 hW p0 (inI_out (m := 8) (by decide) hb2))) (fun s9 h => by obtain rfl := h; exact ⟨hW, frX.rf⟩) (fun s1 hM1 => m_count_w l E ad s1 208 N P a C n th J ha hn hO hM1 p0 hb2) (fun s1 b s2 h => h)
  · obtain ⟨d, hd, rfl⟩ := inI_nat (M := 8) (m := 8) (by decide) hb2
    have hd8 : d < 9 := by omega
    exact q_valid hS (N' := N) (Rs' := Rs) (a' := a) (x' := x) (C' := C) (n' := n) (P' := P) (fun h240 => w_count l E ad st _ h0 v _ (c_count l E ad st N Rs a x C n ha hxx hn hO.2.1 hW d hd8) h240) (fun r s9 h => ⟨h.1, h.2 ▸ hW, h.2 ▸ frX.rf⟩) (fun s1 hM1 => m_count l E ad s1 208 N P a C n th J ha hn hO hM1 d hd8) (fun s1 b s2 h => ⟨h.1, h.2.1, h.2.2, hO⟩) ⟨ha, hxx, hn, hOs, hC, hR⟩

set_option maxHeartbeats 1000000 in
theorem q_pointing {l : Launch} (hlt : l.stackTraces = false) {E : NE} {ad : Nat → Nat} {st : NW} {N : Nat → Int32} {Rs : Nat → Nat → Int32} {a x : Nat} {C : Nat → Int32} {n : Nat} {P : Nat → Int32} {th : Int32} {J : Nat → Nat → Int32} {v : Int64} (hS : LSt E ad st N Rs a x C n P th J v) (p0 : Int32) : CaseOK l E ad st yL_pointing wsL_pointing (nRx 9 145) yX5_pointing wsX5_pointing (nRm 2 42) [.int p0] := by
  obtain ⟨ha, hxx, hn, hO, hOs, hC, hR, hW, hM, h2⟩ := id hS
  have h0 : ∃ fs, st 0 = some (.inr (4, fs)) := ⟨_, hW.1.1⟩
  by_cases hb2 : inI p0 0 7 = 0
  · exact q_throw hS (kk := 1) (by decide) (w_pointing_1 l E ad st p0 h0 _ (x_pointing l hlt E ad st N Rs a x C n ha hxx hn hO.2.1 hW p0 (inI_bad hb2))) (fun s9 h => by obtain rfl := h; exact ⟨hW, frX.rf⟩) (fun s1 hM1 => m_pointing_d l E ad s1 208 N P a C n th J ha hn hO hM1 p0 hb2) (fun s1 b s2 h => h)
  · obtain ⟨d, hd, rfl⟩ := inI_nat (M := 7) (m := 7) (by decide) hb2
    have hd8 : d < 8 := by omega
    exact q_valid hS (N' := N) (Rs' := Rs) (a' := a) (x' := x) (C' := C) (n' := n) (P' := P) (fun h240 => w_pointing l E ad st _ h0 v _ (c_pointing l E ad st N Rs a x C n ha hxx hn hO.2.1 hW d hd8) h240) (fun r s9 h => ⟨h.1, h.2 ▸ hW, h.2 ▸ frX.rf⟩) (fun s1 hM1 => m_pointing l E ad s1 208 N P a C n th J ha hn hO hM1 d hd8) (fun s1 b s2 h => ⟨h.1, h.2.1, h.2.2, hO⟩) ⟨ha, hxx, hn, hOs, hC, hR⟩

set_option maxHeartbeats 1000000 in
theorem q_setting {l : Launch} (hlt : l.stackTraces = false) {E : NE} {ad : Nat → Nat} {st : NW} {N : Nat → Int32} {Rs : Nat → Nat → Int32} {a x : Nat} {C : Nat → Int32} {n : Nat} {P : Nat → Int32} {th : Int32} {J : Nat → Nat → Int32} {v : Int64} (hS : LSt E ad st N Rs a x C n P th J v) (p0 : Int32) : CaseOK l E ad st yL_setting wsL_setting (nRx 9 145) yX5_setting wsX5_setting (nRm 1 22) [.int p0] := by
  obtain ⟨ha, hxx, hn, hO, hOs, hC, hR, hW, hM, h2⟩ := id hS
  have h0 : ∃ fs, st 0 = some (.inr (4, fs)) := ⟨_, hW.1.1⟩
  by_cases hb2 : inI p0 0 2 = 0
  · exact q_throw hS (kk := 1) (by decide) (w_setting_1 l E ad st p0 h0 _ (x_setting l hlt E ad st N Rs a x C n ha hxx hn hO.2.1 hW p0 (inI_bad3 hb2))) (fun s9 h => by obtain rfl := h; exact ⟨hW, frX.rf⟩) (fun s1 hM1 => m_setting_c l E ad s1 208 N P a C n th J ha hn hO hM1 p0 hb2) (fun s1 b s2 h => h)
  · obtain ⟨d, hd, rfl⟩ := inI_nat (M := 2) (m := 2) (by decide) hb2
    have hd8 : d < 3 := by omega
    exact q_valid hS (N' := N) (Rs' := Rs) (a' := a) (x' := x) (C' := C) (n' := n) (P' := P) (fun h240 => w_setting l E ad st _ h0 v _ (c_setting l E ad st N Rs a x C n ha hxx hn hO.2.1 hW d hd8) h240) (fun r s9 h => ⟨h.1, h.2 ▸ hW, h.2 ▸ frX.rf⟩) (fun s1 hM1 => m_setting l E ad s1 208 N P a C n th J ha hn hO hM1 d hd8) (fun s1 b s2 h => ⟨h.1, h.2.1, h.2.2, hO⟩) ⟨ha, hxx, hn, hOs, hC, hR⟩

set_option maxHeartbeats 1000000 in
theorem q_points {l : Launch} (hlt : l.stackTraces = false) {E : NE} {ad : Nat → Nat} {st : NW} {N : Nat → Int32} {Rs : Nat → Nat → Int32} {a x : Nat} {C : Nat → Int32} {n : Nat} {P : Nat → Int32} {th : Int32} {J : Nat → Nat → Int32} {v : Int64} (hS : LSt E ad st N Rs a x C n P th J v) (p0 : Int32) (p1 : Int32) : CaseOK l E ad st yL_points wsL_points (nRx 9 146) yX5_points wsX5_points (nRm 9 212) [.int p0, .int p1] := by
  obtain ⟨ha, hxx, hn, hO, hOs, hC, hR, hW, hM, h2⟩ := id hS
  have h0 : ∃ fs, st 0 = some (.inr (4, fs)) := ⟨_, hW.1.1⟩
  by_cases hb1 : inI p0 0 35 = 0
  · exact q_throw hS (kk := 1) (by decide) (w_points_1 l E ad st p0 p1 h0 _ (x_points_c l hlt E ad st N Rs a x C n ha hxx hn hO.2.1 hW p0 (inI_bad36 hb1) p1)) (fun s9 h => by obtain rfl := h; exact ⟨hW, frX.rf⟩) (fun s1 hM1 => m_points_c l E ad s1 208 N P a C n th J ha hn hO hM1 p0 hb1 p1) (fun s1 b s2 h => h)
  · obtain ⟨c, hc, rfl⟩ := inI_nat (M := 35) (m := 35) (by decide) hb1
    have hc : c < 36 := by omega
    by_cases hb2 : inI p1 0 100 = 0
    · exact q_throw hS (kk := 2) (by decide) (w_points_2 l E ad st _ p1 h0 _ (x_points_n l hlt E ad st N Rs a x C n ha hxx hn hO.2.1 hW c hc p1 (inI_bad hb2))) (fun s9 h => by obtain rfl := h; exact ⟨hW, frX.rf⟩) (fun s1 hM1 => m_points_n l E ad s1 208 N P a C n th J ha hn hO hM1 c hc p1 hb2) (fun s1 b s2 h => h)
    · obtain ⟨d, hd, rfl⟩ := inI_nat (M := 100) (m := 100) (by decide) hb2
      exact q_valid hS (N' := N) (Rs' := Rs) (a' := a) (x' := x) (C' := C) (n' := n) (P' := P) (fun h240 => w_points l E ad st _ _ h0 v _ (c_points l E ad st N Rs a x C n ha hxx hn hO.2.1 hW c d hc hd) h240) (fun r s9 h => h) (fun s1 hM1 => m_points l E ad s1 208 N P a C n th J ha hn hO hM1 c d hc hd) (fun s1 b s2 h => ⟨h.1, h.2.1, h.2.2, hO⟩) ⟨ha, hxx, hn, hOs, hC, hR⟩

set_option maxHeartbeats 1000000 in
theorem q_ifBar {l : Launch} (hlt : l.stackTraces = false) {E : NE} {ad : Nat → Nat} {st : NW} {N : Nat → Int32} {Rs : Nat → Nat → Int32} {a x : Nat} {C : Nat → Int32} {n : Nat} {P : Nat → Int32} {th : Int32} {J : Nat → Nat → Int32} {v : Int64} (hS : LSt E ad st N Rs a x C n P th J v) (p0 : Int32) (p1 : Int32) (p2 : Int32) : CaseOK l E ad st yL_ifBar wsL_ifBar (nRx 9 149) yX5_ifBar wsX5_ifBar (nRm 7 167) [.int p0, .int p1, .int p2] := by
  obtain ⟨ha, hxx, hn, hO, hOs, hC, hR, hW, hM, h2⟩ := id hS
  have h0 : ∃ fs, st 0 = some (.inr (4, fs)) := ⟨_, hW.1.1⟩
  by_cases hb1 : inI p0 0 35 = 0
  · exact q_throw hS (kk := 1) (by decide) (w_ifBar_1 l E ad st p0 p1 p2 h0 _ (x_ifBar_c l hlt E ad st N Rs a x C n ha hxx hn hO.2.1 hW p0 (inI_bad36 hb1) p1 p2)) (fun s9 h => by obtain rfl := h; exact ⟨hW, frX.rf⟩) (fun s1 hM1 => m_ifBar_c l E ad s1 208 N P a C n th J ha hn hO hM1 p0 hb1 p1 p2) (fun s1 b s2 h => h)
  · obtain ⟨c, hc, rfl⟩ := inI_nat (M := 35) (m := 35) (by decide) hb1
    have hc : c < 36 := by omega
    by_cases hb2 : inI p1 0 7 = 0
    · exact q_throw hS (kk := 2) (by decide) (w_ifBar_2 l E ad st _ p1 p2 h0 _ (x_ifBar_d l hlt E ad st N Rs a x C n ha hxx hn hO.2.1 hW c hc p1 (inI_bad hb2) p2)) (fun s9 h => by obtain rfl := h; exact ⟨hW, frX.rf⟩) (fun s1 hM1 => m_ifBar_d l E ad s1 208 N P a C n th J ha hn hO hM1 c hc p1 p2 (if_pos hb2)) (fun s1 b s2 h => h)
    · by_cases hb3 : inI p2 1 50 = 0
      · obtain ⟨d, hd, rfl⟩ := inI_nat (M := 7) (m := 7) (by decide) hb2
        have hd8 : d < 8 := by omega
        exact q_throw hS (kk := 2) (by decide) (w_ifBar_2 l E ad st _ _ p2 h0 _ (x_ifBar_t l hlt E ad st N Rs a x C n ha hxx hn hO.2.1 hW c hc d hd8 p2 (inI_badA hb3))) (fun s9 h => by obtain rfl := h; exact ⟨hW, frX.rf⟩) (fun s1 hM1 => m_ifBar_d l E ad s1 208 N P a C n th J ha hn hO hM1 c hc (nI d) p2 (by rw [if_neg hb2, if_pos hb3])) (fun s1 b s2 h => h)
      · obtain ⟨d, hd, rfl⟩ := inI_nat (M := 7) (m := 7) (by decide) hb2
        have hd8 : d < 8 := by omega
        obtain ⟨t1, t2⟩ := inI_yes hb3
        exact q_valid hS (N' := N) (Rs' := Rs) (a' := a) (x' := x) (C' := C) (n' := n) (P' := P) (fun h240 => w_ifBar l E ad st _ _ _ h0 v _ (c_ifBar l E ad st N Rs a x C n ha hxx hn hO.2.1 hW c d p2 hc hd8 t1 t2) h240) (fun r s9 h => ⟨h.1, h.2 ▸ hW, h.2 ▸ frX.rf⟩) (fun s1 hM1 => m_ifBar l E ad s1 208 N P a C n th J ha hn hO hM1 c d p2 hc hd8 t1 t2) (fun s1 b s2 h => ⟨h.1, h.2.1, h.2.2, hO⟩) ⟨ha, hxx, hn, hOs, hC, hR⟩

set_option maxHeartbeats 1000000 in
theorem q_bestBar {l : Launch} (hlt : l.stackTraces = false) {E : NE} {ad : Nat → Nat} {st : NW} {N : Nat → Int32} {Rs : Nat → Nat → Int32} {a x : Nat} {C : Nat → Int32} {n : Nat} {P : Nat → Int32} {th : Int32} {J : Nat → Nat → Int32} {v : Int64} (hS : LSt E ad st N Rs a x C n P th J v) (p0 : Int32) (p1 : Int32) (p2 : Int32) : CaseOK l E ad st yL_bestBar wsL_bestBar (nRx 9 149) yX5_bestBar wsX5_bestBar (nRm 7 167) [.int p0, .int p1, .int p2] := by
  obtain ⟨ha, hxx, hn, hO, hOs, hC, hR, hW, hM, h2⟩ := id hS
  have h0 : ∃ fs, st 0 = some (.inr (4, fs)) := ⟨_, hW.1.1⟩
  by_cases hb1 : inI p0 0 35 = 0
  · exact q_throw hS (kk := 1) (by decide) (w_bestBar_1 l E ad st p0 p1 p2 h0 _ (x_bestBar_c l hlt E ad st N Rs a x C n ha hxx hn hO.2.1 hW p0 (inI_bad36 hb1) p1 p2)) (fun s9 h => by obtain rfl := h; exact ⟨hW, frX.rf⟩) (fun s1 hM1 => m_bestBar_c l E ad s1 208 N P a C n th J ha hn hO hM1 p0 hb1 p1 p2) (fun s1 b s2 h => h)
  · obtain ⟨c, hc, rfl⟩ := inI_nat (M := 35) (m := 35) (by decide) hb1
    have hc : c < 36 := by omega
    by_cases hb2 : inI p1 0 7 = 0
    · exact q_throw hS (kk := 2) (by decide) (w_bestBar_2 l E ad st _ p1 p2 h0 _ (x_bestBar_d l hlt E ad st N Rs a x C n ha hxx hn hO.2.1 hW c hc p1 (inI_bad hb2) p2)) (fun s9 h => by obtain rfl := h; exact ⟨hW, frX.rf⟩) (fun s1 hM1 => m_bestBar_d l E ad s1 208 N P a C n th J ha hn hO hM1 c hc p1 p2 (if_pos hb2)) (fun s1 b s2 h => h)
    · by_cases hb3 : inI p2 1 50 = 0
      · obtain ⟨d, hd, rfl⟩ := inI_nat (M := 7) (m := 7) (by decide) hb2
        have hd8 : d < 8 := by omega
        exact q_throw hS (kk := 2) (by decide) (w_bestBar_2 l E ad st _ _ p2 h0 _ (x_bestBar_t l hlt E ad st N Rs a x C n ha hxx hn hO.2.1 hW c hc d hd8 p2 (inI_badA hb3))) (fun s9 h => by obtain rfl := h; exact ⟨hW, frX.rf⟩) (fun s1 hM1 => m_bestBar_d l E ad s1 208 N P a C n th J ha hn hO hM1 c hc (nI d) p2 (by rw [if_neg hb2, if_pos hb3])) (fun s1 b s2 h => h)
      · obtain ⟨d, hd, rfl⟩ := inI_nat (M := 7) (m := 7) (by decide) hb2
        have hd8 : d < 8 := by omega
        obtain ⟨t1, t2⟩ := inI_yes hb3
        exact q_valid hS (N' := N) (Rs' := Rs) (a' := a) (x' := x) (C' := C) (n' := n) (P' := P) (fun h240 => w_bestBar l E ad st _ _ _ h0 v _ (c_bestBar l E ad st N Rs a x C n ha hxx hn hO.2.1 hW c d p2 hc hd8 t1 t2) h240) (fun r s9 h => ⟨h.1, h.2 ▸ hW, h.2 ▸ frX.rf⟩) (fun s1 hM1 => m_bestBar l E ad s1 208 N P a C n th J ha hn hO hM1 c d p2 hc hd8 t1 t2) (fun s1 b s2 h => ⟨h.1, h.2.1, h.2.2, hO⟩) ⟨ha, hxx, hn, hOs, hC, hR⟩

set_option maxHeartbeats 1000000 in
theorem q_leastTurns {l : Launch} (hlt : l.stackTraces = false) {E : NE} {ad : Nat → Nat} {st : NW} {N : Nat → Int32} {Rs : Nat → Nat → Int32} {a x : Nat} {C : Nat → Int32} {n : Nat} {P : Nat → Int32} {th : Int32} {J : Nat → Nat → Int32} {v : Int64} (hS : LSt E ad st N Rs a x C n P th J v) (p0 : Int32) : CaseOK l E ad st yL_leastTurns wsL_leastTurns (nRx 9 146) yX5_leastTurns wsX5_leastTurns (nRm 7 164) [.int p0] := by
  obtain ⟨ha, hxx, hn, hO, hOs, hC, hR, hW, hM, h2⟩ := id hS
  have h0 : ∃ fs, st 0 = some (.inr (4, fs)) := ⟨_, hW.1.1⟩
  by_cases hb1 : inI p0 0 35 = 0
  · exact q_throw hS (kk := 1) (by decide) (w_leastTurns_1 l E ad st p0 h0 _ (x_leastTurns_c l hlt E ad st N Rs a x C n ha hxx hn hO.2.1 hW p0 (inI_bad36 hb1))) (fun s9 h => by obtain rfl := h; exact ⟨hW, frX.rf⟩) (fun s1 hM1 => m_leastTurns_c l E ad s1 208 N P a C n th J ha hn hO hM1 p0 hb1) (fun s1 b s2 h => h)
  · obtain ⟨c, hc, rfl⟩ := inI_nat (M := 35) (m := 35) (by decide) hb1
    have hc : c < 36 := by omega
    exact q_valid hS (N' := N) (Rs' := Rs) (a' := a) (x' := x) (C' := C) (n' := n) (P' := P) (fun h240 => w_leastTurns l E ad st _ h0 v _ (c_leastTurns l E ad st N Rs a x C n ha hxx hn hO.2.1 hW c hc) h240) (fun r s9 h => ⟨h.1, h.2 ▸ hW, h.2 ▸ frX.rf⟩) (fun s1 hM1 => m_leastTurns l E ad s1 208 N P a C n th J ha hn hO hM1 c hc) (fun s1 b s2 h => ⟨h.1, h.2.1, h.2.2, hO⟩) ⟨ha, hxx, hn, hOs, hC, hR⟩

/-! shares and hashes -/
def okD (r : UInt64) : Bool := decide (r &&& 0x7fffffffffffffff ≤ 0x7ff0000000000000)
theorem okD.n {r : UInt64} (h : okD r = true) : vf_n64 r := by
  show r &&& 0x7fffffffffffffff ≤ 0x7ff0000000000000
  exact of_decide_eq_true h
def shr (a b : Nat) : UInt64 := FP.ddiv (FP.i2d (nI a)) (FP.i2d (nI b))
set_option maxRecDepth 100000 in
theorem shr_ok : ∀ a : Fin 37, ∀ b : Fin 37, b.val = 0 ∨ okD (shr a.val b.val) = true := by decide +kernel
def aimC (N : Nat → Int32) : Nat := cnI (fun k => !decide (gAim (gN N) k = -1)) 36
def obeC (N : Nat → Int32) : Nat := cnI (fun k => decide (gAim (gN N) k = gN N 0 k)) 36
def obV (N : Nat → Int32) : UInt64 := if aimC N = 0 then FP.dconst1 else shr (obeC N) (aimC N)
theorem cnI_mono {P Q : Nat → Bool} {n : Nat} (h : ∀ k, k < n → P k = true → Q k = true) : cnI P n ≤ cnI Q n := by
  induction n with
  | zero => exact Nat.le_refl _
  | succ n ih =>
    have i1 := ih fun k hk => h k (by omega)
    by_cases hp : P n = true
    · rw [cnI_t hp, cnI_t (h n (by omega) hp)]; omega
    · rw [cnI_f (by simpa using hp)]
      simp only [cnI]
      omega
theorem obe_aim {N : Nat → Int32} (h : ∀ k, k < 36 → N (6 + k) ≠ -1) : obeC N ≤ aimC N := by
  unfold obeC aimC
  refine cnI_mono fun k hk hp => ?_
  have hp := of_decide_eq_true hp
  rw [hp, decide_eq_false (by rw [gN0 hk]; exact h k hk)]
  rfl
theorem obV_ok {N : Nat → Int32} (h0 : ¬ aimC N = 0) : vf_n64 (shr (obeC N) (aimC N)) := by
  have h1 : aimC N ≤ 36 := cnI_le _ _
  have h2 : obeC N ≤ 36 := cnI_le _ _
  rcases shr_ok ⟨obeC N, by omega⟩ ⟨aimC N, by omega⟩ with q | q
  · exact absurd q h0
  · exact okD.n q
set_option maxHeartbeats 4000000 in
set_option maxRecDepth 100000 in
theorem c_obedience (l : Launch) (E : NE) (ad : Nat → Nat) (st : NW) (N : Nat → Int32) (Rs : Nat → Nat → Int32) (a x : Nat) (C : Nat → Int32) (n : Nat) (ha : a ≤ 6) (hxx : x < 6) (hn : n ≤ 60) (hO : okH N) (hW : cW E ad st N Rs a x C n)  : nMd l yX4_obedience wsX4_obedience (nRm 3 66) E ad st [.ref (ad 0)] (fun r s1 => r = obV N ∧ st = s1) := by
  refine nSd (cc := cX4_obedience) (maxL := 2) (by decide) rfl (Nat.le_of_ble_eq_true rfl) ?_
  intro pg en s mi ar bw mth cd R Q A ls hx hb hml hown hts hRm hP hK hD hZ hA hl hret
  subst hRm
  have hown : s.vm.findClass RX4 = some mi.cls := hown
  have hS : va_S A s.heap s.heap [] := va_S.rf
  have hl : lv_has ls 2 [(0, .ref (ad 0))] := hl
  obtain ⟨hN, hH, hQr, hT, ⟨R0, hB⟩, hR, ⟨Tr, hTr⟩, hRg⟩ := hW
  obtain ⟨G9, hGN⟩ : ∃ G9, G9 = gN N := ⟨_, rfl⟩
  rw [← hGN] at hR
  have hf : frX 0 208 st st := frX.rf
  have hinX2 : ∀ w ∈ wsX20, w ∈ wsX4_obedience := by decide +kernel
  have hinX4 : ∀ w ∈ wsX40, w ∈ wsX4_obedience := by decide +kernel
  refine lv_aload_n hx hb dX4_obedience_0 rfl (lv_at hl 0 rfl) ?_
  refine rg (v := .ref (ad 64)) (T := TX4) (N := 4) (C := RX4) hx hb hts hinX4 hown hK hP hN rfl 0 (by decide) (hts (.fieldLink RX4 12 "NeedleGrid" "now" "LNeedleGrid$Grid;") (by decide +kernel)) rfl dX4_obedience_1 ?_
  refine nVi (As := []) (rest := _) hx hb hml hown hts hP hK hD hZ hA hS ⟨Nat.zero_le _, Nat.zero_le _⟩ hR.1 rfl (c_aimedCount l E ad st 64 G9 hR ) (cwV 0 hts gX4_obedience_X2_aimedCount rfl rfl rfl (by decide +kernel) ⟨Nat.le_of_ble_eq_true rfl, Nat.le_of_ble_eq_true rfl⟩) hl.1 rfl (Nat.le_of_ble_eq_true rfl) dX4_obedience_4 (fun r_1 s_2 H locs hq hP hD hS => ?_)
  obtain ⟨hrr_1, rfl⟩ := hq
  refine lv_istore_n (lv' := [(1, .int r_1), (0, .ref (ad 0))]) hx hb dX4_obedience_7 rfl hl (by decide) rfl (fun ls hl => ?_)
  refine lv_iload_n hx hb dX4_obedience_8 rfl (lv_at hl 0 rfl) ?_
  refine lv_if_ne (tgt := 14) hx hb dX4_obedience_9 (by decide) (fun c9_2 => ?_) (fun c9_2 => ?_)
  · have hz0 : ¬ aimC N = 0 := fun h9 => c9_2 (by rw [hrr_1, hGN]; show nI (aimC N) = 0; rw [h9]; rfl)
    refine lv_aload_n hx hb dX4_obedience_14 rfl (lv_at hl 1 rfl) ?_
    refine rg (v := .ref (ad 64)) (T := TX4) (N := 4) (C := RX4) hx hb hts hinX4 hown hK hP hN rfl 0 (by decide) (hts (.fieldLink RX4 12 "NeedleGrid" "now" "LNeedleGrid$Grid;") (by decide +kernel)) rfl dX4_obedience_15 ?_
    refine nVi (As := []) (rest := _) hx hb hml hown hts hP hK hD hZ hA hS ⟨Nat.zero_le _, Nat.zero_le _⟩ hR.1 rfl (c_obeyingCount l E ad st 64 G9 hR ) (cwV 0 hts gX4_obedience_X2_obeyingCount rfl rfl rfl (by decide +kernel) ⟨Nat.le_of_ble_eq_true rfl, Nat.le_of_ble_eq_true rfl⟩) hl.1 rfl (Nat.le_of_ble_eq_true rfl) dX4_obedience_18 (fun r_4 s_5 H locs hq hP hD hS => ?_)
    obtain ⟨hrr_4, rfl⟩ := hq
    refine lv_i2d hx hb dX4_obedience_21 ?_
    have hrA : r_1 = nI (aimC N) := by rw [hrr_1, hGN]; rfl
    have hrO : r_4 = nI (obeC N) := by rw [hrr_4, hGN]; rfl
    refine lv_iload_n hx hb dX4_obedience_22 rfl (lv_at hl 0 rfl) ?_
    refine lv_i2d hx hb dX4_obedience_23 ?_
    refine lv_ddiv hx hb dX4_obedience_24 (by rw [hrA, hrO]; exact obV_ok hz0) ?_
    exact hret _ _ _ _ _ _ hP hD hS (⟨by unfold obV; rw [if_neg hz0, hrA, hrO]; rfl, rfl⟩) dX4_obedience_25
  · have hz0 : aimC N = 0 := (nI_eq (a := aimC N) (b := 0) (by have : aimC N ≤ 36 := cnI_le _ _; omega) (by omega)).mp (by rw [hrr_1, hGN] at c9_2; exact c9_2)
    refine lv_dconst1 hx hb dX4_obedience_12 ?_
    exact hret _ _ _ _ _ _ hP hD hS (⟨by unfold obV; rw [if_pos hz0], rfl⟩) dX4_obedience_13


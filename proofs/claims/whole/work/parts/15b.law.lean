def lwA (s : State) : Nat → Prop := fun q => s.heap.size ≤ q
theorem lg_self (x : Int64) : lg_cmp x x = 0 := by
  unfold lg_cmp
  first | simp | (rw [if_neg (by simp), if_neg (by simp)])
theorem okN_ne {N : Nat → Int32} (h : okN N) : ∀ k, k < 36 → N (6 + k) ≠ -1 := fun k hk => by
  obtain ⟨d, hd⟩ := h.1.1 k hk
  rw [hd]
  exact (dir_ne d).symm

set_option maxHeartbeats 4000000 in
set_option maxRecDepth 100000 in
theorem lc_needle {pg : Program} {l : Launch} {en : Env} {s : State} {mi : MethodId} {ar : Array Value} {bw : List Frame} {mth : Method} {cd : Code} {Q : State → Prop} {E : NE} {ad : Nat → Nat} {b L : Nat} {xs : Nat → Int32} (hlt : l.stackTraces = false) (hx : pg.tables.exec = Jvm.exec) (hb : cd.code = cL_law) (hml : cd.maxLocals = 9) (hown : s.vm.findClass RL = some mi.cls) (hts : ∀ w ∈ wsL_law, w.before ar s = true) (hX : va_X b L xs s s.heap) (hbl : b < s.heap.size) (hL : L ≤ 2048) (hK : va_K E.1 vwCl (nTys E) s) (hZ : nZ E (lwA s) s s.heap) (hNC : nNC s) {j : Nat} (hj : 4 * j + 3 < L) {st : NW} {H : Heap} {locs : List Loc} {ls : Array Slot} {cells slots : Nat} (hcc : cells + 1 ≤ room_1.cells ∧ slots + 6 ≤ room_1.slots) (hLI : LI E ad st) (hP : nP E ad st H) (hD : nD (lwA s) ad st) (hS : va_S (lwA s) s.heap H locs) (hl : lv_has ls 9 [(4, .int (nI (4 * j))), (0, .ref b), (1, .ref (ad 0)), (2, .ref (ad 208)), (3, .ref (ad 240))]) (kk : ∀ (st1 : NW) (H1 : Heap) (locs1 : List Loc) (ls1 : Array Slot), LI E ad st1 → nP E ad st1 H1 → nD (lwA s) ad st1 → va_S (lwA s) s.heap H1 locs1 → lv_has ls1 9 [(4, .int (nI (4 * j))), (0, .ref b), (1, .ref (ad 0)), (2, .ref (ad 208)), (3, .ref (ad 240))] → W pg l en room_1 s mi ar bw mth cd H1 locs1 (cells + 1) (slots + 6) Q (F0 mi 1598 ls1 [])) : W pg l en room_1 s mi ar bw mth cd H locs cells slots Q (F0 mi 156 ls []) := by
  have hA : ∀ q, s.heap.size ≤ q → lwA s q := fun _ h => h
  have hbA : ¬ lwA s b := Nat.not_le.mpr hbl
  refine lv_aload_n hx hb dL_law_156 rfl (lv_at hl 2 rfl) ?_
  refine lv_aload_n hx hb dL_law_157 rfl (lv_at hl 1 rfl) ?_
  refine lv_iload hx hb dL_law_158 (lv_at hl 0 rfl) ?_
  refine lv_iconst (v := 1) hx hb dL_law_160 (by decide) ?_
  refine lv_iadd hx hb dL_law_161 ?_
  rw [nI_1]
  refine va_sld hx hb hX hbl hbA hS (vp_in_nI (n := ((4 * j) + 1)) (by omega) (by omega)) dL_law_162 ?_
  refine lv_aload_n hx hb dL_law_163 rfl (lv_at hl 1 rfl) ?_
  refine lv_iload hx hb dL_law_164 (lv_at hl 0 rfl) ?_
  refine lv_iconst (v := 2) hx hb dL_law_166 (by decide) ?_
  refine lv_iadd hx hb dL_law_167 ?_
  rw [show nI (4 * j) + 2 = nI ((4 * j) + 2) from nI_add (4 * j) 2]
  refine va_sld hx hb hX hbl hbA hS (vp_in_nI (n := ((4 * j) + 2)) (by omega) (by omega)) dL_law_168 ?_
  refine lv_aload_n hx hb dL_law_169 rfl (lv_at hl 4 rfl) ?_
  obtain ⟨N, Rs, a, x, C, n, P, th, J, v, hLS⟩ := hLI
  obtain ⟨kk9, K9, M9, hq1, hq2, hq3, hq4⟩ := q_needle hlt hLS (xs (nI ((4 * j) + 1)).toNatClampNeg) (xs (nI ((4 * j) + 2)).toNatClampNeg)
  refine nXS (As := [.ref (ad 0), .int (xs (nI ((4 * j) + 1)).toNatClampNeg), .int (xs (nI ((4 * j) + 2)).toNatClampNeg), .ref (ad 240)]) (rest := _) hx hb hml hown hts hP hK hD hZ hNC hA hS hcc hq1 (vx_cwSW 4 hts gL_law_L_needle rfl rfl rfl (by decide +kernel) ⟨(Nat.le_of_ble_eq_true rfl), (Nat.le_of_ble_eq_true rfl)⟩) hl.1 rfl (Nat.le_of_ble_eq_true rfl) dL_law_170 (fun r9 st1 H locs hq hP hD hS => ?_)
  obtain ⟨hr9, hKs⟩ := hq
  subst hr9
  refine lv_istore (lv' := [(5, .int r9), (4, .int (nI (4 * j))), (0, .ref b), (1, .ref (ad 0)), (2, .ref (ad 208)), (3, .ref (ad 240))]) hx hb dL_law_173 hl (by decide) rfl (fun ls hl => ?_)
  refine lv_aload_n hx hb dL_law_175 rfl (lv_at hl 4 rfl) ?_
  refine lv_aload_n hx hb dL_law_176 rfl (lv_at hl 2 rfl) ?_
  refine lv_iload hx hb dL_law_177 (lv_at hl 1 rfl) ?_
  refine lv_iconst (v := 1) hx hb dL_law_179 (by decide) ?_
  refine lv_iadd hx hb dL_law_180 ?_
  rw [nI_1]
  refine va_sld hx hb hX hbl hbA hS (vp_in_nI (n := ((4 * j) + 1)) (by omega) (by omega)) dL_law_181 ?_
  refine lv_aload_n hx hb dL_law_182 rfl (lv_at hl 2 rfl) ?_
  refine lv_iload hx hb dL_law_183 (lv_at hl 1 rfl) ?_
  refine lv_iconst (v := 2) hx hb dL_law_185 (by decide) ?_
  refine lv_iadd hx hb dL_law_186 ?_
  rw [show nI (4 * j) + 2 = nI ((4 * j) + 2) from nI_add (4 * j) 2]
  refine va_sld hx hb hX hbl hbA hS (vp_in_nI (n := ((4 * j) + 2)) (by omega) (by omega)) dL_law_187 ?_
  obtain ⟨fs9, h208⟩ := hq2 _ hKs
  refine nVi (As := [.int (xs (nI ((4 * j) + 1)).toNatClampNeg), .int (xs (nI ((4 * j) + 2)).toNatClampNeg)]) (rest := _) hx hb hml hown hts hP hK hD hZ hA hS hcc h208 rfl (hq3 _ hKs) (cwV 2 hts gL_law_X5_needle rfl rfl rfl (by decide +kernel) ⟨(Nat.le_of_ble_eq_true rfl), (Nat.le_of_ble_eq_true rfl)⟩) hl.1 rfl (Nat.le_of_ble_eq_true rfl) dL_law_188 (fun b9 st2 H locs hq hP hD hS => ?_)
  obtain ⟨⟨G9, hG9, hth⟩, hout, ⟨v9, hv9⟩, hLI⟩ := hq4 _ _ _ hKs hq
  refine lv_istore (lv' := [(6, .int b9), (5, .int r9), (4, .int (nI (4 * j))), (0, .ref b), (1, .ref (ad 0)), (2, .ref (ad 208)), (3, .ref (ad 240))]) hx hb dL_law_191 hl (by decide) rfl (fun ls hl => ?_)
  refine lv_aload_n hx hb dL_law_193 rfl (lv_at hl 5 rfl) ?_
  refine nVi (As := []) (rest := _) hx hb hml hown hts hP hK hD hZ hA hS hcc hG9.1 rfl (m_thrown l E ad st2 208 G9 hG9) (cwV 0 hts gL_law_X5_thrown rfl rfl rfl (by decide +kernel) ⟨(Nat.le_of_ble_eq_true rfl), (Nat.le_of_ble_eq_true rfl)⟩) hl.1 rfl (Nat.le_of_ble_eq_true rfl) dL_law_194 (fun r3 st3 H locs hq hP hD hS => ?_)
  obtain ⟨hr3, rfl⟩ := hq
  rw [hth] at hr3
  refine lv_iload hx hb dL_law_197 (lv_at hl 1 rfl) ?_
  refine lv_icmp_eq (tgt := 204) hx hb dL_law_199 (by decide) (fun c199_0 => ?_) (fun c199_0 => absurd hr3 c199_0)
  refine lv_iload hx hb dL_law_204 (lv_at hl 1 rfl) ?_
  refine lv_if_ne (tgt := 221) hx hb dL_law_206 (by decide) (fun c206_1 => ?_) (fun c206_1 => ?_)
  · refine lv_goto (tgt := 1598) hx hb dL_law_221 (by decide) ?_
    exact kk st2 H locs ls hLI hP hD hS (lv_sub hl [2, 3, 4, 5, 6] rfl)
  · refine lv_aload_n hx hb dL_law_209 rfl (lv_at hl 6 rfl) ?_
    refine lv_iconst (v := 0) hx hb dL_law_210 (by decide) ?_
    refine nLld hx hb hK hP (hout c206_1) dL_law_211 ?_
    refine lv_iload hx hb dL_law_212 (lv_at hl 0 rfl) ?_
    refine lv_i2l (v := b9.toInt64) hx hb dL_law_214 rfl ?_
    refine W.lcmp hx hb dL_law_215 ?_
    refine lv_if_eq (tgt := 221) hx hb dL_law_216 (by decide) (fun c216_2 => ?_) (fun c216_2 => absurd (lg_self _) c216_2)
    refine lv_goto (tgt := 1598) hx hb dL_law_221 (by decide) ?_
    exact kk st2 H locs ls hLI hP hD hS (lv_sub hl [2, 3, 4, 5, 6] rfl)

set_option maxHeartbeats 4000000 in
set_option maxRecDepth 100000 in
theorem lc_friction {pg : Program} {l : Launch} {en : Env} {s : State} {mi : MethodId} {ar : Array Value} {bw : List Frame} {mth : Method} {cd : Code} {Q : State → Prop} {E : NE} {ad : Nat → Nat} {b L : Nat} {xs : Nat → Int32} (hlt : l.stackTraces = false) (hx : pg.tables.exec = Jvm.exec) (hb : cd.code = cL_law) (hml : cd.maxLocals = 9) (hown : s.vm.findClass RL = some mi.cls) (hts : ∀ w ∈ wsL_law, w.before ar s = true) (hX : va_X b L xs s s.heap) (hbl : b < s.heap.size) (hL : L ≤ 2048) (hK : va_K E.1 vwCl (nTys E) s) (hZ : nZ E (lwA s) s s.heap) (hNC : nNC s) {j : Nat} (hj : 4 * j + 3 < L) {st : NW} {H : Heap} {locs : List Loc} {ls : Array Slot} {cells slots : Nat} (hcc : cells + 1 ≤ room_1.cells ∧ slots + 6 ≤ room_1.slots) (hLI : LI E ad st) (hP : nP E ad st H) (hD : nD (lwA s) ad st) (hS : va_S (lwA s) s.heap H locs) (hl : lv_has ls 9 [(4, .int (nI (4 * j))), (0, .ref b), (1, .ref (ad 0)), (2, .ref (ad 208)), (3, .ref (ad 240))]) (kk : ∀ (st1 : NW) (H1 : Heap) (locs1 : List Loc) (ls1 : Array Slot), LI E ad st1 → nP E ad st1 H1 → nD (lwA s) ad st1 → va_S (lwA s) s.heap H1 locs1 → lv_has ls1 9 [(4, .int (nI (4 * j))), (0, .ref b), (1, .ref (ad 0)), (2, .ref (ad 208)), (3, .ref (ad 240))] → W pg l en room_1 s mi ar bw mth cd H1 locs1 (cells + 1) (slots + 6) Q (F0 mi 1598 ls1 [])) : W pg l en room_1 s mi ar bw mth cd H locs cells slots Q (F0 mi 224 ls []) := by
  have hA : ∀ q, s.heap.size ≤ q → lwA s q := fun _ h => h
  have hbA : ¬ lwA s b := Nat.not_le.mpr hbl
  refine lv_aload_n hx hb dL_law_224 rfl (lv_at hl 2 rfl) ?_
  refine lv_aload_n hx hb dL_law_225 rfl (lv_at hl 1 rfl) ?_
  refine lv_iload hx hb dL_law_226 (lv_at hl 0 rfl) ?_
  refine lv_iconst (v := 1) hx hb dL_law_228 (by decide) ?_
  refine lv_iadd hx hb dL_law_229 ?_
  rw [nI_1]
  refine va_sld hx hb hX hbl hbA hS (vp_in_nI (n := ((4 * j) + 1)) (by omega) (by omega)) dL_law_230 ?_
  refine lv_aload_n hx hb dL_law_231 rfl (lv_at hl 1 rfl) ?_
  refine lv_iload hx hb dL_law_232 (lv_at hl 0 rfl) ?_
  refine lv_iconst (v := 2) hx hb dL_law_234 (by decide) ?_
  refine lv_iadd hx hb dL_law_235 ?_
  rw [show nI (4 * j) + 2 = nI ((4 * j) + 2) from nI_add (4 * j) 2]
  refine va_sld hx hb hX hbl hbA hS (vp_in_nI (n := ((4 * j) + 2)) (by omega) (by omega)) dL_law_236 ?_
  refine lv_aload_n hx hb dL_law_237 rfl (lv_at hl 4 rfl) ?_
  obtain ⟨N, Rs, a, x, C, n, P, th, J, v, hLS⟩ := hLI
  obtain ⟨kk9, K9, M9, hq1, hq2, hq3, hq4⟩ := q_friction hlt hLS (xs (nI ((4 * j) + 1)).toNatClampNeg) (xs (nI ((4 * j) + 2)).toNatClampNeg)
  refine nXS (As := [.ref (ad 0), .int (xs (nI ((4 * j) + 1)).toNatClampNeg), .int (xs (nI ((4 * j) + 2)).toNatClampNeg), .ref (ad 240)]) (rest := _) hx hb hml hown hts hP hK hD hZ hNC hA hS hcc hq1 (vx_cwSW 4 hts gL_law_L_friction rfl rfl rfl (by decide +kernel) ⟨(Nat.le_of_ble_eq_true rfl), (Nat.le_of_ble_eq_true rfl)⟩) hl.1 rfl (Nat.le_of_ble_eq_true rfl) dL_law_238 (fun r9 st1 H locs hq hP hD hS => ?_)
  obtain ⟨hr9, hKs⟩ := hq
  subst hr9
  refine lv_istore (lv' := [(5, .int r9), (4, .int (nI (4 * j))), (0, .ref b), (1, .ref (ad 0)), (2, .ref (ad 208)), (3, .ref (ad 240))]) hx hb dL_law_241 hl (by decide) rfl (fun ls hl => ?_)
  refine lv_aload_n hx hb dL_law_243 rfl (lv_at hl 4 rfl) ?_
  refine lv_aload_n hx hb dL_law_244 rfl (lv_at hl 2 rfl) ?_
  refine lv_iload hx hb dL_law_245 (lv_at hl 1 rfl) ?_
  refine lv_iconst (v := 1) hx hb dL_law_247 (by decide) ?_
  refine lv_iadd hx hb dL_law_248 ?_
  rw [nI_1]
  refine va_sld hx hb hX hbl hbA hS (vp_in_nI (n := ((4 * j) + 1)) (by omega) (by omega)) dL_law_249 ?_
  refine lv_aload_n hx hb dL_law_250 rfl (lv_at hl 2 rfl) ?_
  refine lv_iload hx hb dL_law_251 (lv_at hl 1 rfl) ?_
  refine lv_iconst (v := 2) hx hb dL_law_253 (by decide) ?_
  refine lv_iadd hx hb dL_law_254 ?_
  rw [show nI (4 * j) + 2 = nI ((4 * j) + 2) from nI_add (4 * j) 2]
  refine va_sld hx hb hX hbl hbA hS (vp_in_nI (n := ((4 * j) + 2)) (by omega) (by omega)) dL_law_255 ?_
  obtain ⟨fs9, h208⟩ := hq2 _ hKs
  refine nVi (As := [.int (xs (nI ((4 * j) + 1)).toNatClampNeg), .int (xs (nI ((4 * j) + 2)).toNatClampNeg)]) (rest := _) hx hb hml hown hts hP hK hD hZ hA hS hcc h208 rfl (hq3 _ hKs) (cwV 2 hts gL_law_X5_friction rfl rfl rfl (by decide +kernel) ⟨(Nat.le_of_ble_eq_true rfl), (Nat.le_of_ble_eq_true rfl)⟩) hl.1 rfl (Nat.le_of_ble_eq_true rfl) dL_law_256 (fun b9 st2 H locs hq hP hD hS => ?_)
  obtain ⟨⟨G9, hG9, hth⟩, hout, ⟨v9, hv9⟩, hLI⟩ := hq4 _ _ _ hKs hq
  refine lv_istore (lv' := [(6, .int b9), (5, .int r9), (4, .int (nI (4 * j))), (0, .ref b), (1, .ref (ad 0)), (2, .ref (ad 208)), (3, .ref (ad 240))]) hx hb dL_law_259 hl (by decide) rfl (fun ls hl => ?_)
  refine lv_aload_n hx hb dL_law_261 rfl (lv_at hl 5 rfl) ?_
  refine nVi (As := []) (rest := _) hx hb hml hown hts hP hK hD hZ hA hS hcc hG9.1 rfl (m_thrown l E ad st2 208 G9 hG9) (cwV 0 hts gL_law_X5_thrown rfl rfl rfl (by decide +kernel) ⟨(Nat.le_of_ble_eq_true rfl), (Nat.le_of_ble_eq_true rfl)⟩) hl.1 rfl (Nat.le_of_ble_eq_true rfl) dL_law_262 (fun r3 st3 H locs hq hP hD hS => ?_)
  obtain ⟨hr3, rfl⟩ := hq
  rw [hth] at hr3
  refine lv_iload hx hb dL_law_265 (lv_at hl 1 rfl) ?_
  refine lv_icmp_eq (tgt := 272) hx hb dL_law_267 (by decide) (fun c267_0 => ?_) (fun c267_0 => absurd hr3 c267_0)
  refine lv_iload hx hb dL_law_272 (lv_at hl 1 rfl) ?_
  refine lv_if_ne (tgt := 289) hx hb dL_law_274 (by decide) (fun c274_1 => ?_) (fun c274_1 => ?_)
  · refine lv_goto (tgt := 1598) hx hb dL_law_289 (by decide) ?_
    exact kk st2 H locs ls hLI hP hD hS (lv_sub hl [2, 3, 4, 5, 6] rfl)
  · refine lv_aload_n hx hb dL_law_277 rfl (lv_at hl 6 rfl) ?_
    refine lv_iconst (v := 0) hx hb dL_law_278 (by decide) ?_
    refine nLld hx hb hK hP (hout c274_1) dL_law_279 ?_
    refine lv_iload hx hb dL_law_280 (lv_at hl 0 rfl) ?_
    refine lv_i2l (v := b9.toInt64) hx hb dL_law_282 rfl ?_
    refine W.lcmp hx hb dL_law_283 ?_
    refine lv_if_eq (tgt := 289) hx hb dL_law_284 (by decide) (fun c284_2 => ?_) (fun c284_2 => absurd (lg_self _) c284_2)
    refine lv_goto (tgt := 1598) hx hb dL_law_289 (by decide) ?_
    exact kk st2 H locs ls hLI hP hD hS (lv_sub hl [2, 3, 4, 5, 6] rfl)

set_option maxHeartbeats 4000000 in
set_option maxRecDepth 100000 in
theorem lc_hold {pg : Program} {l : Launch} {en : Env} {s : State} {mi : MethodId} {ar : Array Value} {bw : List Frame} {mth : Method} {cd : Code} {Q : State → Prop} {E : NE} {ad : Nat → Nat} {b L : Nat} {xs : Nat → Int32} (hlt : l.stackTraces = false) (hx : pg.tables.exec = Jvm.exec) (hb : cd.code = cL_law) (hml : cd.maxLocals = 9) (hown : s.vm.findClass RL = some mi.cls) (hts : ∀ w ∈ wsL_law, w.before ar s = true) (hX : va_X b L xs s s.heap) (hbl : b < s.heap.size) (hL : L ≤ 2048) (hK : va_K E.1 vwCl (nTys E) s) (hZ : nZ E (lwA s) s s.heap) (hNC : nNC s) {j : Nat} (hj : 4 * j + 3 < L) {st : NW} {H : Heap} {locs : List Loc} {ls : Array Slot} {cells slots : Nat} (hcc : cells + 1 ≤ room_1.cells ∧ slots + 6 ≤ room_1.slots) (hLI : LI E ad st) (hP : nP E ad st H) (hD : nD (lwA s) ad st) (hS : va_S (lwA s) s.heap H locs) (hl : lv_has ls 9 [(4, .int (nI (4 * j))), (0, .ref b), (1, .ref (ad 0)), (2, .ref (ad 208)), (3, .ref (ad 240))]) (kk : ∀ (st1 : NW) (H1 : Heap) (locs1 : List Loc) (ls1 : Array Slot), LI E ad st1 → nP E ad st1 H1 → nD (lwA s) ad st1 → va_S (lwA s) s.heap H1 locs1 → lv_has ls1 9 [(4, .int (nI (4 * j))), (0, .ref b), (1, .ref (ad 0)), (2, .ref (ad 208)), (3, .ref (ad 240))] → W pg l en room_1 s mi ar bw mth cd H1 locs1 (cells + 1) (slots + 6) Q (F0 mi 1598 ls1 [])) : W pg l en room_1 s mi ar bw mth cd H locs cells slots Q (F0 mi 292 ls []) := by
  have hA : ∀ q, s.heap.size ≤ q → lwA s q := fun _ h => h
  have hbA : ¬ lwA s b := Nat.not_le.mpr hbl
  refine lv_aload_n hx hb dL_law_292 rfl (lv_at hl 2 rfl) ?_
  refine lv_aload_n hx hb dL_law_293 rfl (lv_at hl 1 rfl) ?_
  refine lv_iload hx hb dL_law_294 (lv_at hl 0 rfl) ?_
  refine lv_iconst (v := 1) hx hb dL_law_296 (by decide) ?_
  refine lv_iadd hx hb dL_law_297 ?_
  rw [nI_1]
  refine va_sld hx hb hX hbl hbA hS (vp_in_nI (n := ((4 * j) + 1)) (by omega) (by omega)) dL_law_298 ?_
  refine lv_aload_n hx hb dL_law_299 rfl (lv_at hl 1 rfl) ?_
  refine lv_iload hx hb dL_law_300 (lv_at hl 0 rfl) ?_
  refine lv_iconst (v := 2) hx hb dL_law_302 (by decide) ?_
  refine lv_iadd hx hb dL_law_303 ?_
  rw [show nI (4 * j) + 2 = nI ((4 * j) + 2) from nI_add (4 * j) 2]
  refine va_sld hx hb hX hbl hbA hS (vp_in_nI (n := ((4 * j) + 2)) (by omega) (by omega)) dL_law_304 ?_
  refine lv_if_eq (tgt := 312) hx hb dL_law_305 (by decide) (fun c305_0 => ?_) (fun c305_0 => ?_)
  · refine lv_iconst (v := 0) hx hb dL_law_312 (by decide) ?_
    refine lv_aload_n hx hb dL_law_313 rfl (lv_at hl 4 rfl) ?_
    obtain ⟨N, Rs, a, x, C, n, P, th, J, v, hLS⟩ := hLI
    obtain ⟨kk9, K9, M9, hq1, hq2, hq3, hq4⟩ := q_hold hlt hLS (xs (nI ((4 * j) + 1)).toNatClampNeg) 0 (Or.inl rfl)
    refine nXS (As := [.ref (ad 0), .int (xs (nI ((4 * j) + 1)).toNatClampNeg), .int 0, .ref (ad 240)]) (rest := _) hx hb hml hown hts hP hK hD hZ hNC hA hS hcc hq1 (vx_cwSW 4 hts gL_law_L_hold rfl rfl rfl (by decide +kernel) ⟨(Nat.le_of_ble_eq_true rfl), (Nat.le_of_ble_eq_true rfl)⟩) hl.1 rfl (Nat.le_of_ble_eq_true rfl) dL_law_314 (fun r9 st1 H locs hq hP hD hS => ?_)
    obtain ⟨hr9, hKs⟩ := hq
    subst hr9
    refine lv_istore (lv' := [(5, .int r9), (4, .int (nI (4 * j))), (0, .ref b), (1, .ref (ad 0)), (2, .ref (ad 208)), (3, .ref (ad 240))]) hx hb dL_law_317 hl (by decide) rfl (fun ls hl => ?_)
    refine lv_aload_n hx hb dL_law_319 rfl (lv_at hl 4 rfl) ?_
    refine lv_aload_n hx hb dL_law_320 rfl (lv_at hl 2 rfl) ?_
    refine lv_iload hx hb dL_law_321 (lv_at hl 1 rfl) ?_
    refine lv_iconst (v := 1) hx hb dL_law_323 (by decide) ?_
    refine lv_iadd hx hb dL_law_324 ?_
    rw [nI_1]
    refine va_sld hx hb hX hbl hbA hS (vp_in_nI (n := ((4 * j) + 1)) (by omega) (by omega)) dL_law_325 ?_
    refine lv_aload_n hx hb dL_law_326 rfl (lv_at hl 2 rfl) ?_
    refine lv_iload hx hb dL_law_327 (lv_at hl 1 rfl) ?_
    refine lv_iconst (v := 2) hx hb dL_law_329 (by decide) ?_
    refine lv_iadd hx hb dL_law_330 ?_
    rw [show nI (4 * j) + 2 = nI ((4 * j) + 2) from nI_add (4 * j) 2]
    refine va_sld hx hb hX hbl hbA hS (vp_in_nI (n := ((4 * j) + 2)) (by omega) (by omega)) dL_law_331 ?_
    refine lv_if_eq (tgt := 339) hx hb dL_law_332 (by decide) (fun c332_1 => ?_) (fun c332_1 => absurd c305_0 c332_1)
    refine lv_iconst (v := 0) hx hb dL_law_339 (by decide) ?_
    obtain ⟨fs9, h208⟩ := hq2 _ hKs
    refine nVi (As := [.int (xs (nI ((4 * j) + 1)).toNatClampNeg), .int 0]) (rest := _) hx hb hml hown hts hP hK hD hZ hA hS hcc h208 rfl (hq3 _ hKs) (cwV 2 hts gL_law_X5_hold rfl rfl rfl (by decide +kernel) ⟨(Nat.le_of_ble_eq_true rfl), (Nat.le_of_ble_eq_true rfl)⟩) hl.1 rfl (Nat.le_of_ble_eq_true rfl) dL_law_340 (fun b9 st2 H locs hq hP hD hS => ?_)
    obtain ⟨⟨G9, hG9, hth⟩, hout, ⟨v9, hv9⟩, hLI⟩ := hq4 _ _ _ hKs hq
    refine lv_istore (lv' := [(6, .int b9), (5, .int r9), (4, .int (nI (4 * j))), (0, .ref b), (1, .ref (ad 0)), (2, .ref (ad 208)), (3, .ref (ad 240))]) hx hb dL_law_343 hl (by decide) rfl (fun ls hl => ?_)
    refine lv_aload_n hx hb dL_law_345 rfl (lv_at hl 5 rfl) ?_
    refine nVi (As := []) (rest := _) hx hb hml hown hts hP hK hD hZ hA hS hcc hG9.1 rfl (m_thrown l E ad st2 208 G9 hG9) (cwV 0 hts gL_law_X5_thrown rfl rfl rfl (by decide +kernel) ⟨(Nat.le_of_ble_eq_true rfl), (Nat.le_of_ble_eq_true rfl)⟩) hl.1 rfl (Nat.le_of_ble_eq_true rfl) dL_law_346 (fun r3 st3 H locs hq hP hD hS => ?_)
    obtain ⟨hr3, rfl⟩ := hq
    rw [hth] at hr3
    refine lv_iload hx hb dL_law_349 (lv_at hl 1 rfl) ?_
    refine lv_icmp_eq (tgt := 356) hx hb dL_law_351 (by decide) (fun c351_2 => ?_) (fun c351_2 => absurd hr3 c351_2)
    refine lv_iload hx hb dL_law_356 (lv_at hl 1 rfl) ?_
    refine lv_if_ne (tgt := 373) hx hb dL_law_358 (by decide) (fun c358_3 => ?_) (fun c358_3 => ?_)
    · refine lv_goto (tgt := 1598) hx hb dL_law_373 (by decide) ?_
      exact kk st2 H locs ls hLI hP hD hS (lv_sub hl [2, 3, 4, 5, 6] rfl)
    · refine lv_aload_n hx hb dL_law_361 rfl (lv_at hl 6 rfl) ?_
      refine lv_iconst (v := 0) hx hb dL_law_362 (by decide) ?_
      refine nLld hx hb hK hP (hout c358_3) dL_law_363 ?_
      refine lv_iload hx hb dL_law_364 (lv_at hl 0 rfl) ?_
      refine lv_i2l (v := b9.toInt64) hx hb dL_law_366 rfl ?_
      refine W.lcmp hx hb dL_law_367 ?_
      refine lv_if_eq (tgt := 373) hx hb dL_law_368 (by decide) (fun c368_4 => ?_) (fun c368_4 => absurd (lg_self _) c368_4)
      refine lv_goto (tgt := 1598) hx hb dL_law_373 (by decide) ?_
      exact kk st2 H locs ls hLI hP hD hS (lv_sub hl [2, 3, 4, 5, 6] rfl)
  · refine lv_iconst (v := 1) hx hb dL_law_308 (by decide) ?_
    refine lv_goto (tgt := 313) hx hb dL_law_309 (by decide) ?_
    refine lv_aload_n hx hb dL_law_313 rfl (lv_at hl 4 rfl) ?_
    obtain ⟨N, Rs, a, x, C, n, P, th, J, v, hLS⟩ := hLI
    obtain ⟨kk9, K9, M9, hq1, hq2, hq3, hq4⟩ := q_hold hlt hLS (xs (nI ((4 * j) + 1)).toNatClampNeg) 1 (Or.inr rfl)
    refine nXS (As := [.ref (ad 0), .int (xs (nI ((4 * j) + 1)).toNatClampNeg), .int 1, .ref (ad 240)]) (rest := _) hx hb hml hown hts hP hK hD hZ hNC hA hS hcc hq1 (vx_cwSW 4 hts gL_law_L_hold rfl rfl rfl (by decide +kernel) ⟨(Nat.le_of_ble_eq_true rfl), (Nat.le_of_ble_eq_true rfl)⟩) hl.1 rfl (Nat.le_of_ble_eq_true rfl) dL_law_314 (fun r9 st1 H locs hq hP hD hS => ?_)
    obtain ⟨hr9, hKs⟩ := hq
    subst hr9
    refine lv_istore (lv' := [(5, .int r9), (4, .int (nI (4 * j))), (0, .ref b), (1, .ref (ad 0)), (2, .ref (ad 208)), (3, .ref (ad 240))]) hx hb dL_law_317 hl (by decide) rfl (fun ls hl => ?_)
    refine lv_aload_n hx hb dL_law_319 rfl (lv_at hl 4 rfl) ?_
    refine lv_aload_n hx hb dL_law_320 rfl (lv_at hl 2 rfl) ?_
    refine lv_iload hx hb dL_law_321 (lv_at hl 1 rfl) ?_
    refine lv_iconst (v := 1) hx hb dL_law_323 (by decide) ?_
    refine lv_iadd hx hb dL_law_324 ?_
    rw [nI_1]
    refine va_sld hx hb hX hbl hbA hS (vp_in_nI (n := ((4 * j) + 1)) (by omega) (by omega)) dL_law_325 ?_
    refine lv_aload_n hx hb dL_law_326 rfl (lv_at hl 2 rfl) ?_
    refine lv_iload hx hb dL_law_327 (lv_at hl 1 rfl) ?_
    refine lv_iconst (v := 2) hx hb dL_law_329 (by decide) ?_
    refine lv_iadd hx hb dL_law_330 ?_
    rw [show nI (4 * j) + 2 = nI ((4 * j) + 2) from nI_add (4 * j) 2]
    refine va_sld hx hb hX hbl hbA hS (vp_in_nI (n := ((4 * j) + 2)) (by omega) (by omega)) dL_law_331 ?_
    refine lv_if_eq (tgt := 339) hx hb dL_law_332 (by decide) (fun c332_5 => absurd c332_5 c305_0) (fun c332_5 => ?_)
    refine lv_iconst (v := 1) hx hb dL_law_335 (by decide) ?_
    refine lv_goto (tgt := 340) hx hb dL_law_336 (by decide) ?_
    obtain ⟨fs9, h208⟩ := hq2 _ hKs
    refine nVi (As := [.int (xs (nI ((4 * j) + 1)).toNatClampNeg), .int 1]) (rest := _) hx hb hml hown hts hP hK hD hZ hA hS hcc h208 rfl (hq3 _ hKs) (cwV 2 hts gL_law_X5_hold rfl rfl rfl (by decide +kernel) ⟨(Nat.le_of_ble_eq_true rfl), (Nat.le_of_ble_eq_true rfl)⟩) hl.1 rfl (Nat.le_of_ble_eq_true rfl) dL_law_340 (fun b9 st2 H locs hq hP hD hS => ?_)
    obtain ⟨⟨G9, hG9, hth⟩, hout, ⟨v9, hv9⟩, hLI⟩ := hq4 _ _ _ hKs hq
    refine lv_istore (lv' := [(6, .int b9), (5, .int r9), (4, .int (nI (4 * j))), (0, .ref b), (1, .ref (ad 0)), (2, .ref (ad 208)), (3, .ref (ad 240))]) hx hb dL_law_343 hl (by decide) rfl (fun ls hl => ?_)
    refine lv_aload_n hx hb dL_law_345 rfl (lv_at hl 5 rfl) ?_
    refine nVi (As := []) (rest := _) hx hb hml hown hts hP hK hD hZ hA hS hcc hG9.1 rfl (m_thrown l E ad st2 208 G9 hG9) (cwV 0 hts gL_law_X5_thrown rfl rfl rfl (by decide +kernel) ⟨(Nat.le_of_ble_eq_true rfl), (Nat.le_of_ble_eq_true rfl)⟩) hl.1 rfl (Nat.le_of_ble_eq_true rfl) dL_law_346 (fun r3 st3 H locs hq hP hD hS => ?_)
    obtain ⟨hr3, rfl⟩ := hq
    rw [hth] at hr3
    refine lv_iload hx hb dL_law_349 (lv_at hl 1 rfl) ?_
    refine lv_icmp_eq (tgt := 356) hx hb dL_law_351 (by decide) (fun c351_6 => ?_) (fun c351_6 => absurd hr3 c351_6)
    refine lv_iload hx hb dL_law_356 (lv_at hl 1 rfl) ?_
    refine lv_if_ne (tgt := 373) hx hb dL_law_358 (by decide) (fun c358_7 => ?_) (fun c358_7 => ?_)
    · refine lv_goto (tgt := 1598) hx hb dL_law_373 (by decide) ?_
      exact kk st2 H locs ls hLI hP hD hS (lv_sub hl [2, 3, 4, 5, 6] rfl)
    · refine lv_aload_n hx hb dL_law_361 rfl (lv_at hl 6 rfl) ?_
      refine lv_iconst (v := 0) hx hb dL_law_362 (by decide) ?_
      refine nLld hx hb hK hP (hout c358_7) dL_law_363 ?_
      refine lv_iload hx hb dL_law_364 (lv_at hl 0 rfl) ?_
      refine lv_i2l (v := b9.toInt64) hx hb dL_law_366 rfl ?_
      refine W.lcmp hx hb dL_law_367 ?_
      refine lv_if_eq (tgt := 373) hx hb dL_law_368 (by decide) (fun c368_8 => ?_) (fun c368_8 => absurd (lg_self _) c368_8)
      refine lv_goto (tgt := 1598) hx hb dL_law_373 (by decide) ?_
      exact kk st2 H locs ls hLI hP hD hS (lv_sub hl [2, 3, 4, 5, 6] rfl)

set_option maxHeartbeats 4000000 in
set_option maxRecDepth 100000 in
theorem lc_swap {pg : Program} {l : Launch} {en : Env} {s : State} {mi : MethodId} {ar : Array Value} {bw : List Frame} {mth : Method} {cd : Code} {Q : State → Prop} {E : NE} {ad : Nat → Nat} {b L : Nat} {xs : Nat → Int32} (hlt : l.stackTraces = false) (hx : pg.tables.exec = Jvm.exec) (hb : cd.code = cL_law) (hml : cd.maxLocals = 9) (hown : s.vm.findClass RL = some mi.cls) (hts : ∀ w ∈ wsL_law, w.before ar s = true) (hX : va_X b L xs s s.heap) (hbl : b < s.heap.size) (hL : L ≤ 2048) (hK : va_K E.1 vwCl (nTys E) s) (hZ : nZ E (lwA s) s s.heap) (hNC : nNC s) {j : Nat} (hj : 4 * j + 3 < L) {st : NW} {H : Heap} {locs : List Loc} {ls : Array Slot} {cells slots : Nat} (hcc : cells + 1 ≤ room_1.cells ∧ slots + 6 ≤ room_1.slots) (hLI : LI E ad st) (hP : nP E ad st H) (hD : nD (lwA s) ad st) (hS : va_S (lwA s) s.heap H locs) (hl : lv_has ls 9 [(4, .int (nI (4 * j))), (0, .ref b), (1, .ref (ad 0)), (2, .ref (ad 208)), (3, .ref (ad 240))]) (kk : ∀ (st1 : NW) (H1 : Heap) (locs1 : List Loc) (ls1 : Array Slot), LI E ad st1 → nP E ad st1 H1 → nD (lwA s) ad st1 → va_S (lwA s) s.heap H1 locs1 → lv_has ls1 9 [(4, .int (nI (4 * j))), (0, .ref b), (1, .ref (ad 0)), (2, .ref (ad 208)), (3, .ref (ad 240))] → W pg l en room_1 s mi ar bw mth cd H1 locs1 (cells + 1) (slots + 6) Q (F0 mi 1598 ls1 [])) : W pg l en room_1 s mi ar bw mth cd H locs cells slots Q (F0 mi 376 ls []) := by
  have hA : ∀ q, s.heap.size ≤ q → lwA s q := fun _ h => h
  have hbA : ¬ lwA s b := Nat.not_le.mpr hbl
  refine lv_aload_n hx hb dL_law_376 rfl (lv_at hl 2 rfl) ?_
  refine lv_aload_n hx hb dL_law_377 rfl (lv_at hl 1 rfl) ?_
  refine lv_iload hx hb dL_law_378 (lv_at hl 0 rfl) ?_
  refine lv_iconst (v := 1) hx hb dL_law_380 (by decide) ?_
  refine lv_iadd hx hb dL_law_381 ?_
  rw [nI_1]
  refine va_sld hx hb hX hbl hbA hS (vp_in_nI (n := ((4 * j) + 1)) (by omega) (by omega)) dL_law_382 ?_
  refine lv_aload_n hx hb dL_law_383 rfl (lv_at hl 1 rfl) ?_
  refine lv_iload hx hb dL_law_384 (lv_at hl 0 rfl) ?_
  refine lv_iconst (v := 2) hx hb dL_law_386 (by decide) ?_
  refine lv_iadd hx hb dL_law_387 ?_
  rw [show nI (4 * j) + 2 = nI ((4 * j) + 2) from nI_add (4 * j) 2]
  refine va_sld hx hb hX hbl hbA hS (vp_in_nI (n := ((4 * j) + 2)) (by omega) (by omega)) dL_law_388 ?_
  refine lv_aload_n hx hb dL_law_389 rfl (lv_at hl 4 rfl) ?_
  obtain ⟨N, Rs, a, x, C, n, P, th, J, v, hLS⟩ := hLI
  obtain ⟨kk9, K9, M9, hq1, hq2, hq3, hq4⟩ := q_swap hlt hLS (xs (nI ((4 * j) + 1)).toNatClampNeg) (xs (nI ((4 * j) + 2)).toNatClampNeg)
  refine nXS (As := [.ref (ad 0), .int (xs (nI ((4 * j) + 1)).toNatClampNeg), .int (xs (nI ((4 * j) + 2)).toNatClampNeg), .ref (ad 240)]) (rest := _) hx hb hml hown hts hP hK hD hZ hNC hA hS hcc hq1 (vx_cwSW 4 hts gL_law_L_swap rfl rfl rfl (by decide +kernel) ⟨(Nat.le_of_ble_eq_true rfl), (Nat.le_of_ble_eq_true rfl)⟩) hl.1 rfl (Nat.le_of_ble_eq_true rfl) dL_law_390 (fun r9 st1 H locs hq hP hD hS => ?_)
  obtain ⟨hr9, hKs⟩ := hq
  subst hr9
  refine lv_istore (lv' := [(5, .int r9), (4, .int (nI (4 * j))), (0, .ref b), (1, .ref (ad 0)), (2, .ref (ad 208)), (3, .ref (ad 240))]) hx hb dL_law_393 hl (by decide) rfl (fun ls hl => ?_)
  refine lv_aload_n hx hb dL_law_395 rfl (lv_at hl 4 rfl) ?_
  refine lv_aload_n hx hb dL_law_396 rfl (lv_at hl 2 rfl) ?_
  refine lv_iload hx hb dL_law_397 (lv_at hl 1 rfl) ?_
  refine lv_iconst (v := 1) hx hb dL_law_399 (by decide) ?_
  refine lv_iadd hx hb dL_law_400 ?_
  rw [nI_1]
  refine va_sld hx hb hX hbl hbA hS (vp_in_nI (n := ((4 * j) + 1)) (by omega) (by omega)) dL_law_401 ?_
  refine lv_aload_n hx hb dL_law_402 rfl (lv_at hl 2 rfl) ?_
  refine lv_iload hx hb dL_law_403 (lv_at hl 1 rfl) ?_
  refine lv_iconst (v := 2) hx hb dL_law_405 (by decide) ?_
  refine lv_iadd hx hb dL_law_406 ?_
  rw [show nI (4 * j) + 2 = nI ((4 * j) + 2) from nI_add (4 * j) 2]
  refine va_sld hx hb hX hbl hbA hS (vp_in_nI (n := ((4 * j) + 2)) (by omega) (by omega)) dL_law_407 ?_
  obtain ⟨fs9, h208⟩ := hq2 _ hKs
  refine nVi (As := [.int (xs (nI ((4 * j) + 1)).toNatClampNeg), .int (xs (nI ((4 * j) + 2)).toNatClampNeg)]) (rest := _) hx hb hml hown hts hP hK hD hZ hA hS hcc h208 rfl (hq3 _ hKs) (cwV 2 hts gL_law_X5_swap rfl rfl rfl (by decide +kernel) ⟨(Nat.le_of_ble_eq_true rfl), (Nat.le_of_ble_eq_true rfl)⟩) hl.1 rfl (Nat.le_of_ble_eq_true rfl) dL_law_408 (fun b9 st2 H locs hq hP hD hS => ?_)
  obtain ⟨⟨G9, hG9, hth⟩, hout, ⟨v9, hv9⟩, hLI⟩ := hq4 _ _ _ hKs hq
  refine lv_istore (lv' := [(6, .int b9), (5, .int r9), (4, .int (nI (4 * j))), (0, .ref b), (1, .ref (ad 0)), (2, .ref (ad 208)), (3, .ref (ad 240))]) hx hb dL_law_411 hl (by decide) rfl (fun ls hl => ?_)
  refine lv_aload_n hx hb dL_law_413 rfl (lv_at hl 5 rfl) ?_
  refine nVi (As := []) (rest := _) hx hb hml hown hts hP hK hD hZ hA hS hcc hG9.1 rfl (m_thrown l E ad st2 208 G9 hG9) (cwV 0 hts gL_law_X5_thrown rfl rfl rfl (by decide +kernel) ⟨(Nat.le_of_ble_eq_true rfl), (Nat.le_of_ble_eq_true rfl)⟩) hl.1 rfl (Nat.le_of_ble_eq_true rfl) dL_law_414 (fun r3 st3 H locs hq hP hD hS => ?_)
  obtain ⟨hr3, rfl⟩ := hq
  rw [hth] at hr3
  refine lv_iload hx hb dL_law_417 (lv_at hl 1 rfl) ?_
  refine lv_icmp_eq (tgt := 424) hx hb dL_law_419 (by decide) (fun c419_0 => ?_) (fun c419_0 => absurd hr3 c419_0)
  refine lv_iload hx hb dL_law_424 (lv_at hl 1 rfl) ?_
  refine lv_if_ne (tgt := 441) hx hb dL_law_426 (by decide) (fun c426_1 => ?_) (fun c426_1 => ?_)
  · refine lv_goto (tgt := 1598) hx hb dL_law_441 (by decide) ?_
    exact kk st2 H locs ls hLI hP hD hS (lv_sub hl [2, 3, 4, 5, 6] rfl)
  · refine lv_aload_n hx hb dL_law_429 rfl (lv_at hl 6 rfl) ?_
    refine lv_iconst (v := 0) hx hb dL_law_430 (by decide) ?_
    refine nLld hx hb hK hP (hout c426_1) dL_law_431 ?_
    refine lv_iload hx hb dL_law_432 (lv_at hl 0 rfl) ?_
    refine lv_i2l (v := b9.toInt64) hx hb dL_law_434 rfl ?_
    refine W.lcmp hx hb dL_law_435 ?_
    refine lv_if_eq (tgt := 441) hx hb dL_law_436 (by decide) (fun c436_2 => ?_) (fun c436_2 => absurd (lg_self _) c436_2)
    refine lv_goto (tgt := 1598) hx hb dL_law_441 (by decide) ?_
    exact kk st2 H locs ls hLI hP hD hS (lv_sub hl [2, 3, 4, 5, 6] rfl)

set_option maxHeartbeats 4000000 in
set_option maxRecDepth 100000 in
theorem lc_bar {pg : Program} {l : Launch} {en : Env} {s : State} {mi : MethodId} {ar : Array Value} {bw : List Frame} {mth : Method} {cd : Code} {Q : State → Prop} {E : NE} {ad : Nat → Nat} {b L : Nat} {xs : Nat → Int32} (hlt : l.stackTraces = false) (hx : pg.tables.exec = Jvm.exec) (hb : cd.code = cL_law) (hml : cd.maxLocals = 9) (hown : s.vm.findClass RL = some mi.cls) (hts : ∀ w ∈ wsL_law, w.before ar s = true) (hX : va_X b L xs s s.heap) (hbl : b < s.heap.size) (hL : L ≤ 2048) (hK : va_K E.1 vwCl (nTys E) s) (hZ : nZ E (lwA s) s s.heap) (hNC : nNC s) {j : Nat} (hj : 4 * j + 3 < L) {st : NW} {H : Heap} {locs : List Loc} {ls : Array Slot} {cells slots : Nat} (hcc : cells + 1 ≤ room_1.cells ∧ slots + 6 ≤ room_1.slots) (hLI : LI E ad st) (hP : nP E ad st H) (hD : nD (lwA s) ad st) (hS : va_S (lwA s) s.heap H locs) (hl : lv_has ls 9 [(4, .int (nI (4 * j))), (0, .ref b), (1, .ref (ad 0)), (2, .ref (ad 208)), (3, .ref (ad 240))]) (kk : ∀ (st1 : NW) (H1 : Heap) (locs1 : List Loc) (ls1 : Array Slot), LI E ad st1 → nP E ad st1 H1 → nD (lwA s) ad st1 → va_S (lwA s) s.heap H1 locs1 → lv_has ls1 9 [(4, .int (nI (4 * j))), (0, .ref b), (1, .ref (ad 0)), (2, .ref (ad 208)), (3, .ref (ad 240))] → W pg l en room_1 s mi ar bw mth cd H1 locs1 (cells + 1) (slots + 6) Q (F0 mi 1598 ls1 [])) : W pg l en room_1 s mi ar bw mth cd H locs cells slots Q (F0 mi 444 ls []) := by
  have hA : ∀ q, s.heap.size ≤ q → lwA s q := fun _ h => h
  have hbA : ¬ lwA s b := Nat.not_le.mpr hbl
  refine lv_aload_n hx hb dL_law_444 rfl (lv_at hl 2 rfl) ?_
  refine lv_aload_n hx hb dL_law_445 rfl (lv_at hl 1 rfl) ?_
  refine lv_iload hx hb dL_law_446 (lv_at hl 0 rfl) ?_
  refine lv_iconst (v := 1) hx hb dL_law_448 (by decide) ?_
  refine lv_iadd hx hb dL_law_449 ?_
  rw [nI_1]
  refine va_sld hx hb hX hbl hbA hS (vp_in_nI (n := ((4 * j) + 1)) (by omega) (by omega)) dL_law_450 ?_
  refine lv_aload_n hx hb dL_law_451 rfl (lv_at hl 1 rfl) ?_
  refine lv_iload hx hb dL_law_452 (lv_at hl 0 rfl) ?_
  refine lv_iconst (v := 2) hx hb dL_law_454 (by decide) ?_
  refine lv_iadd hx hb dL_law_455 ?_
  rw [show nI (4 * j) + 2 = nI ((4 * j) + 2) from nI_add (4 * j) 2]
  refine va_sld hx hb hX hbl hbA hS (vp_in_nI (n := ((4 * j) + 2)) (by omega) (by omega)) dL_law_456 ?_
  refine lv_aload_n hx hb dL_law_457 rfl (lv_at hl 1 rfl) ?_
  refine lv_iload hx hb dL_law_458 (lv_at hl 0 rfl) ?_
  refine lv_iconst (v := 3) hx hb dL_law_460 (by decide) ?_
  refine lv_iadd hx hb dL_law_461 ?_
  rw [show nI (4 * j) + 3 = nI ((4 * j) + 3) from nI_add (4 * j) 3]
  refine va_sld hx hb hX hbl hbA hS (vp_in_nI (n := ((4 * j) + 3)) (by omega) (by omega)) dL_law_462 ?_
  refine lv_aload_n hx hb dL_law_463 rfl (lv_at hl 4 rfl) ?_
  obtain ⟨N, Rs, a, x, C, n, P, th, J, v, hLS⟩ := hLI
  obtain ⟨kk9, K9, M9, hq1, hq2, hq3, hq4⟩ := q_bar hlt hLS (xs (nI ((4 * j) + 1)).toNatClampNeg) (xs (nI ((4 * j) + 2)).toNatClampNeg) (xs (nI ((4 * j) + 3)).toNatClampNeg)
  refine nXS (As := [.ref (ad 0), .int (xs (nI ((4 * j) + 1)).toNatClampNeg), .int (xs (nI ((4 * j) + 2)).toNatClampNeg), .int (xs (nI ((4 * j) + 3)).toNatClampNeg), .ref (ad 240)]) (rest := _) hx hb hml hown hts hP hK hD hZ hNC hA hS hcc hq1 (vx_cwSW 5 hts gL_law_L_bar rfl rfl rfl (by decide +kernel) ⟨(Nat.le_of_ble_eq_true rfl), (Nat.le_of_ble_eq_true rfl)⟩) hl.1 rfl (Nat.le_of_ble_eq_true rfl) dL_law_464 (fun r9 st1 H locs hq hP hD hS => ?_)
  obtain ⟨hr9, hKs⟩ := hq
  subst hr9
  refine lv_istore (lv' := [(5, .int r9), (4, .int (nI (4 * j))), (0, .ref b), (1, .ref (ad 0)), (2, .ref (ad 208)), (3, .ref (ad 240))]) hx hb dL_law_467 hl (by decide) rfl (fun ls hl => ?_)
  refine lv_aload_n hx hb dL_law_469 rfl (lv_at hl 4 rfl) ?_
  refine lv_aload_n hx hb dL_law_470 rfl (lv_at hl 2 rfl) ?_
  refine lv_iload hx hb dL_law_471 (lv_at hl 1 rfl) ?_
  refine lv_iconst (v := 1) hx hb dL_law_473 (by decide) ?_
  refine lv_iadd hx hb dL_law_474 ?_
  rw [nI_1]
  refine va_sld hx hb hX hbl hbA hS (vp_in_nI (n := ((4 * j) + 1)) (by omega) (by omega)) dL_law_475 ?_
  refine lv_aload_n hx hb dL_law_476 rfl (lv_at hl 2 rfl) ?_
  refine lv_iload hx hb dL_law_477 (lv_at hl 1 rfl) ?_
  refine lv_iconst (v := 2) hx hb dL_law_479 (by decide) ?_
  refine lv_iadd hx hb dL_law_480 ?_
  rw [show nI (4 * j) + 2 = nI ((4 * j) + 2) from nI_add (4 * j) 2]
  refine va_sld hx hb hX hbl hbA hS (vp_in_nI (n := ((4 * j) + 2)) (by omega) (by omega)) dL_law_481 ?_
  refine lv_aload_n hx hb dL_law_482 rfl (lv_at hl 2 rfl) ?_
  refine lv_iload hx hb dL_law_483 (lv_at hl 1 rfl) ?_
  refine lv_iconst (v := 3) hx hb dL_law_485 (by decide) ?_
  refine lv_iadd hx hb dL_law_486 ?_
  rw [show nI (4 * j) + 3 = nI ((4 * j) + 3) from nI_add (4 * j) 3]
  refine va_sld hx hb hX hbl hbA hS (vp_in_nI (n := ((4 * j) + 3)) (by omega) (by omega)) dL_law_487 ?_
  obtain ⟨fs9, h208⟩ := hq2 _ hKs
  refine nVi (As := [.int (xs (nI ((4 * j) + 1)).toNatClampNeg), .int (xs (nI ((4 * j) + 2)).toNatClampNeg), .int (xs (nI ((4 * j) + 3)).toNatClampNeg)]) (rest := _) hx hb hml hown hts hP hK hD hZ hA hS hcc h208 rfl (hq3 _ hKs) (cwV 3 hts gL_law_X5_bar rfl rfl rfl (by decide +kernel) ⟨(Nat.le_of_ble_eq_true rfl), (Nat.le_of_ble_eq_true rfl)⟩) hl.1 rfl (Nat.le_of_ble_eq_true rfl) dL_law_488 (fun b9 st2 H locs hq hP hD hS => ?_)
  obtain ⟨⟨G9, hG9, hth⟩, hout, ⟨v9, hv9⟩, hLI⟩ := hq4 _ _ _ hKs hq
  refine lv_istore (lv' := [(6, .int b9), (5, .int r9), (4, .int (nI (4 * j))), (0, .ref b), (1, .ref (ad 0)), (2, .ref (ad 208)), (3, .ref (ad 240))]) hx hb dL_law_491 hl (by decide) rfl (fun ls hl => ?_)
  refine lv_aload_n hx hb dL_law_493 rfl (lv_at hl 5 rfl) ?_
  refine nVi (As := []) (rest := _) hx hb hml hown hts hP hK hD hZ hA hS hcc hG9.1 rfl (m_thrown l E ad st2 208 G9 hG9) (cwV 0 hts gL_law_X5_thrown rfl rfl rfl (by decide +kernel) ⟨(Nat.le_of_ble_eq_true rfl), (Nat.le_of_ble_eq_true rfl)⟩) hl.1 rfl (Nat.le_of_ble_eq_true rfl) dL_law_494 (fun r3 st3 H locs hq hP hD hS => ?_)
  obtain ⟨hr3, rfl⟩ := hq
  rw [hth] at hr3
  refine lv_iload hx hb dL_law_497 (lv_at hl 1 rfl) ?_
  refine lv_icmp_eq (tgt := 504) hx hb dL_law_499 (by decide) (fun c499_0 => ?_) (fun c499_0 => absurd hr3 c499_0)
  refine lv_iload hx hb dL_law_504 (lv_at hl 1 rfl) ?_
  refine lv_if_ne (tgt := 521) hx hb dL_law_506 (by decide) (fun c506_1 => ?_) (fun c506_1 => ?_)
  · refine lv_goto (tgt := 1598) hx hb dL_law_521 (by decide) ?_
    exact kk st2 H locs ls hLI hP hD hS (lv_sub hl [2, 3, 4, 5, 6] rfl)
  · refine lv_aload_n hx hb dL_law_509 rfl (lv_at hl 6 rfl) ?_
    refine lv_iconst (v := 0) hx hb dL_law_510 (by decide) ?_
    refine nLld hx hb hK hP (hout c506_1) dL_law_511 ?_
    refine lv_iload hx hb dL_law_512 (lv_at hl 0 rfl) ?_
    refine lv_i2l (v := b9.toInt64) hx hb dL_law_514 rfl ?_
    refine W.lcmp hx hb dL_law_515 ?_
    refine lv_if_eq (tgt := 521) hx hb dL_law_516 (by decide) (fun c516_2 => ?_) (fun c516_2 => absurd (lg_self _) c516_2)
    refine lv_goto (tgt := 1598) hx hb dL_law_521 (by decide) ?_
    exact kk st2 H locs ls hLI hP hD hS (lv_sub hl [2, 3, 4, 5, 6] rfl)

set_option maxHeartbeats 4000000 in
set_option maxRecDepth 100000 in
theorem lc_unbar {pg : Program} {l : Launch} {en : Env} {s : State} {mi : MethodId} {ar : Array Value} {bw : List Frame} {mth : Method} {cd : Code} {Q : State → Prop} {E : NE} {ad : Nat → Nat} {b L : Nat} {xs : Nat → Int32} (hlt : l.stackTraces = false) (hx : pg.tables.exec = Jvm.exec) (hb : cd.code = cL_law) (hml : cd.maxLocals = 9) (hown : s.vm.findClass RL = some mi.cls) (hts : ∀ w ∈ wsL_law, w.before ar s = true) (hX : va_X b L xs s s.heap) (hbl : b < s.heap.size) (hL : L ≤ 2048) (hK : va_K E.1 vwCl (nTys E) s) (hZ : nZ E (lwA s) s s.heap) (hNC : nNC s) {j : Nat} (hj : 4 * j + 3 < L) {st : NW} {H : Heap} {locs : List Loc} {ls : Array Slot} {cells slots : Nat} (hcc : cells + 1 ≤ room_1.cells ∧ slots + 6 ≤ room_1.slots) (hLI : LI E ad st) (hP : nP E ad st H) (hD : nD (lwA s) ad st) (hS : va_S (lwA s) s.heap H locs) (hl : lv_has ls 9 [(4, .int (nI (4 * j))), (0, .ref b), (1, .ref (ad 0)), (2, .ref (ad 208)), (3, .ref (ad 240))]) (kk : ∀ (st1 : NW) (H1 : Heap) (locs1 : List Loc) (ls1 : Array Slot), LI E ad st1 → nP E ad st1 H1 → nD (lwA s) ad st1 → va_S (lwA s) s.heap H1 locs1 → lv_has ls1 9 [(4, .int (nI (4 * j))), (0, .ref b), (1, .ref (ad 0)), (2, .ref (ad 208)), (3, .ref (ad 240))] → W pg l en room_1 s mi ar bw mth cd H1 locs1 (cells + 1) (slots + 6) Q (F0 mi 1598 ls1 [])) : W pg l en room_1 s mi ar bw mth cd H locs cells slots Q (F0 mi 524 ls []) := by
  have hA : ∀ q, s.heap.size ≤ q → lwA s q := fun _ h => h
  have hbA : ¬ lwA s b := Nat.not_le.mpr hbl
  refine lv_aload_n hx hb dL_law_524 rfl (lv_at hl 2 rfl) ?_
  refine lv_aload_n hx hb dL_law_525 rfl (lv_at hl 1 rfl) ?_
  refine lv_iload hx hb dL_law_526 (lv_at hl 0 rfl) ?_
  refine lv_iconst (v := 1) hx hb dL_law_528 (by decide) ?_
  refine lv_iadd hx hb dL_law_529 ?_
  rw [nI_1]
  refine va_sld hx hb hX hbl hbA hS (vp_in_nI (n := ((4 * j) + 1)) (by omega) (by omega)) dL_law_530 ?_
  refine lv_aload_n hx hb dL_law_531 rfl (lv_at hl 4 rfl) ?_
  obtain ⟨N, Rs, a, x, C, n, P, th, J, v, hLS⟩ := hLI
  obtain ⟨kk9, K9, M9, hq1, hq2, hq3, hq4⟩ := q_unbar hlt hLS (xs (nI ((4 * j) + 1)).toNatClampNeg)
  refine nXS (As := [.ref (ad 0), .int (xs (nI ((4 * j) + 1)).toNatClampNeg), .ref (ad 240)]) (rest := _) hx hb hml hown hts hP hK hD hZ hNC hA hS hcc hq1 (vx_cwSW 3 hts gL_law_L_unbar rfl rfl rfl (by decide +kernel) ⟨(Nat.le_of_ble_eq_true rfl), (Nat.le_of_ble_eq_true rfl)⟩) hl.1 rfl (Nat.le_of_ble_eq_true rfl) dL_law_532 (fun r9 st1 H locs hq hP hD hS => ?_)
  obtain ⟨hr9, hKs⟩ := hq
  subst hr9
  refine lv_istore (lv' := [(5, .int r9), (4, .int (nI (4 * j))), (0, .ref b), (1, .ref (ad 0)), (2, .ref (ad 208)), (3, .ref (ad 240))]) hx hb dL_law_535 hl (by decide) rfl (fun ls hl => ?_)
  refine lv_aload_n hx hb dL_law_537 rfl (lv_at hl 4 rfl) ?_
  refine lv_aload_n hx hb dL_law_538 rfl (lv_at hl 2 rfl) ?_
  refine lv_iload hx hb dL_law_539 (lv_at hl 1 rfl) ?_
  refine lv_iconst (v := 1) hx hb dL_law_541 (by decide) ?_
  refine lv_iadd hx hb dL_law_542 ?_
  rw [nI_1]
  refine va_sld hx hb hX hbl hbA hS (vp_in_nI (n := ((4 * j) + 1)) (by omega) (by omega)) dL_law_543 ?_
  obtain ⟨fs9, h208⟩ := hq2 _ hKs
  refine nVi (As := [.int (xs (nI ((4 * j) + 1)).toNatClampNeg)]) (rest := _) hx hb hml hown hts hP hK hD hZ hA hS hcc h208 rfl (hq3 _ hKs) (cwV 1 hts gL_law_X5_unbar rfl rfl rfl (by decide +kernel) ⟨(Nat.le_of_ble_eq_true rfl), (Nat.le_of_ble_eq_true rfl)⟩) hl.1 rfl (Nat.le_of_ble_eq_true rfl) dL_law_544 (fun b9 st2 H locs hq hP hD hS => ?_)
  obtain ⟨⟨G9, hG9, hth⟩, hout, ⟨v9, hv9⟩, hLI⟩ := hq4 _ _ _ hKs hq
  refine lv_istore (lv' := [(6, .int b9), (5, .int r9), (4, .int (nI (4 * j))), (0, .ref b), (1, .ref (ad 0)), (2, .ref (ad 208)), (3, .ref (ad 240))]) hx hb dL_law_547 hl (by decide) rfl (fun ls hl => ?_)
  refine lv_aload_n hx hb dL_law_549 rfl (lv_at hl 5 rfl) ?_
  refine nVi (As := []) (rest := _) hx hb hml hown hts hP hK hD hZ hA hS hcc hG9.1 rfl (m_thrown l E ad st2 208 G9 hG9) (cwV 0 hts gL_law_X5_thrown rfl rfl rfl (by decide +kernel) ⟨(Nat.le_of_ble_eq_true rfl), (Nat.le_of_ble_eq_true rfl)⟩) hl.1 rfl (Nat.le_of_ble_eq_true rfl) dL_law_550 (fun r3 st3 H locs hq hP hD hS => ?_)
  obtain ⟨hr3, rfl⟩ := hq
  rw [hth] at hr3
  refine lv_iload hx hb dL_law_553 (lv_at hl 1 rfl) ?_
  refine lv_icmp_eq (tgt := 560) hx hb dL_law_555 (by decide) (fun c555_0 => ?_) (fun c555_0 => absurd hr3 c555_0)
  refine lv_iload hx hb dL_law_560 (lv_at hl 1 rfl) ?_
  refine lv_if_ne (tgt := 577) hx hb dL_law_562 (by decide) (fun c562_1 => ?_) (fun c562_1 => ?_)
  · refine lv_goto (tgt := 1598) hx hb dL_law_577 (by decide) ?_
    exact kk st2 H locs ls hLI hP hD hS (lv_sub hl [2, 3, 4, 5, 6] rfl)
  · refine lv_aload_n hx hb dL_law_565 rfl (lv_at hl 6 rfl) ?_
    refine lv_iconst (v := 0) hx hb dL_law_566 (by decide) ?_
    refine nLld hx hb hK hP (hout c562_1) dL_law_567 ?_
    refine lv_iload hx hb dL_law_568 (lv_at hl 0 rfl) ?_
    refine lv_i2l (v := b9.toInt64) hx hb dL_law_570 rfl ?_
    refine W.lcmp hx hb dL_law_571 ?_
    refine lv_if_eq (tgt := 577) hx hb dL_law_572 (by decide) (fun c572_2 => ?_) (fun c572_2 => absurd (lg_self _) c572_2)
    refine lv_goto (tgt := 1598) hx hb dL_law_577 (by decide) ?_
    exact kk st2 H locs ls hLI hP hD hS (lv_sub hl [2, 3, 4, 5, 6] rfl)

set_option maxHeartbeats 4000000 in
set_option maxRecDepth 100000 in
theorem lc_coil {pg : Program} {l : Launch} {en : Env} {s : State} {mi : MethodId} {ar : Array Value} {bw : List Frame} {mth : Method} {cd : Code} {Q : State → Prop} {E : NE} {ad : Nat → Nat} {b L : Nat} {xs : Nat → Int32} (hlt : l.stackTraces = false) (hx : pg.tables.exec = Jvm.exec) (hb : cd.code = cL_law) (hml : cd.maxLocals = 9) (hown : s.vm.findClass RL = some mi.cls) (hts : ∀ w ∈ wsL_law, w.before ar s = true) (hX : va_X b L xs s s.heap) (hbl : b < s.heap.size) (hL : L ≤ 2048) (hK : va_K E.1 vwCl (nTys E) s) (hZ : nZ E (lwA s) s s.heap) (hNC : nNC s) {j : Nat} (hj : 4 * j + 3 < L) {st : NW} {H : Heap} {locs : List Loc} {ls : Array Slot} {cells slots : Nat} (hcc : cells + 1 ≤ room_1.cells ∧ slots + 6 ≤ room_1.slots) (hLI : LI E ad st) (hP : nP E ad st H) (hD : nD (lwA s) ad st) (hS : va_S (lwA s) s.heap H locs) (hl : lv_has ls 9 [(4, .int (nI (4 * j))), (0, .ref b), (1, .ref (ad 0)), (2, .ref (ad 208)), (3, .ref (ad 240))]) (kk : ∀ (st1 : NW) (H1 : Heap) (locs1 : List Loc) (ls1 : Array Slot), LI E ad st1 → nP E ad st1 H1 → nD (lwA s) ad st1 → va_S (lwA s) s.heap H1 locs1 → lv_has ls1 9 [(4, .int (nI (4 * j))), (0, .ref b), (1, .ref (ad 0)), (2, .ref (ad 208)), (3, .ref (ad 240))] → W pg l en room_1 s mi ar bw mth cd H1 locs1 (cells + 1) (slots + 6) Q (F0 mi 1598 ls1 [])) : W pg l en room_1 s mi ar bw mth cd H locs cells slots Q (F0 mi 580 ls []) := by
  have hA : ∀ q, s.heap.size ≤ q → lwA s q := fun _ h => h
  have hbA : ¬ lwA s b := Nat.not_le.mpr hbl
  refine lv_aload_n hx hb dL_law_580 rfl (lv_at hl 2 rfl) ?_
  refine lv_aload_n hx hb dL_law_581 rfl (lv_at hl 1 rfl) ?_
  refine lv_iload hx hb dL_law_582 (lv_at hl 0 rfl) ?_
  refine lv_iconst (v := 1) hx hb dL_law_584 (by decide) ?_
  refine lv_iadd hx hb dL_law_585 ?_
  rw [nI_1]
  refine va_sld hx hb hX hbl hbA hS (vp_in_nI (n := ((4 * j) + 1)) (by omega) (by omega)) dL_law_586 ?_
  refine lv_aload_n hx hb dL_law_587 rfl (lv_at hl 1 rfl) ?_
  refine lv_iload hx hb dL_law_588 (lv_at hl 0 rfl) ?_
  refine lv_iconst (v := 2) hx hb dL_law_590 (by decide) ?_
  refine lv_iadd hx hb dL_law_591 ?_
  rw [show nI (4 * j) + 2 = nI ((4 * j) + 2) from nI_add (4 * j) 2]
  refine va_sld hx hb hX hbl hbA hS (vp_in_nI (n := ((4 * j) + 2)) (by omega) (by omega)) dL_law_592 ?_
  refine lv_aload_n hx hb dL_law_593 rfl (lv_at hl 4 rfl) ?_
  obtain ⟨N, Rs, a, x, C, n, P, th, J, v, hLS⟩ := hLI
  obtain ⟨kk9, K9, M9, hq1, hq2, hq3, hq4⟩ := q_coil hlt hLS (xs (nI ((4 * j) + 1)).toNatClampNeg) (xs (nI ((4 * j) + 2)).toNatClampNeg)
  refine nXS (As := [.ref (ad 0), .int (xs (nI ((4 * j) + 1)).toNatClampNeg), .int (xs (nI ((4 * j) + 2)).toNatClampNeg), .ref (ad 240)]) (rest := _) hx hb hml hown hts hP hK hD hZ hNC hA hS hcc hq1 (vx_cwSW 4 hts gL_law_L_coil rfl rfl rfl (by decide +kernel) ⟨(Nat.le_of_ble_eq_true rfl), (Nat.le_of_ble_eq_true rfl)⟩) hl.1 rfl (Nat.le_of_ble_eq_true rfl) dL_law_594 (fun r9 st1 H locs hq hP hD hS => ?_)
  obtain ⟨hr9, hKs⟩ := hq
  subst hr9
  refine lv_istore (lv' := [(5, .int r9), (4, .int (nI (4 * j))), (0, .ref b), (1, .ref (ad 0)), (2, .ref (ad 208)), (3, .ref (ad 240))]) hx hb dL_law_597 hl (by decide) rfl (fun ls hl => ?_)
  refine lv_aload_n hx hb dL_law_599 rfl (lv_at hl 4 rfl) ?_
  refine lv_aload_n hx hb dL_law_600 rfl (lv_at hl 2 rfl) ?_
  refine lv_iload hx hb dL_law_601 (lv_at hl 1 rfl) ?_
  refine lv_iconst (v := 1) hx hb dL_law_603 (by decide) ?_
  refine lv_iadd hx hb dL_law_604 ?_
  rw [nI_1]
  refine va_sld hx hb hX hbl hbA hS (vp_in_nI (n := ((4 * j) + 1)) (by omega) (by omega)) dL_law_605 ?_
  refine lv_aload_n hx hb dL_law_606 rfl (lv_at hl 2 rfl) ?_
  refine lv_iload hx hb dL_law_607 (lv_at hl 1 rfl) ?_
  refine lv_iconst (v := 2) hx hb dL_law_609 (by decide) ?_
  refine lv_iadd hx hb dL_law_610 ?_
  rw [show nI (4 * j) + 2 = nI ((4 * j) + 2) from nI_add (4 * j) 2]
  refine va_sld hx hb hX hbl hbA hS (vp_in_nI (n := ((4 * j) + 2)) (by omega) (by omega)) dL_law_611 ?_
  obtain ⟨fs9, h208⟩ := hq2 _ hKs
  refine nVi (As := [.int (xs (nI ((4 * j) + 1)).toNatClampNeg), .int (xs (nI ((4 * j) + 2)).toNatClampNeg)]) (rest := _) hx hb hml hown hts hP hK hD hZ hA hS hcc h208 rfl (hq3 _ hKs) (cwV 2 hts gL_law_X5_coil rfl rfl rfl (by decide +kernel) ⟨(Nat.le_of_ble_eq_true rfl), (Nat.le_of_ble_eq_true rfl)⟩) hl.1 rfl (Nat.le_of_ble_eq_true rfl) dL_law_612 (fun b9 st2 H locs hq hP hD hS => ?_)
  obtain ⟨⟨G9, hG9, hth⟩, hout, ⟨v9, hv9⟩, hLI⟩ := hq4 _ _ _ hKs hq
  refine lv_istore (lv' := [(6, .int b9), (5, .int r9), (4, .int (nI (4 * j))), (0, .ref b), (1, .ref (ad 0)), (2, .ref (ad 208)), (3, .ref (ad 240))]) hx hb dL_law_615 hl (by decide) rfl (fun ls hl => ?_)
  refine lv_aload_n hx hb dL_law_617 rfl (lv_at hl 5 rfl) ?_
  refine nVi (As := []) (rest := _) hx hb hml hown hts hP hK hD hZ hA hS hcc hG9.1 rfl (m_thrown l E ad st2 208 G9 hG9) (cwV 0 hts gL_law_X5_thrown rfl rfl rfl (by decide +kernel) ⟨(Nat.le_of_ble_eq_true rfl), (Nat.le_of_ble_eq_true rfl)⟩) hl.1 rfl (Nat.le_of_ble_eq_true rfl) dL_law_618 (fun r3 st3 H locs hq hP hD hS => ?_)
  obtain ⟨hr3, rfl⟩ := hq
  rw [hth] at hr3
  refine lv_iload hx hb dL_law_621 (lv_at hl 1 rfl) ?_
  refine lv_icmp_eq (tgt := 628) hx hb dL_law_623 (by decide) (fun c623_0 => ?_) (fun c623_0 => absurd hr3 c623_0)
  refine lv_iload hx hb dL_law_628 (lv_at hl 1 rfl) ?_
  refine lv_if_ne (tgt := 645) hx hb dL_law_630 (by decide) (fun c630_1 => ?_) (fun c630_1 => ?_)
  · refine lv_goto (tgt := 1598) hx hb dL_law_645 (by decide) ?_
    exact kk st2 H locs ls hLI hP hD hS (lv_sub hl [2, 3, 4, 5, 6] rfl)
  · refine lv_aload_n hx hb dL_law_633 rfl (lv_at hl 6 rfl) ?_
    refine lv_iconst (v := 0) hx hb dL_law_634 (by decide) ?_
    refine nLld hx hb hK hP (hout c630_1) dL_law_635 ?_
    refine lv_iload hx hb dL_law_636 (lv_at hl 0 rfl) ?_
    refine lv_i2l (v := b9.toInt64) hx hb dL_law_638 rfl ?_
    refine W.lcmp hx hb dL_law_639 ?_
    refine lv_if_eq (tgt := 645) hx hb dL_law_640 (by decide) (fun c640_2 => ?_) (fun c640_2 => absurd (lg_self _) c640_2)
    refine lv_goto (tgt := 1598) hx hb dL_law_645 (by decide) ?_
    exact kk st2 H locs ls hLI hP hD hS (lv_sub hl [2, 3, 4, 5, 6] rfl)

set_option maxHeartbeats 4000000 in
set_option maxRecDepth 100000 in
theorem lc_set {pg : Program} {l : Launch} {en : Env} {s : State} {mi : MethodId} {ar : Array Value} {bw : List Frame} {mth : Method} {cd : Code} {Q : State → Prop} {E : NE} {ad : Nat → Nat} {b L : Nat} {xs : Nat → Int32} (hlt : l.stackTraces = false) (hx : pg.tables.exec = Jvm.exec) (hb : cd.code = cL_law) (hml : cd.maxLocals = 9) (hown : s.vm.findClass RL = some mi.cls) (hts : ∀ w ∈ wsL_law, w.before ar s = true) (hX : va_X b L xs s s.heap) (hbl : b < s.heap.size) (hL : L ≤ 2048) (hK : va_K E.1 vwCl (nTys E) s) (hZ : nZ E (lwA s) s s.heap) (hNC : nNC s) {j : Nat} (hj : 4 * j + 3 < L) {st : NW} {H : Heap} {locs : List Loc} {ls : Array Slot} {cells slots : Nat} (hcc : cells + 1 ≤ room_1.cells ∧ slots + 6 ≤ room_1.slots) (hLI : LI E ad st) (hP : nP E ad st H) (hD : nD (lwA s) ad st) (hS : va_S (lwA s) s.heap H locs) (hl : lv_has ls 9 [(4, .int (nI (4 * j))), (0, .ref b), (1, .ref (ad 0)), (2, .ref (ad 208)), (3, .ref (ad 240))]) (kk : ∀ (st1 : NW) (H1 : Heap) (locs1 : List Loc) (ls1 : Array Slot), LI E ad st1 → nP E ad st1 H1 → nD (lwA s) ad st1 → va_S (lwA s) s.heap H1 locs1 → lv_has ls1 9 [(4, .int (nI (4 * j))), (0, .ref b), (1, .ref (ad 0)), (2, .ref (ad 208)), (3, .ref (ad 240))] → W pg l en room_1 s mi ar bw mth cd H1 locs1 (cells + 1) (slots + 6) Q (F0 mi 1598 ls1 [])) : W pg l en room_1 s mi ar bw mth cd H locs cells slots Q (F0 mi 648 ls []) := by
  have hA : ∀ q, s.heap.size ≤ q → lwA s q := fun _ h => h
  have hbA : ¬ lwA s b := Nat.not_le.mpr hbl
  refine lv_aload_n hx hb dL_law_648 rfl (lv_at hl 2 rfl) ?_
  refine lv_aload_n hx hb dL_law_649 rfl (lv_at hl 1 rfl) ?_
  refine lv_iload hx hb dL_law_650 (lv_at hl 0 rfl) ?_
  refine lv_iconst (v := 1) hx hb dL_law_652 (by decide) ?_
  refine lv_iadd hx hb dL_law_653 ?_
  rw [nI_1]
  refine va_sld hx hb hX hbl hbA hS (vp_in_nI (n := ((4 * j) + 1)) (by omega) (by omega)) dL_law_654 ?_
  refine lv_aload_n hx hb dL_law_655 rfl (lv_at hl 1 rfl) ?_
  refine lv_iload hx hb dL_law_656 (lv_at hl 0 rfl) ?_
  refine lv_iconst (v := 2) hx hb dL_law_658 (by decide) ?_
  refine lv_iadd hx hb dL_law_659 ?_
  rw [show nI (4 * j) + 2 = nI ((4 * j) + 2) from nI_add (4 * j) 2]
  refine va_sld hx hb hX hbl hbA hS (vp_in_nI (n := ((4 * j) + 2)) (by omega) (by omega)) dL_law_660 ?_
  refine lv_aload_n hx hb dL_law_661 rfl (lv_at hl 4 rfl) ?_
  obtain ⟨N, Rs, a, x, C, n, P, th, J, v, hLS⟩ := hLI
  obtain ⟨kk9, K9, M9, hq1, hq2, hq3, hq4⟩ := q_set hlt hLS (xs (nI ((4 * j) + 1)).toNatClampNeg) (xs (nI ((4 * j) + 2)).toNatClampNeg)
  refine nXS (As := [.ref (ad 0), .int (xs (nI ((4 * j) + 1)).toNatClampNeg), .int (xs (nI ((4 * j) + 2)).toNatClampNeg), .ref (ad 240)]) (rest := _) hx hb hml hown hts hP hK hD hZ hNC hA hS hcc hq1 (vx_cwSW 4 hts gL_law_L_set rfl rfl rfl (by decide +kernel) ⟨(Nat.le_of_ble_eq_true rfl), (Nat.le_of_ble_eq_true rfl)⟩) hl.1 rfl (Nat.le_of_ble_eq_true rfl) dL_law_662 (fun r9 st1 H locs hq hP hD hS => ?_)
  obtain ⟨hr9, hKs⟩ := hq
  subst hr9
  refine lv_istore (lv' := [(5, .int r9), (4, .int (nI (4 * j))), (0, .ref b), (1, .ref (ad 0)), (2, .ref (ad 208)), (3, .ref (ad 240))]) hx hb dL_law_665 hl (by decide) rfl (fun ls hl => ?_)
  refine lv_aload_n hx hb dL_law_667 rfl (lv_at hl 4 rfl) ?_
  refine lv_aload_n hx hb dL_law_668 rfl (lv_at hl 2 rfl) ?_
  refine lv_iload hx hb dL_law_669 (lv_at hl 1 rfl) ?_
  refine lv_iconst (v := 1) hx hb dL_law_671 (by decide) ?_
  refine lv_iadd hx hb dL_law_672 ?_
  rw [nI_1]
  refine va_sld hx hb hX hbl hbA hS (vp_in_nI (n := ((4 * j) + 1)) (by omega) (by omega)) dL_law_673 ?_
  refine lv_aload_n hx hb dL_law_674 rfl (lv_at hl 2 rfl) ?_
  refine lv_iload hx hb dL_law_675 (lv_at hl 1 rfl) ?_
  refine lv_iconst (v := 2) hx hb dL_law_677 (by decide) ?_
  refine lv_iadd hx hb dL_law_678 ?_
  rw [show nI (4 * j) + 2 = nI ((4 * j) + 2) from nI_add (4 * j) 2]
  refine va_sld hx hb hX hbl hbA hS (vp_in_nI (n := ((4 * j) + 2)) (by omega) (by omega)) dL_law_679 ?_
  obtain ⟨fs9, h208⟩ := hq2 _ hKs
  refine nVi (As := [.int (xs (nI ((4 * j) + 1)).toNatClampNeg), .int (xs (nI ((4 * j) + 2)).toNatClampNeg)]) (rest := _) hx hb hml hown hts hP hK hD hZ hA hS hcc h208 rfl (hq3 _ hKs) (cwV 2 hts gL_law_X5_set rfl rfl rfl (by decide +kernel) ⟨(Nat.le_of_ble_eq_true rfl), (Nat.le_of_ble_eq_true rfl)⟩) hl.1 rfl (Nat.le_of_ble_eq_true rfl) dL_law_680 (fun b9 st2 H locs hq hP hD hS => ?_)
  obtain ⟨⟨G9, hG9, hth⟩, hout, ⟨v9, hv9⟩, hLI⟩ := hq4 _ _ _ hKs hq
  refine lv_istore (lv' := [(6, .int b9), (5, .int r9), (4, .int (nI (4 * j))), (0, .ref b), (1, .ref (ad 0)), (2, .ref (ad 208)), (3, .ref (ad 240))]) hx hb dL_law_683 hl (by decide) rfl (fun ls hl => ?_)
  refine lv_aload_n hx hb dL_law_685 rfl (lv_at hl 5 rfl) ?_
  refine nVi (As := []) (rest := _) hx hb hml hown hts hP hK hD hZ hA hS hcc hG9.1 rfl (m_thrown l E ad st2 208 G9 hG9) (cwV 0 hts gL_law_X5_thrown rfl rfl rfl (by decide +kernel) ⟨(Nat.le_of_ble_eq_true rfl), (Nat.le_of_ble_eq_true rfl)⟩) hl.1 rfl (Nat.le_of_ble_eq_true rfl) dL_law_686 (fun r3 st3 H locs hq hP hD hS => ?_)
  obtain ⟨hr3, rfl⟩ := hq
  rw [hth] at hr3
  refine lv_iload hx hb dL_law_689 (lv_at hl 1 rfl) ?_
  refine lv_icmp_eq (tgt := 696) hx hb dL_law_691 (by decide) (fun c691_0 => ?_) (fun c691_0 => absurd hr3 c691_0)
  refine lv_iload hx hb dL_law_696 (lv_at hl 1 rfl) ?_
  refine lv_if_ne (tgt := 713) hx hb dL_law_698 (by decide) (fun c698_1 => ?_) (fun c698_1 => ?_)
  · refine lv_goto (tgt := 1598) hx hb dL_law_713 (by decide) ?_
    exact kk st2 H locs ls hLI hP hD hS (lv_sub hl [2, 3, 4, 5, 6] rfl)
  · refine lv_aload_n hx hb dL_law_701 rfl (lv_at hl 6 rfl) ?_
    refine lv_iconst (v := 0) hx hb dL_law_702 (by decide) ?_
    refine nLld hx hb hK hP (hout c698_1) dL_law_703 ?_
    refine lv_iload hx hb dL_law_704 (lv_at hl 0 rfl) ?_
    refine lv_i2l (v := b9.toInt64) hx hb dL_law_706 rfl ?_
    refine W.lcmp hx hb dL_law_707 ?_
    refine lv_if_eq (tgt := 713) hx hb dL_law_708 (by decide) (fun c708_2 => ?_) (fun c708_2 => absurd (lg_self _) c708_2)
    refine lv_goto (tgt := 1598) hx hb dL_law_713 (by decide) ?_
    exact kk st2 H locs ls hLI hP hD hS (lv_sub hl [2, 3, 4, 5, 6] rfl)

set_option maxHeartbeats 4000000 in
set_option maxRecDepth 100000 in
theorem lc_step {pg : Program} {l : Launch} {en : Env} {s : State} {mi : MethodId} {ar : Array Value} {bw : List Frame} {mth : Method} {cd : Code} {Q : State → Prop} {E : NE} {ad : Nat → Nat} {b L : Nat} {xs : Nat → Int32} (hlt : l.stackTraces = false) (hx : pg.tables.exec = Jvm.exec) (hb : cd.code = cL_law) (hml : cd.maxLocals = 9) (hown : s.vm.findClass RL = some mi.cls) (hts : ∀ w ∈ wsL_law, w.before ar s = true) (hX : va_X b L xs s s.heap) (hbl : b < s.heap.size) (hL : L ≤ 2048) (hK : va_K E.1 vwCl (nTys E) s) (hZ : nZ E (lwA s) s s.heap) (hNC : nNC s) {j : Nat} (hj : 4 * j + 3 < L) {st : NW} {H : Heap} {locs : List Loc} {ls : Array Slot} {cells slots : Nat} (hcc : cells + 1 ≤ room_1.cells ∧ slots + 6 ≤ room_1.slots) (hLI : LI E ad st) (hP : nP E ad st H) (hD : nD (lwA s) ad st) (hS : va_S (lwA s) s.heap H locs) (hl : lv_has ls 9 [(4, .int (nI (4 * j))), (0, .ref b), (1, .ref (ad 0)), (2, .ref (ad 208)), (3, .ref (ad 240))]) (kk : ∀ (st1 : NW) (H1 : Heap) (locs1 : List Loc) (ls1 : Array Slot), LI E ad st1 → nP E ad st1 H1 → nD (lwA s) ad st1 → va_S (lwA s) s.heap H1 locs1 → lv_has ls1 9 [(4, .int (nI (4 * j))), (0, .ref b), (1, .ref (ad 0)), (2, .ref (ad 208)), (3, .ref (ad 240))] → W pg l en room_1 s mi ar bw mth cd H1 locs1 (cells + 1) (slots + 6) Q (F0 mi 1598 ls1 [])) : W pg l en room_1 s mi ar bw mth cd H locs cells slots Q (F0 mi 716 ls []) := by
  have hA : ∀ q, s.heap.size ≤ q → lwA s q := fun _ h => h
  have hbA : ¬ lwA s b := Nat.not_le.mpr hbl
  refine lv_aload_n hx hb dL_law_716 rfl (lv_at hl 2 rfl) ?_
  refine lv_aload_n hx hb dL_law_717 rfl (lv_at hl 1 rfl) ?_
  refine lv_iload hx hb dL_law_718 (lv_at hl 0 rfl) ?_
  refine lv_iconst (v := 1) hx hb dL_law_720 (by decide) ?_
  refine lv_iadd hx hb dL_law_721 ?_
  rw [nI_1]
  refine va_sld hx hb hX hbl hbA hS (vp_in_nI (n := ((4 * j) + 1)) (by omega) (by omega)) dL_law_722 ?_
  refine lv_aload_n hx hb dL_law_723 rfl (lv_at hl 4 rfl) ?_
  obtain ⟨N, Rs, a, x, C, n, P, th, J, v, hLS⟩ := hLI
  obtain ⟨kk9, K9, M9, hq1, hq2, hq3, hq4⟩ := q_step hlt hLS (xs (nI ((4 * j) + 1)).toNatClampNeg)
  refine nXS (As := [.ref (ad 0), .int (xs (nI ((4 * j) + 1)).toNatClampNeg), .ref (ad 240)]) (rest := _) hx hb hml hown hts hP hK hD hZ hNC hA hS hcc hq1 (vx_cwSW 3 hts gL_law_L_step rfl rfl rfl (by decide +kernel) ⟨(Nat.le_of_ble_eq_true rfl), (Nat.le_of_ble_eq_true rfl)⟩) hl.1 rfl (Nat.le_of_ble_eq_true rfl) dL_law_724 (fun r9 st1 H locs hq hP hD hS => ?_)
  obtain ⟨hr9, hKs⟩ := hq
  subst hr9
  refine lv_istore (lv' := [(5, .int r9), (4, .int (nI (4 * j))), (0, .ref b), (1, .ref (ad 0)), (2, .ref (ad 208)), (3, .ref (ad 240))]) hx hb dL_law_727 hl (by decide) rfl (fun ls hl => ?_)
  refine lv_aload_n hx hb dL_law_729 rfl (lv_at hl 4 rfl) ?_
  refine lv_aload_n hx hb dL_law_730 rfl (lv_at hl 2 rfl) ?_
  refine lv_iload hx hb dL_law_731 (lv_at hl 1 rfl) ?_
  refine lv_iconst (v := 1) hx hb dL_law_733 (by decide) ?_
  refine lv_iadd hx hb dL_law_734 ?_
  rw [nI_1]
  refine va_sld hx hb hX hbl hbA hS (vp_in_nI (n := ((4 * j) + 1)) (by omega) (by omega)) dL_law_735 ?_
  obtain ⟨fs9, h208⟩ := hq2 _ hKs
  refine nVi (As := [.int (xs (nI ((4 * j) + 1)).toNatClampNeg)]) (rest := _) hx hb hml hown hts hP hK hD hZ hA hS hcc h208 rfl (hq3 _ hKs) (cwV 1 hts gL_law_X5_step rfl rfl rfl (by decide +kernel) ⟨(Nat.le_of_ble_eq_true rfl), (Nat.le_of_ble_eq_true rfl)⟩) hl.1 rfl (Nat.le_of_ble_eq_true rfl) dL_law_736 (fun b9 st2 H locs hq hP hD hS => ?_)
  obtain ⟨⟨G9, hG9, hth⟩, hout, ⟨v9, hv9⟩, hLI⟩ := hq4 _ _ _ hKs hq
  refine lv_istore (lv' := [(6, .int b9), (5, .int r9), (4, .int (nI (4 * j))), (0, .ref b), (1, .ref (ad 0)), (2, .ref (ad 208)), (3, .ref (ad 240))]) hx hb dL_law_739 hl (by decide) rfl (fun ls hl => ?_)
  refine lv_aload_n hx hb dL_law_741 rfl (lv_at hl 5 rfl) ?_
  refine nVi (As := []) (rest := _) hx hb hml hown hts hP hK hD hZ hA hS hcc hG9.1 rfl (m_thrown l E ad st2 208 G9 hG9) (cwV 0 hts gL_law_X5_thrown rfl rfl rfl (by decide +kernel) ⟨(Nat.le_of_ble_eq_true rfl), (Nat.le_of_ble_eq_true rfl)⟩) hl.1 rfl (Nat.le_of_ble_eq_true rfl) dL_law_742 (fun r3 st3 H locs hq hP hD hS => ?_)
  obtain ⟨hr3, rfl⟩ := hq
  rw [hth] at hr3
  refine lv_iload hx hb dL_law_745 (lv_at hl 1 rfl) ?_
  refine lv_icmp_eq (tgt := 752) hx hb dL_law_747 (by decide) (fun c747_0 => ?_) (fun c747_0 => absurd hr3 c747_0)
  refine lv_iload hx hb dL_law_752 (lv_at hl 1 rfl) ?_
  refine lv_if_ne (tgt := 769) hx hb dL_law_754 (by decide) (fun c754_1 => ?_) (fun c754_1 => ?_)
  · refine lv_goto (tgt := 1598) hx hb dL_law_769 (by decide) ?_
    exact kk st2 H locs ls hLI hP hD hS (lv_sub hl [2, 3, 4, 5, 6] rfl)
  · refine lv_aload_n hx hb dL_law_757 rfl (lv_at hl 6 rfl) ?_
    refine lv_iconst (v := 0) hx hb dL_law_758 (by decide) ?_
    refine nLld hx hb hK hP (hout c754_1) dL_law_759 ?_
    refine lv_iload hx hb dL_law_760 (lv_at hl 0 rfl) ?_
    refine lv_i2l (v := b9.toInt64) hx hb dL_law_762 rfl ?_
    refine W.lcmp hx hb dL_law_763 ?_
    refine lv_if_eq (tgt := 769) hx hb dL_law_764 (by decide) (fun c764_2 => ?_) (fun c764_2 => absurd (lg_self _) c764_2)
    refine lv_goto (tgt := 1598) hx hb dL_law_769 (by decide) ?_
    exact kk st2 H locs ls hLI hP hD hS (lv_sub hl [2, 3, 4, 5, 6] rfl)

set_option maxHeartbeats 4000000 in
set_option maxRecDepth 100000 in
theorem lc_append {pg : Program} {l : Launch} {en : Env} {s : State} {mi : MethodId} {ar : Array Value} {bw : List Frame} {mth : Method} {cd : Code} {Q : State → Prop} {E : NE} {ad : Nat → Nat} {b L : Nat} {xs : Nat → Int32} (hlt : l.stackTraces = false) (hx : pg.tables.exec = Jvm.exec) (hb : cd.code = cL_law) (hml : cd.maxLocals = 9) (hown : s.vm.findClass RL = some mi.cls) (hts : ∀ w ∈ wsL_law, w.before ar s = true) (hX : va_X b L xs s s.heap) (hbl : b < s.heap.size) (hL : L ≤ 2048) (hK : va_K E.1 vwCl (nTys E) s) (hZ : nZ E (lwA s) s s.heap) (hNC : nNC s) {j : Nat} (hj : 4 * j + 3 < L) {st : NW} {H : Heap} {locs : List Loc} {ls : Array Slot} {cells slots : Nat} (hcc : cells + 1 ≤ room_1.cells ∧ slots + 6 ≤ room_1.slots) (hLI : LI E ad st) (hP : nP E ad st H) (hD : nD (lwA s) ad st) (hS : va_S (lwA s) s.heap H locs) (hl : lv_has ls 9 [(4, .int (nI (4 * j))), (0, .ref b), (1, .ref (ad 0)), (2, .ref (ad 208)), (3, .ref (ad 240))]) (kk : ∀ (st1 : NW) (H1 : Heap) (locs1 : List Loc) (ls1 : Array Slot), LI E ad st1 → nP E ad st1 H1 → nD (lwA s) ad st1 → va_S (lwA s) s.heap H1 locs1 → lv_has ls1 9 [(4, .int (nI (4 * j))), (0, .ref b), (1, .ref (ad 0)), (2, .ref (ad 208)), (3, .ref (ad 240))] → W pg l en room_1 s mi ar bw mth cd H1 locs1 (cells + 1) (slots + 6) Q (F0 mi 1598 ls1 [])) : W pg l en room_1 s mi ar bw mth cd H locs cells slots Q (F0 mi 772 ls []) := by
  have hA : ∀ q, s.heap.size ≤ q → lwA s q := fun _ h => h
  have hbA : ¬ lwA s b := Nat.not_le.mpr hbl
  refine lv_aload_n hx hb dL_law_772 rfl (lv_at hl 2 rfl) ?_
  refine lv_aload_n hx hb dL_law_773 rfl (lv_at hl 1 rfl) ?_
  refine lv_iload hx hb dL_law_774 (lv_at hl 0 rfl) ?_
  refine lv_iconst (v := 1) hx hb dL_law_776 (by decide) ?_
  refine lv_iadd hx hb dL_law_777 ?_
  rw [nI_1]
  refine va_sld hx hb hX hbl hbA hS (vp_in_nI (n := ((4 * j) + 1)) (by omega) (by omega)) dL_law_778 ?_
  refine lv_aload_n hx hb dL_law_779 rfl (lv_at hl 4 rfl) ?_
  obtain ⟨N, Rs, a, x, C, n, P, th, J, v, hLS⟩ := hLI
  obtain ⟨kk9, K9, M9, hq1, hq2, hq3, hq4⟩ := q_append hlt hLS (xs (nI ((4 * j) + 1)).toNatClampNeg)
  refine nXS (As := [.ref (ad 0), .int (xs (nI ((4 * j) + 1)).toNatClampNeg), .ref (ad 240)]) (rest := _) hx hb hml hown hts hP hK hD hZ hNC hA hS hcc hq1 (vx_cwSW 3 hts gL_law_L_append rfl rfl rfl (by decide +kernel) ⟨(Nat.le_of_ble_eq_true rfl), (Nat.le_of_ble_eq_true rfl)⟩) hl.1 rfl (Nat.le_of_ble_eq_true rfl) dL_law_780 (fun r9 st1 H locs hq hP hD hS => ?_)
  obtain ⟨hr9, hKs⟩ := hq
  subst hr9
  refine lv_istore (lv' := [(5, .int r9), (4, .int (nI (4 * j))), (0, .ref b), (1, .ref (ad 0)), (2, .ref (ad 208)), (3, .ref (ad 240))]) hx hb dL_law_783 hl (by decide) rfl (fun ls hl => ?_)
  refine lv_aload_n hx hb dL_law_785 rfl (lv_at hl 4 rfl) ?_
  refine lv_aload_n hx hb dL_law_786 rfl (lv_at hl 2 rfl) ?_
  refine lv_iload hx hb dL_law_787 (lv_at hl 1 rfl) ?_
  refine lv_iconst (v := 1) hx hb dL_law_789 (by decide) ?_
  refine lv_iadd hx hb dL_law_790 ?_
  rw [nI_1]
  refine va_sld hx hb hX hbl hbA hS (vp_in_nI (n := ((4 * j) + 1)) (by omega) (by omega)) dL_law_791 ?_
  obtain ⟨fs9, h208⟩ := hq2 _ hKs
  refine nVi (As := [.int (xs (nI ((4 * j) + 1)).toNatClampNeg)]) (rest := _) hx hb hml hown hts hP hK hD hZ hA hS hcc h208 rfl (hq3 _ hKs) (cwV 1 hts gL_law_X5_append rfl rfl rfl (by decide +kernel) ⟨(Nat.le_of_ble_eq_true rfl), (Nat.le_of_ble_eq_true rfl)⟩) hl.1 rfl (Nat.le_of_ble_eq_true rfl) dL_law_792 (fun b9 st2 H locs hq hP hD hS => ?_)
  obtain ⟨⟨G9, hG9, hth⟩, hout, ⟨v9, hv9⟩, hLI⟩ := hq4 _ _ _ hKs hq
  refine lv_istore (lv' := [(6, .int b9), (5, .int r9), (4, .int (nI (4 * j))), (0, .ref b), (1, .ref (ad 0)), (2, .ref (ad 208)), (3, .ref (ad 240))]) hx hb dL_law_795 hl (by decide) rfl (fun ls hl => ?_)
  refine lv_aload_n hx hb dL_law_797 rfl (lv_at hl 5 rfl) ?_
  refine nVi (As := []) (rest := _) hx hb hml hown hts hP hK hD hZ hA hS hcc hG9.1 rfl (m_thrown l E ad st2 208 G9 hG9) (cwV 0 hts gL_law_X5_thrown rfl rfl rfl (by decide +kernel) ⟨(Nat.le_of_ble_eq_true rfl), (Nat.le_of_ble_eq_true rfl)⟩) hl.1 rfl (Nat.le_of_ble_eq_true rfl) dL_law_798 (fun r3 st3 H locs hq hP hD hS => ?_)
  obtain ⟨hr3, rfl⟩ := hq
  rw [hth] at hr3
  refine lv_iload hx hb dL_law_801 (lv_at hl 1 rfl) ?_
  refine lv_icmp_eq (tgt := 808) hx hb dL_law_803 (by decide) (fun c803_0 => ?_) (fun c803_0 => absurd hr3 c803_0)
  refine lv_iload hx hb dL_law_808 (lv_at hl 1 rfl) ?_
  refine lv_if_ne (tgt := 825) hx hb dL_law_810 (by decide) (fun c810_1 => ?_) (fun c810_1 => ?_)
  · refine lv_goto (tgt := 1598) hx hb dL_law_825 (by decide) ?_
    exact kk st2 H locs ls hLI hP hD hS (lv_sub hl [2, 3, 4, 5, 6] rfl)
  · refine lv_aload_n hx hb dL_law_813 rfl (lv_at hl 6 rfl) ?_
    refine lv_iconst (v := 0) hx hb dL_law_814 (by decide) ?_
    refine nLld hx hb hK hP (hout c810_1) dL_law_815 ?_
    refine lv_iload hx hb dL_law_816 (lv_at hl 0 rfl) ?_
    refine lv_i2l (v := b9.toInt64) hx hb dL_law_818 rfl ?_
    refine W.lcmp hx hb dL_law_819 ?_
    refine lv_if_eq (tgt := 825) hx hb dL_law_820 (by decide) (fun c820_2 => ?_) (fun c820_2 => absurd (lg_self _) c820_2)
    refine lv_goto (tgt := 1598) hx hb dL_law_825 (by decide) ?_
    exact kk st2 H locs ls hLI hP hD hS (lv_sub hl [2, 3, 4, 5, 6] rfl)

set_option maxHeartbeats 4000000 in
set_option maxRecDepth 100000 in
theorem lc_clearBuffer {pg : Program} {l : Launch} {en : Env} {s : State} {mi : MethodId} {ar : Array Value} {bw : List Frame} {mth : Method} {cd : Code} {Q : State → Prop} {E : NE} {ad : Nat → Nat} {b L : Nat} {xs : Nat → Int32} (hlt : l.stackTraces = false) (hx : pg.tables.exec = Jvm.exec) (hb : cd.code = cL_law) (hml : cd.maxLocals = 9) (hown : s.vm.findClass RL = some mi.cls) (hts : ∀ w ∈ wsL_law, w.before ar s = true) (hX : va_X b L xs s s.heap) (hbl : b < s.heap.size) (hL : L ≤ 2048) (hK : va_K E.1 vwCl (nTys E) s) (hZ : nZ E (lwA s) s s.heap) (hNC : nNC s) {j : Nat} (hj : 4 * j + 3 < L) {st : NW} {H : Heap} {locs : List Loc} {ls : Array Slot} {cells slots : Nat} (hcc : cells + 1 ≤ room_1.cells ∧ slots + 6 ≤ room_1.slots) (hLI : LI E ad st) (hP : nP E ad st H) (hD : nD (lwA s) ad st) (hS : va_S (lwA s) s.heap H locs) (hl : lv_has ls 9 [(4, .int (nI (4 * j))), (0, .ref b), (1, .ref (ad 0)), (2, .ref (ad 208)), (3, .ref (ad 240))]) (kk : ∀ (st1 : NW) (H1 : Heap) (locs1 : List Loc) (ls1 : Array Slot), LI E ad st1 → nP E ad st1 H1 → nD (lwA s) ad st1 → va_S (lwA s) s.heap H1 locs1 → lv_has ls1 9 [(4, .int (nI (4 * j))), (0, .ref b), (1, .ref (ad 0)), (2, .ref (ad 208)), (3, .ref (ad 240))] → W pg l en room_1 s mi ar bw mth cd H1 locs1 (cells + 1) (slots + 6) Q (F0 mi 1598 ls1 [])) : W pg l en room_1 s mi ar bw mth cd H locs cells slots Q (F0 mi 828 ls []) := by
  have hA : ∀ q, s.heap.size ≤ q → lwA s q := fun _ h => h
  have hbA : ¬ lwA s b := Nat.not_le.mpr hbl
  refine lv_aload_n hx hb dL_law_828 rfl (lv_at hl 2 rfl) ?_
  obtain ⟨N, Rs, a, x, C, n, P, th, J, v, hLS⟩ := hLI
  obtain ⟨ha, hxx, hn, hO, hOs, hC, hR, hW, hM, h2⟩ := hLS
  refine nVi (As := []) (rest := _) hx hb hml hown hts hP hK hD hZ hA hS ⟨Nat.le_of_succ_le hcc.1, Nat.le_trans (Nat.le_add_right _ 6) hcc.2⟩ hW.1.1 rfl (c_clearBuffer l E ad st N Rs a x C n ha hxx hn hO.2.1 hW) (cwV 0 hts gL_law_X4_clearBuffer rfl rfl rfl (by decide +kernel) ⟨(Nat.le_of_ble_eq_true rfl), (Nat.le_of_ble_eq_true rfl)⟩) hl.1 rfl (Nat.le_of_ble_eq_true rfl) dL_law_829 (fun r9 st1 H locs hq hP hD hS => ?_)
  obtain ⟨hr9, hW, hf9⟩ := hq
  have hM := hM.keepP (fun k9 _ _ => hf9 k9 (by omega)) (by decide)
  have h2 := (hf9 240 (by omega)).trans h2
  refine lv_aload_n hx hb dL_law_832 rfl (lv_at hl 3 rfl) ?_
  refine nVi (As := []) (rest := _) hx hb hml hown hts hP hK hD hZ hA hS ⟨Nat.le_of_succ_le hcc.1, Nat.le_trans (Nat.le_add_right _ 6) hcc.2⟩ hM.1 rfl (m_clearBuffer l E ad st1 208 N P a C n th J ha hn hO hM) (cwV 0 hts gL_law_X5_clearBuffer rfl rfl rfl (by decide +kernel) ⟨(Nat.le_of_ble_eq_true rfl), (Nat.le_of_ble_eq_true rfl)⟩) hl.1 rfl (Nat.le_of_ble_eq_true rfl) dL_law_833 (fun r8 st2 H locs hq hP hD hS => ?_)
  obtain ⟨hr8, ⟨J2, hM⟩, hf8⟩ := hq
  have hW := hW.keep (fun k9 hk9 => hf8 k9 (by omega))
  have h2 := (hf8 240 (by omega)).trans h2
  refine lv_icmp_eq (tgt := 1598) hx hb dL_law_836 (by decide) (fun c836_0 => ?_) (fun c836_0 => absurd (hr9.trans hr8.symm) c836_0)
  refine W.widen (Nat.le_succ _) (Nat.le_add_right _ 6) ?_
  exact kk st2 H locs ls ⟨N, Rs, a, x, C, 0, P, 0, J2, v, ha, hxx, by omega, hO, hOs, fun j hj => absurd hj (Nat.not_lt_zero _), hR, hW, hM, h2⟩ hP hD hS (lv_sub hl [0, 1, 2, 3, 4] rfl)

set_option maxHeartbeats 4000000 in
set_option maxRecDepth 100000 in
theorem lc_firstError {pg : Program} {l : Launch} {en : Env} {s : State} {mi : MethodId} {ar : Array Value} {bw : List Frame} {mth : Method} {cd : Code} {Q : State → Prop} {E : NE} {ad : Nat → Nat} {b L : Nat} {xs : Nat → Int32} (hlt : l.stackTraces = false) (hx : pg.tables.exec = Jvm.exec) (hb : cd.code = cL_law) (hml : cd.maxLocals = 9) (hown : s.vm.findClass RL = some mi.cls) (hts : ∀ w ∈ wsL_law, w.before ar s = true) (hX : va_X b L xs s s.heap) (hbl : b < s.heap.size) (hL : L ≤ 2048) (hK : va_K E.1 vwCl (nTys E) s) (hZ : nZ E (lwA s) s s.heap) (hNC : nNC s) {j : Nat} (hj : 4 * j + 3 < L) {st : NW} {H : Heap} {locs : List Loc} {ls : Array Slot} {cells slots : Nat} (hcc : cells + 1 ≤ room_1.cells ∧ slots + 6 ≤ room_1.slots) (hLI : LI E ad st) (hP : nP E ad st H) (hD : nD (lwA s) ad st) (hS : va_S (lwA s) s.heap H locs) (hl : lv_has ls 9 [(4, .int (nI (4 * j))), (0, .ref b), (1, .ref (ad 0)), (2, .ref (ad 208)), (3, .ref (ad 240))]) (kk : ∀ (st1 : NW) (H1 : Heap) (locs1 : List Loc) (ls1 : Array Slot), LI E ad st1 → nP E ad st1 H1 → nD (lwA s) ad st1 → va_S (lwA s) s.heap H1 locs1 → lv_has ls1 9 [(4, .int (nI (4 * j))), (0, .ref b), (1, .ref (ad 0)), (2, .ref (ad 208)), (3, .ref (ad 240))] → W pg l en room_1 s mi ar bw mth cd H1 locs1 (cells + 1) (slots + 6) Q (F0 mi 1598 ls1 [])) : W pg l en room_1 s mi ar bw mth cd H locs cells slots Q (F0 mi 841 ls []) := by
  have hA : ∀ q, s.heap.size ≤ q → lwA s q := fun _ h => h
  have hbA : ¬ lwA s b := Nat.not_le.mpr hbl
  refine lv_aload_n hx hb dL_law_841 rfl (lv_at hl 2 rfl) ?_
  obtain ⟨N, Rs, a, x, C, n, P, th, J, v, hLS⟩ := hLI
  obtain ⟨ha, hxx, hn, hO, hOs, hC, hR, hW, hM, h2⟩ := hLS
  refine nVi (As := []) (rest := _) hx hb hml hown hts hP hK hD hZ hA hS ⟨Nat.le_of_succ_le hcc.1, Nat.le_trans (Nat.le_add_right _ 6) hcc.2⟩ hW.1.1 rfl (c_firstError l E ad st N Rs a x C n ha hxx hn hO.2.1 hW) (cwV 0 hts gL_law_X4_firstError rfl rfl rfl (by decide +kernel) ⟨(Nat.le_of_ble_eq_true rfl), (Nat.le_of_ble_eq_true rfl)⟩) hl.1 rfl (Nat.le_of_ble_eq_true rfl) dL_law_842 (fun r9 st1 H locs hq hP hD hS => ?_)
  obtain ⟨hr9, hW, hf9⟩ := hq
  have hM := hM.keepP (fun k9 _ _ => hf9 k9 (by omega)) (by decide)
  have h2 := (hf9 240 (by omega)).trans h2
  refine lv_aload_n hx hb dL_law_845 rfl (lv_at hl 3 rfl) ?_
  refine nVi (As := []) (rest := _) hx hb hml hown hts hP hK hD hZ hA hS ⟨Nat.le_of_succ_le hcc.1, Nat.le_trans (Nat.le_add_right _ 6) hcc.2⟩ hM.1 rfl (m_firstError l E ad st1 208 N P a C n th J ha hn hO hM hC) (cwV 0 hts gL_law_X5_firstError rfl rfl rfl (by decide +kernel) ⟨(Nat.le_of_ble_eq_true rfl), (Nat.le_of_ble_eq_true rfl)⟩) hl.1 rfl (Nat.le_of_ble_eq_true rfl) dL_law_846 (fun r8 st2 H locs hq hP hD hS => ?_)
  obtain ⟨hr8, ⟨J2, hM⟩, hf8⟩ := hq
  have hW := hW.keep (fun k9 hk9 => hf8 k9 (by omega))
  have h2 := (hf8 240 (by omega)).trans h2
  refine lv_icmp_eq (tgt := 1598) hx hb dL_law_849 (by decide) (fun c849_0 => ?_) (fun c849_0 => absurd (hr9.trans hr8.symm) c849_0)
  refine W.widen (Nat.le_succ _) (Nat.le_add_right _ 6) ?_
  exact kk st2 H locs ls ⟨N, Rs, a, x, C, n, P, 0, J2, v, ha, hxx, by omega, hO, hOs, hC, hR, hW, hM, h2⟩ hP hD hS (lv_sub hl [0, 1, 2, 3, 4] rfl)

set_option maxHeartbeats 4000000 in
set_option maxRecDepth 100000 in
theorem lc_bars {pg : Program} {l : Launch} {en : Env} {s : State} {mi : MethodId} {ar : Array Value} {bw : List Frame} {mth : Method} {cd : Code} {Q : State → Prop} {E : NE} {ad : Nat → Nat} {b L : Nat} {xs : Nat → Int32} (hlt : l.stackTraces = false) (hx : pg.tables.exec = Jvm.exec) (hb : cd.code = cL_law) (hml : cd.maxLocals = 9) (hown : s.vm.findClass RL = some mi.cls) (hts : ∀ w ∈ wsL_law, w.before ar s = true) (hX : va_X b L xs s s.heap) (hbl : b < s.heap.size) (hL : L ≤ 2048) (hK : va_K E.1 vwCl (nTys E) s) (hZ : nZ E (lwA s) s s.heap) (hNC : nNC s) {j : Nat} (hj : 4 * j + 3 < L) {st : NW} {H : Heap} {locs : List Loc} {ls : Array Slot} {cells slots : Nat} (hcc : cells + 1 ≤ room_1.cells ∧ slots + 6 ≤ room_1.slots) (hLI : LI E ad st) (hP : nP E ad st H) (hD : nD (lwA s) ad st) (hS : va_S (lwA s) s.heap H locs) (hl : lv_has ls 9 [(4, .int (nI (4 * j))), (0, .ref b), (1, .ref (ad 0)), (2, .ref (ad 208)), (3, .ref (ad 240))]) (kk : ∀ (st1 : NW) (H1 : Heap) (locs1 : List Loc) (ls1 : Array Slot), LI E ad st1 → nP E ad st1 H1 → nD (lwA s) ad st1 → va_S (lwA s) s.heap H1 locs1 → lv_has ls1 9 [(4, .int (nI (4 * j))), (0, .ref b), (1, .ref (ad 0)), (2, .ref (ad 208)), (3, .ref (ad 240))] → W pg l en room_1 s mi ar bw mth cd H1 locs1 (cells + 1) (slots + 6) Q (F0 mi 1598 ls1 [])) : W pg l en room_1 s mi ar bw mth cd H locs cells slots Q (F0 mi 854 ls []) := by
  have hA : ∀ q, s.heap.size ≤ q → lwA s q := fun _ h => h
  have hbA : ¬ lwA s b := Nat.not_le.mpr hbl
  refine lv_aload_n hx hb dL_law_854 rfl (lv_at hl 2 rfl) ?_
  refine lv_aload_n hx hb dL_law_855 rfl (lv_at hl 4 rfl) ?_
  obtain ⟨N, Rs, a, x, C, n, P, th, J, v, hLS⟩ := hLI
  obtain ⟨kk9, K9, M9, hq1, hq2, hq3, hq4⟩ := q_bars hlt hLS 
  refine nXS (As := [.ref (ad 0), .ref (ad 240)]) (rest := _) hx hb hml hown hts hP hK hD hZ hNC hA hS hcc hq1 (vx_cwSW 2 hts gL_law_L_bars rfl rfl rfl (by decide +kernel) ⟨(Nat.le_of_ble_eq_true rfl), (Nat.le_of_ble_eq_true rfl)⟩) hl.1 rfl (Nat.le_of_ble_eq_true rfl) dL_law_856 (fun r9 st1 H locs hq hP hD hS => ?_)
  obtain ⟨hr9, hKs⟩ := hq
  subst hr9
  refine lv_istore (lv' := [(5, .int r9), (4, .int (nI (4 * j))), (0, .ref b), (1, .ref (ad 0)), (2, .ref (ad 208)), (3, .ref (ad 240))]) hx hb dL_law_859 hl (by decide) rfl (fun ls hl => ?_)
  refine lv_aload_n hx hb dL_law_861 rfl (lv_at hl 4 rfl) ?_
  obtain ⟨fs9, h208⟩ := hq2 _ hKs
  refine nVi (As := []) (rest := _) hx hb hml hown hts hP hK hD hZ hA hS hcc h208 rfl (hq3 _ hKs) (cwV 0 hts gL_law_X5_bars rfl rfl rfl (by decide +kernel) ⟨(Nat.le_of_ble_eq_true rfl), (Nat.le_of_ble_eq_true rfl)⟩) hl.1 rfl (Nat.le_of_ble_eq_true rfl) dL_law_862 (fun b9 st2 H locs hq hP hD hS => ?_)
  obtain ⟨⟨G9, hG9, hth⟩, hout, ⟨v9, hv9⟩, hLI⟩ := hq4 _ _ _ hKs hq
  refine lv_istore (lv' := [(6, .int b9), (5, .int r9), (4, .int (nI (4 * j))), (0, .ref b), (1, .ref (ad 0)), (2, .ref (ad 208)), (3, .ref (ad 240))]) hx hb dL_law_865 hl (by decide) rfl (fun ls hl => ?_)
  refine lv_aload_n hx hb dL_law_867 rfl (lv_at hl 5 rfl) ?_
  refine nVi (As := []) (rest := _) hx hb hml hown hts hP hK hD hZ hA hS hcc hG9.1 rfl (m_thrown l E ad st2 208 G9 hG9) (cwV 0 hts gL_law_X5_thrown rfl rfl rfl (by decide +kernel) ⟨(Nat.le_of_ble_eq_true rfl), (Nat.le_of_ble_eq_true rfl)⟩) hl.1 rfl (Nat.le_of_ble_eq_true rfl) dL_law_868 (fun r3 st3 H locs hq hP hD hS => ?_)
  obtain ⟨hr3, rfl⟩ := hq
  rw [hth] at hr3
  refine lv_iload hx hb dL_law_871 (lv_at hl 1 rfl) ?_
  refine lv_icmp_eq (tgt := 878) hx hb dL_law_873 (by decide) (fun c873_0 => ?_) (fun c873_0 => absurd hr3 c873_0)
  refine lv_iload hx hb dL_law_878 (lv_at hl 1 rfl) ?_
  refine lv_if_ne (tgt := 895) hx hb dL_law_880 (by decide) (fun c880_1 => ?_) (fun c880_1 => ?_)
  · refine lv_goto (tgt := 1598) hx hb dL_law_895 (by decide) ?_
    exact kk st2 H locs ls hLI hP hD hS (lv_sub hl [2, 3, 4, 5, 6] rfl)
  · refine lv_aload_n hx hb dL_law_883 rfl (lv_at hl 6 rfl) ?_
    refine lv_iconst (v := 0) hx hb dL_law_884 (by decide) ?_
    refine nLld hx hb hK hP (hout c880_1) dL_law_885 ?_
    refine lv_iload hx hb dL_law_886 (lv_at hl 0 rfl) ?_
    refine lv_i2l (v := b9.toInt64) hx hb dL_law_888 rfl ?_
    refine W.lcmp hx hb dL_law_889 ?_
    refine lv_if_eq (tgt := 895) hx hb dL_law_890 (by decide) (fun c890_2 => ?_) (fun c890_2 => absurd (lg_self _) c890_2)
    refine lv_goto (tgt := 1598) hx hb dL_law_895 (by decide) ?_
    exact kk st2 H locs ls hLI hP hD hS (lv_sub hl [2, 3, 4, 5, 6] rfl)

set_option maxHeartbeats 4000000 in
set_option maxRecDepth 100000 in
theorem lc_undo {pg : Program} {l : Launch} {en : Env} {s : State} {mi : MethodId} {ar : Array Value} {bw : List Frame} {mth : Method} {cd : Code} {Q : State → Prop} {E : NE} {ad : Nat → Nat} {b L : Nat} {xs : Nat → Int32} (hlt : l.stackTraces = false) (hx : pg.tables.exec = Jvm.exec) (hb : cd.code = cL_law) (hml : cd.maxLocals = 9) (hown : s.vm.findClass RL = some mi.cls) (hts : ∀ w ∈ wsL_law, w.before ar s = true) (hX : va_X b L xs s s.heap) (hbl : b < s.heap.size) (hL : L ≤ 2048) (hK : va_K E.1 vwCl (nTys E) s) (hZ : nZ E (lwA s) s s.heap) (hNC : nNC s) {j : Nat} (hj : 4 * j + 3 < L) {st : NW} {H : Heap} {locs : List Loc} {ls : Array Slot} {cells slots : Nat} (hcc : cells + 1 ≤ room_1.cells ∧ slots + 6 ≤ room_1.slots) (hLI : LI E ad st) (hP : nP E ad st H) (hD : nD (lwA s) ad st) (hS : va_S (lwA s) s.heap H locs) (hl : lv_has ls 9 [(4, .int (nI (4 * j))), (0, .ref b), (1, .ref (ad 0)), (2, .ref (ad 208)), (3, .ref (ad 240))]) (kk : ∀ (st1 : NW) (H1 : Heap) (locs1 : List Loc) (ls1 : Array Slot), LI E ad st1 → nP E ad st1 H1 → nD (lwA s) ad st1 → va_S (lwA s) s.heap H1 locs1 → lv_has ls1 9 [(4, .int (nI (4 * j))), (0, .ref b), (1, .ref (ad 0)), (2, .ref (ad 208)), (3, .ref (ad 240))] → W pg l en room_1 s mi ar bw mth cd H1 locs1 (cells + 1) (slots + 6) Q (F0 mi 1598 ls1 [])) : W pg l en room_1 s mi ar bw mth cd H locs cells slots Q (F0 mi 898 ls []) := by
  have hA : ∀ q, s.heap.size ≤ q → lwA s q := fun _ h => h
  have hbA : ¬ lwA s b := Nat.not_le.mpr hbl
  refine lv_aload_n hx hb dL_law_898 rfl (lv_at hl 2 rfl) ?_
  refine lv_aload_n hx hb dL_law_899 rfl (lv_at hl 4 rfl) ?_
  obtain ⟨N, Rs, a, x, C, n, P, th, J, v, hLS⟩ := hLI
  obtain ⟨kk9, K9, M9, hq1, hq2, hq3, hq4⟩ := q_undo hlt hLS 
  refine nXS (As := [.ref (ad 0), .ref (ad 240)]) (rest := _) hx hb hml hown hts hP hK hD hZ hNC hA hS hcc hq1 (vx_cwSW 2 hts gL_law_L_undo rfl rfl rfl (by decide +kernel) ⟨(Nat.le_of_ble_eq_true rfl), (Nat.le_of_ble_eq_true rfl)⟩) hl.1 rfl (Nat.le_of_ble_eq_true rfl) dL_law_900 (fun r9 st1 H locs hq hP hD hS => ?_)
  obtain ⟨hr9, hKs⟩ := hq
  subst hr9
  refine lv_istore (lv' := [(5, .int r9), (4, .int (nI (4 * j))), (0, .ref b), (1, .ref (ad 0)), (2, .ref (ad 208)), (3, .ref (ad 240))]) hx hb dL_law_903 hl (by decide) rfl (fun ls hl => ?_)
  refine lv_aload_n hx hb dL_law_905 rfl (lv_at hl 4 rfl) ?_
  obtain ⟨fs9, h208⟩ := hq2 _ hKs
  refine nVi (As := []) (rest := _) hx hb hml hown hts hP hK hD hZ hA hS hcc h208 rfl (hq3 _ hKs) (cwV 0 hts gL_law_X5_undo rfl rfl rfl (by decide +kernel) ⟨(Nat.le_of_ble_eq_true rfl), (Nat.le_of_ble_eq_true rfl)⟩) hl.1 rfl (Nat.le_of_ble_eq_true rfl) dL_law_906 (fun b9 st2 H locs hq hP hD hS => ?_)
  obtain ⟨⟨G9, hG9, hth⟩, hout, ⟨v9, hv9⟩, hLI⟩ := hq4 _ _ _ hKs hq
  refine lv_istore (lv' := [(6, .int b9), (5, .int r9), (4, .int (nI (4 * j))), (0, .ref b), (1, .ref (ad 0)), (2, .ref (ad 208)), (3, .ref (ad 240))]) hx hb dL_law_909 hl (by decide) rfl (fun ls hl => ?_)
  refine lv_aload_n hx hb dL_law_911 rfl (lv_at hl 5 rfl) ?_
  refine nVi (As := []) (rest := _) hx hb hml hown hts hP hK hD hZ hA hS hcc hG9.1 rfl (m_thrown l E ad st2 208 G9 hG9) (cwV 0 hts gL_law_X5_thrown rfl rfl rfl (by decide +kernel) ⟨(Nat.le_of_ble_eq_true rfl), (Nat.le_of_ble_eq_true rfl)⟩) hl.1 rfl (Nat.le_of_ble_eq_true rfl) dL_law_912 (fun r3 st3 H locs hq hP hD hS => ?_)
  obtain ⟨hr3, rfl⟩ := hq
  rw [hth] at hr3
  refine lv_iload hx hb dL_law_915 (lv_at hl 1 rfl) ?_
  refine lv_icmp_eq (tgt := 922) hx hb dL_law_917 (by decide) (fun c917_0 => ?_) (fun c917_0 => absurd hr3 c917_0)
  refine lv_iload hx hb dL_law_922 (lv_at hl 1 rfl) ?_
  refine lv_if_ne (tgt := 939) hx hb dL_law_924 (by decide) (fun c924_1 => ?_) (fun c924_1 => ?_)
  · refine lv_goto (tgt := 1598) hx hb dL_law_939 (by decide) ?_
    exact kk st2 H locs ls hLI hP hD hS (lv_sub hl [2, 3, 4, 5, 6] rfl)
  · refine lv_aload_n hx hb dL_law_927 rfl (lv_at hl 6 rfl) ?_
    refine lv_iconst (v := 0) hx hb dL_law_928 (by decide) ?_
    refine nLld hx hb hK hP (hout c924_1) dL_law_929 ?_
    refine lv_iload hx hb dL_law_930 (lv_at hl 0 rfl) ?_
    refine lv_i2l (v := b9.toInt64) hx hb dL_law_932 rfl ?_
    refine W.lcmp hx hb dL_law_933 ?_
    refine lv_if_eq (tgt := 939) hx hb dL_law_934 (by decide) (fun c934_2 => ?_) (fun c934_2 => absurd (lg_self _) c934_2)
    refine lv_goto (tgt := 1598) hx hb dL_law_939 (by decide) ?_
    exact kk st2 H locs ls hLI hP hD hS (lv_sub hl [2, 3, 4, 5, 6] rfl)

set_option maxHeartbeats 4000000 in
set_option maxRecDepth 100000 in
theorem lc_cell {pg : Program} {l : Launch} {en : Env} {s : State} {mi : MethodId} {ar : Array Value} {bw : List Frame} {mth : Method} {cd : Code} {Q : State → Prop} {E : NE} {ad : Nat → Nat} {b L : Nat} {xs : Nat → Int32} (hlt : l.stackTraces = false) (hx : pg.tables.exec = Jvm.exec) (hb : cd.code = cL_law) (hml : cd.maxLocals = 9) (hown : s.vm.findClass RL = some mi.cls) (hts : ∀ w ∈ wsL_law, w.before ar s = true) (hX : va_X b L xs s s.heap) (hbl : b < s.heap.size) (hL : L ≤ 2048) (hK : va_K E.1 vwCl (nTys E) s) (hZ : nZ E (lwA s) s s.heap) (hNC : nNC s) {j : Nat} (hj : 4 * j + 3 < L) {st : NW} {H : Heap} {locs : List Loc} {ls : Array Slot} {cells slots : Nat} (hcc : cells + 1 ≤ room_1.cells ∧ slots + 6 ≤ room_1.slots) (hLI : LI E ad st) (hP : nP E ad st H) (hD : nD (lwA s) ad st) (hS : va_S (lwA s) s.heap H locs) (hl : lv_has ls 9 [(4, .int (nI (4 * j))), (0, .ref b), (1, .ref (ad 0)), (2, .ref (ad 208)), (3, .ref (ad 240))]) (kk : ∀ (st1 : NW) (H1 : Heap) (locs1 : List Loc) (ls1 : Array Slot), LI E ad st1 → nP E ad st1 H1 → nD (lwA s) ad st1 → va_S (lwA s) s.heap H1 locs1 → lv_has ls1 9 [(4, .int (nI (4 * j))), (0, .ref b), (1, .ref (ad 0)), (2, .ref (ad 208)), (3, .ref (ad 240))] → W pg l en room_1 s mi ar bw mth cd H1 locs1 (cells + 1) (slots + 6) Q (F0 mi 1598 ls1 [])) : W pg l en room_1 s mi ar bw mth cd H locs cells slots Q (F0 mi 942 ls []) := by
  have hA : ∀ q, s.heap.size ≤ q → lwA s q := fun _ h => h
  have hbA : ¬ lwA s b := Nat.not_le.mpr hbl
  refine lv_aload_n hx hb dL_law_942 rfl (lv_at hl 2 rfl) ?_
  refine lv_aload_n hx hb dL_law_943 rfl (lv_at hl 1 rfl) ?_
  refine lv_iload hx hb dL_law_944 (lv_at hl 0 rfl) ?_
  refine lv_iconst (v := 1) hx hb dL_law_946 (by decide) ?_
  refine lv_iadd hx hb dL_law_947 ?_
  rw [nI_1]
  refine va_sld hx hb hX hbl hbA hS (vp_in_nI (n := ((4 * j) + 1)) (by omega) (by omega)) dL_law_948 ?_
  refine lv_aload_n hx hb dL_law_949 rfl (lv_at hl 1 rfl) ?_
  refine lv_iload hx hb dL_law_950 (lv_at hl 0 rfl) ?_
  refine lv_iconst (v := 2) hx hb dL_law_952 (by decide) ?_
  refine lv_iadd hx hb dL_law_953 ?_
  rw [show nI (4 * j) + 2 = nI ((4 * j) + 2) from nI_add (4 * j) 2]
  refine va_sld hx hb hX hbl hbA hS (vp_in_nI (n := ((4 * j) + 2)) (by omega) (by omega)) dL_law_954 ?_
  refine lv_aload_n hx hb dL_law_955 rfl (lv_at hl 4 rfl) ?_
  obtain ⟨N, Rs, a, x, C, n, P, th, J, v, hLS⟩ := hLI
  obtain ⟨kk9, K9, M9, hq1, hq2, hq3, hq4⟩ := q_cell hlt hLS (xs (nI ((4 * j) + 1)).toNatClampNeg) (xs (nI ((4 * j) + 2)).toNatClampNeg)
  refine nXS (As := [.ref (ad 0), .int (xs (nI ((4 * j) + 1)).toNatClampNeg), .int (xs (nI ((4 * j) + 2)).toNatClampNeg), .ref (ad 240)]) (rest := _) hx hb hml hown hts hP hK hD hZ hNC hA hS hcc hq1 (vx_cwSW 4 hts gL_law_L_cell rfl rfl rfl (by decide +kernel) ⟨(Nat.le_of_ble_eq_true rfl), (Nat.le_of_ble_eq_true rfl)⟩) hl.1 rfl (Nat.le_of_ble_eq_true rfl) dL_law_956 (fun r9 st1 H locs hq hP hD hS => ?_)
  obtain ⟨hr9, hKs⟩ := hq
  subst hr9
  refine lv_istore (lv' := [(5, .int r9), (4, .int (nI (4 * j))), (0, .ref b), (1, .ref (ad 0)), (2, .ref (ad 208)), (3, .ref (ad 240))]) hx hb dL_law_959 hl (by decide) rfl (fun ls hl => ?_)
  refine lv_aload_n hx hb dL_law_961 rfl (lv_at hl 4 rfl) ?_
  refine lv_aload_n hx hb dL_law_962 rfl (lv_at hl 2 rfl) ?_
  refine lv_iload hx hb dL_law_963 (lv_at hl 1 rfl) ?_
  refine lv_iconst (v := 1) hx hb dL_law_965 (by decide) ?_
  refine lv_iadd hx hb dL_law_966 ?_
  rw [nI_1]
  refine va_sld hx hb hX hbl hbA hS (vp_in_nI (n := ((4 * j) + 1)) (by omega) (by omega)) dL_law_967 ?_
  refine lv_aload_n hx hb dL_law_968 rfl (lv_at hl 2 rfl) ?_
  refine lv_iload hx hb dL_law_969 (lv_at hl 1 rfl) ?_
  refine lv_iconst (v := 2) hx hb dL_law_971 (by decide) ?_
  refine lv_iadd hx hb dL_law_972 ?_
  rw [show nI (4 * j) + 2 = nI ((4 * j) + 2) from nI_add (4 * j) 2]
  refine va_sld hx hb hX hbl hbA hS (vp_in_nI (n := ((4 * j) + 2)) (by omega) (by omega)) dL_law_973 ?_
  obtain ⟨fs9, h208⟩ := hq2 _ hKs
  refine nVi (As := [.int (xs (nI ((4 * j) + 1)).toNatClampNeg), .int (xs (nI ((4 * j) + 2)).toNatClampNeg)]) (rest := _) hx hb hml hown hts hP hK hD hZ hA hS hcc h208 rfl (hq3 _ hKs) (cwV 2 hts gL_law_X5_cell rfl rfl rfl (by decide +kernel) ⟨(Nat.le_of_ble_eq_true rfl), (Nat.le_of_ble_eq_true rfl)⟩) hl.1 rfl (Nat.le_of_ble_eq_true rfl) dL_law_974 (fun b9 st2 H locs hq hP hD hS => ?_)
  obtain ⟨⟨G9, hG9, hth⟩, hout, ⟨v9, hv9⟩, hLI⟩ := hq4 _ _ _ hKs hq
  refine lv_istore (lv' := [(6, .int b9), (5, .int r9), (4, .int (nI (4 * j))), (0, .ref b), (1, .ref (ad 0)), (2, .ref (ad 208)), (3, .ref (ad 240))]) hx hb dL_law_977 hl (by decide) rfl (fun ls hl => ?_)
  refine lv_aload_n hx hb dL_law_979 rfl (lv_at hl 5 rfl) ?_
  refine nVi (As := []) (rest := _) hx hb hml hown hts hP hK hD hZ hA hS hcc hG9.1 rfl (m_thrown l E ad st2 208 G9 hG9) (cwV 0 hts gL_law_X5_thrown rfl rfl rfl (by decide +kernel) ⟨(Nat.le_of_ble_eq_true rfl), (Nat.le_of_ble_eq_true rfl)⟩) hl.1 rfl (Nat.le_of_ble_eq_true rfl) dL_law_980 (fun r3 st3 H locs hq hP hD hS => ?_)
  obtain ⟨hr3, rfl⟩ := hq
  rw [hth] at hr3
  refine lv_iload hx hb dL_law_983 (lv_at hl 1 rfl) ?_
  refine lv_icmp_eq (tgt := 990) hx hb dL_law_985 (by decide) (fun c985_0 => ?_) (fun c985_0 => absurd hr3 c985_0)
  refine lv_iload hx hb dL_law_990 (lv_at hl 1 rfl) ?_
  refine lv_if_ne (tgt := 1007) hx hb dL_law_992 (by decide) (fun c992_1 => ?_) (fun c992_1 => ?_)
  · refine lv_goto (tgt := 1598) hx hb dL_law_1007 (by decide) ?_
    exact kk st2 H locs ls hLI hP hD hS (lv_sub hl [2, 3, 4, 5, 6] rfl)
  · refine lv_aload_n hx hb dL_law_995 rfl (lv_at hl 6 rfl) ?_
    refine lv_iconst (v := 0) hx hb dL_law_996 (by decide) ?_
    refine nLld hx hb hK hP (hout c992_1) dL_law_997 ?_
    refine lv_iload hx hb dL_law_998 (lv_at hl 0 rfl) ?_
    refine lv_i2l (v := b9.toInt64) hx hb dL_law_1000 rfl ?_
    refine W.lcmp hx hb dL_law_1001 ?_
    refine lv_if_eq (tgt := 1007) hx hb dL_law_1002 (by decide) (fun c1002_2 => ?_) (fun c1002_2 => absurd (lg_self _) c1002_2)
    refine lv_goto (tgt := 1598) hx hb dL_law_1007 (by decide) ?_
    exact kk st2 H locs ls hLI hP hD hS (lv_sub hl [2, 3, 4, 5, 6] rfl)

set_option maxHeartbeats 4000000 in
set_option maxRecDepth 100000 in
theorem lc_barOf {pg : Program} {l : Launch} {en : Env} {s : State} {mi : MethodId} {ar : Array Value} {bw : List Frame} {mth : Method} {cd : Code} {Q : State → Prop} {E : NE} {ad : Nat → Nat} {b L : Nat} {xs : Nat → Int32} (hlt : l.stackTraces = false) (hx : pg.tables.exec = Jvm.exec) (hb : cd.code = cL_law) (hml : cd.maxLocals = 9) (hown : s.vm.findClass RL = some mi.cls) (hts : ∀ w ∈ wsL_law, w.before ar s = true) (hX : va_X b L xs s s.heap) (hbl : b < s.heap.size) (hL : L ≤ 2048) (hK : va_K E.1 vwCl (nTys E) s) (hZ : nZ E (lwA s) s s.heap) (hNC : nNC s) {j : Nat} (hj : 4 * j + 3 < L) {st : NW} {H : Heap} {locs : List Loc} {ls : Array Slot} {cells slots : Nat} (hcc : cells + 1 ≤ room_1.cells ∧ slots + 6 ≤ room_1.slots) (hLI : LI E ad st) (hP : nP E ad st H) (hD : nD (lwA s) ad st) (hS : va_S (lwA s) s.heap H locs) (hl : lv_has ls 9 [(4, .int (nI (4 * j))), (0, .ref b), (1, .ref (ad 0)), (2, .ref (ad 208)), (3, .ref (ad 240))]) (kk : ∀ (st1 : NW) (H1 : Heap) (locs1 : List Loc) (ls1 : Array Slot), LI E ad st1 → nP E ad st1 H1 → nD (lwA s) ad st1 → va_S (lwA s) s.heap H1 locs1 → lv_has ls1 9 [(4, .int (nI (4 * j))), (0, .ref b), (1, .ref (ad 0)), (2, .ref (ad 208)), (3, .ref (ad 240))] → W pg l en room_1 s mi ar bw mth cd H1 locs1 (cells + 1) (slots + 6) Q (F0 mi 1598 ls1 [])) : W pg l en room_1 s mi ar bw mth cd H locs cells slots Q (F0 mi 1010 ls []) := by
  have hA : ∀ q, s.heap.size ≤ q → lwA s q := fun _ h => h
  have hbA : ¬ lwA s b := Nat.not_le.mpr hbl
  refine lv_aload_n hx hb dL_law_1010 rfl (lv_at hl 2 rfl) ?_
  refine lv_aload_n hx hb dL_law_1011 rfl (lv_at hl 1 rfl) ?_
  refine lv_iload hx hb dL_law_1012 (lv_at hl 0 rfl) ?_
  refine lv_iconst (v := 1) hx hb dL_law_1014 (by decide) ?_
  refine lv_iadd hx hb dL_law_1015 ?_
  rw [nI_1]
  refine va_sld hx hb hX hbl hbA hS (vp_in_nI (n := ((4 * j) + 1)) (by omega) (by omega)) dL_law_1016 ?_
  refine lv_aload_n hx hb dL_law_1017 rfl (lv_at hl 1 rfl) ?_
  refine lv_iload hx hb dL_law_1018 (lv_at hl 0 rfl) ?_
  refine lv_iconst (v := 2) hx hb dL_law_1020 (by decide) ?_
  refine lv_iadd hx hb dL_law_1021 ?_
  rw [show nI (4 * j) + 2 = nI ((4 * j) + 2) from nI_add (4 * j) 2]
  refine va_sld hx hb hX hbl hbA hS (vp_in_nI (n := ((4 * j) + 2)) (by omega) (by omega)) dL_law_1022 ?_
  refine lv_aload_n hx hb dL_law_1023 rfl (lv_at hl 4 rfl) ?_
  obtain ⟨N, Rs, a, x, C, n, P, th, J, v, hLS⟩ := hLI
  obtain ⟨kk9, K9, M9, hq1, hq2, hq3, hq4⟩ := q_barOf hlt hLS (xs (nI ((4 * j) + 1)).toNatClampNeg) (xs (nI ((4 * j) + 2)).toNatClampNeg)
  refine nXS (As := [.ref (ad 0), .int (xs (nI ((4 * j) + 1)).toNatClampNeg), .int (xs (nI ((4 * j) + 2)).toNatClampNeg), .ref (ad 240)]) (rest := _) hx hb hml hown hts hP hK hD hZ hNC hA hS hcc hq1 (vx_cwSW 4 hts gL_law_L_barOf rfl rfl rfl (by decide +kernel) ⟨(Nat.le_of_ble_eq_true rfl), (Nat.le_of_ble_eq_true rfl)⟩) hl.1 rfl (Nat.le_of_ble_eq_true rfl) dL_law_1024 (fun r9 st1 H locs hq hP hD hS => ?_)
  obtain ⟨hr9, hKs⟩ := hq
  subst hr9
  refine lv_istore (lv' := [(5, .int r9), (4, .int (nI (4 * j))), (0, .ref b), (1, .ref (ad 0)), (2, .ref (ad 208)), (3, .ref (ad 240))]) hx hb dL_law_1027 hl (by decide) rfl (fun ls hl => ?_)
  refine lv_aload_n hx hb dL_law_1029 rfl (lv_at hl 4 rfl) ?_
  refine lv_aload_n hx hb dL_law_1030 rfl (lv_at hl 2 rfl) ?_
  refine lv_iload hx hb dL_law_1031 (lv_at hl 1 rfl) ?_
  refine lv_iconst (v := 1) hx hb dL_law_1033 (by decide) ?_
  refine lv_iadd hx hb dL_law_1034 ?_
  rw [nI_1]
  refine va_sld hx hb hX hbl hbA hS (vp_in_nI (n := ((4 * j) + 1)) (by omega) (by omega)) dL_law_1035 ?_
  refine lv_aload_n hx hb dL_law_1036 rfl (lv_at hl 2 rfl) ?_
  refine lv_iload hx hb dL_law_1037 (lv_at hl 1 rfl) ?_
  refine lv_iconst (v := 2) hx hb dL_law_1039 (by decide) ?_
  refine lv_iadd hx hb dL_law_1040 ?_
  rw [show nI (4 * j) + 2 = nI ((4 * j) + 2) from nI_add (4 * j) 2]
  refine va_sld hx hb hX hbl hbA hS (vp_in_nI (n := ((4 * j) + 2)) (by omega) (by omega)) dL_law_1041 ?_
  obtain ⟨fs9, h208⟩ := hq2 _ hKs
  refine nVi (As := [.int (xs (nI ((4 * j) + 1)).toNatClampNeg), .int (xs (nI ((4 * j) + 2)).toNatClampNeg)]) (rest := _) hx hb hml hown hts hP hK hD hZ hA hS hcc h208 rfl (hq3 _ hKs) (cwV 2 hts gL_law_X5_barOf rfl rfl rfl (by decide +kernel) ⟨(Nat.le_of_ble_eq_true rfl), (Nat.le_of_ble_eq_true rfl)⟩) hl.1 rfl (Nat.le_of_ble_eq_true rfl) dL_law_1042 (fun b9 st2 H locs hq hP hD hS => ?_)
  obtain ⟨⟨G9, hG9, hth⟩, hout, ⟨v9, hv9⟩, hLI⟩ := hq4 _ _ _ hKs hq
  refine lv_istore (lv' := [(6, .int b9), (5, .int r9), (4, .int (nI (4 * j))), (0, .ref b), (1, .ref (ad 0)), (2, .ref (ad 208)), (3, .ref (ad 240))]) hx hb dL_law_1045 hl (by decide) rfl (fun ls hl => ?_)
  refine lv_aload_n hx hb dL_law_1047 rfl (lv_at hl 5 rfl) ?_
  refine nVi (As := []) (rest := _) hx hb hml hown hts hP hK hD hZ hA hS hcc hG9.1 rfl (m_thrown l E ad st2 208 G9 hG9) (cwV 0 hts gL_law_X5_thrown rfl rfl rfl (by decide +kernel) ⟨(Nat.le_of_ble_eq_true rfl), (Nat.le_of_ble_eq_true rfl)⟩) hl.1 rfl (Nat.le_of_ble_eq_true rfl) dL_law_1048 (fun r3 st3 H locs hq hP hD hS => ?_)
  obtain ⟨hr3, rfl⟩ := hq
  rw [hth] at hr3
  refine lv_iload hx hb dL_law_1051 (lv_at hl 1 rfl) ?_
  refine lv_icmp_eq (tgt := 1058) hx hb dL_law_1053 (by decide) (fun c1053_0 => ?_) (fun c1053_0 => absurd hr3 c1053_0)
  refine lv_iload hx hb dL_law_1058 (lv_at hl 1 rfl) ?_
  refine lv_if_ne (tgt := 1075) hx hb dL_law_1060 (by decide) (fun c1060_1 => ?_) (fun c1060_1 => ?_)
  · refine lv_goto (tgt := 1598) hx hb dL_law_1075 (by decide) ?_
    exact kk st2 H locs ls hLI hP hD hS (lv_sub hl [2, 3, 4, 5, 6] rfl)
  · refine lv_aload_n hx hb dL_law_1063 rfl (lv_at hl 6 rfl) ?_
    refine lv_iconst (v := 0) hx hb dL_law_1064 (by decide) ?_
    refine nLld hx hb hK hP (hout c1060_1) dL_law_1065 ?_
    refine lv_iload hx hb dL_law_1066 (lv_at hl 0 rfl) ?_
    refine lv_i2l (v := b9.toInt64) hx hb dL_law_1068 rfl ?_
    refine W.lcmp hx hb dL_law_1069 ?_
    refine lv_if_eq (tgt := 1075) hx hb dL_law_1070 (by decide) (fun c1070_2 => ?_) (fun c1070_2 => absurd (lg_self _) c1070_2)
    refine lv_goto (tgt := 1598) hx hb dL_law_1075 (by decide) ?_
    exact kk st2 H locs ls hLI hP hD hS (lv_sub hl [2, 3, 4, 5, 6] rfl)

set_option maxHeartbeats 4000000 in
set_option maxRecDepth 100000 in
theorem lc_count {pg : Program} {l : Launch} {en : Env} {s : State} {mi : MethodId} {ar : Array Value} {bw : List Frame} {mth : Method} {cd : Code} {Q : State → Prop} {E : NE} {ad : Nat → Nat} {b L : Nat} {xs : Nat → Int32} (hlt : l.stackTraces = false) (hx : pg.tables.exec = Jvm.exec) (hb : cd.code = cL_law) (hml : cd.maxLocals = 9) (hown : s.vm.findClass RL = some mi.cls) (hts : ∀ w ∈ wsL_law, w.before ar s = true) (hX : va_X b L xs s s.heap) (hbl : b < s.heap.size) (hL : L ≤ 2048) (hK : va_K E.1 vwCl (nTys E) s) (hZ : nZ E (lwA s) s s.heap) (hNC : nNC s) {j : Nat} (hj : 4 * j + 3 < L) {st : NW} {H : Heap} {locs : List Loc} {ls : Array Slot} {cells slots : Nat} (hcc : cells + 1 ≤ room_1.cells ∧ slots + 6 ≤ room_1.slots) (hLI : LI E ad st) (hP : nP E ad st H) (hD : nD (lwA s) ad st) (hS : va_S (lwA s) s.heap H locs) (hl : lv_has ls 9 [(4, .int (nI (4 * j))), (0, .ref b), (1, .ref (ad 0)), (2, .ref (ad 208)), (3, .ref (ad 240))]) (kk : ∀ (st1 : NW) (H1 : Heap) (locs1 : List Loc) (ls1 : Array Slot), LI E ad st1 → nP E ad st1 H1 → nD (lwA s) ad st1 → va_S (lwA s) s.heap H1 locs1 → lv_has ls1 9 [(4, .int (nI (4 * j))), (0, .ref b), (1, .ref (ad 0)), (2, .ref (ad 208)), (3, .ref (ad 240))] → W pg l en room_1 s mi ar bw mth cd H1 locs1 (cells + 1) (slots + 6) Q (F0 mi 1598 ls1 [])) : W pg l en room_1 s mi ar bw mth cd H locs cells slots Q (F0 mi 1078 ls []) := by
  have hA : ∀ q, s.heap.size ≤ q → lwA s q := fun _ h => h
  have hbA : ¬ lwA s b := Nat.not_le.mpr hbl
  refine lv_aload_n hx hb dL_law_1078 rfl (lv_at hl 2 rfl) ?_
  refine lv_aload_n hx hb dL_law_1079 rfl (lv_at hl 1 rfl) ?_
  refine lv_iload hx hb dL_law_1080 (lv_at hl 0 rfl) ?_
  refine lv_iconst (v := 1) hx hb dL_law_1082 (by decide) ?_
  refine lv_iadd hx hb dL_law_1083 ?_
  rw [nI_1]
  refine va_sld hx hb hX hbl hbA hS (vp_in_nI (n := ((4 * j) + 1)) (by omega) (by omega)) dL_law_1084 ?_
  refine lv_aload_n hx hb dL_law_1085 rfl (lv_at hl 4 rfl) ?_
  obtain ⟨N, Rs, a, x, C, n, P, th, J, v, hLS⟩ := hLI
  obtain ⟨kk9, K9, M9, hq1, hq2, hq3, hq4⟩ := q_count hlt hLS (xs (nI ((4 * j) + 1)).toNatClampNeg)
  refine nXS (As := [.ref (ad 0), .int (xs (nI ((4 * j) + 1)).toNatClampNeg), .ref (ad 240)]) (rest := _) hx hb hml hown hts hP hK hD hZ hNC hA hS hcc hq1 (vx_cwSW 3 hts gL_law_L_count rfl rfl rfl (by decide +kernel) ⟨(Nat.le_of_ble_eq_true rfl), (Nat.le_of_ble_eq_true rfl)⟩) hl.1 rfl (Nat.le_of_ble_eq_true rfl) dL_law_1086 (fun r9 st1 H locs hq hP hD hS => ?_)
  obtain ⟨hr9, hKs⟩ := hq
  subst hr9
  refine lv_istore (lv' := [(5, .int r9), (4, .int (nI (4 * j))), (0, .ref b), (1, .ref (ad 0)), (2, .ref (ad 208)), (3, .ref (ad 240))]) hx hb dL_law_1089 hl (by decide) rfl (fun ls hl => ?_)
  refine lv_aload_n hx hb dL_law_1091 rfl (lv_at hl 4 rfl) ?_
  refine lv_aload_n hx hb dL_law_1092 rfl (lv_at hl 2 rfl) ?_
  refine lv_iload hx hb dL_law_1093 (lv_at hl 1 rfl) ?_
  refine lv_iconst (v := 1) hx hb dL_law_1095 (by decide) ?_
  refine lv_iadd hx hb dL_law_1096 ?_
  rw [nI_1]
  refine va_sld hx hb hX hbl hbA hS (vp_in_nI (n := ((4 * j) + 1)) (by omega) (by omega)) dL_law_1097 ?_
  obtain ⟨fs9, h208⟩ := hq2 _ hKs
  refine nVi (As := [.int (xs (nI ((4 * j) + 1)).toNatClampNeg)]) (rest := _) hx hb hml hown hts hP hK hD hZ hA hS hcc h208 rfl (hq3 _ hKs) (cwV 1 hts gL_law_X5_count rfl rfl rfl (by decide +kernel) ⟨(Nat.le_of_ble_eq_true rfl), (Nat.le_of_ble_eq_true rfl)⟩) hl.1 rfl (Nat.le_of_ble_eq_true rfl) dL_law_1098 (fun b9 st2 H locs hq hP hD hS => ?_)
  obtain ⟨⟨G9, hG9, hth⟩, hout, ⟨v9, hv9⟩, hLI⟩ := hq4 _ _ _ hKs hq
  refine lv_istore (lv' := [(6, .int b9), (5, .int r9), (4, .int (nI (4 * j))), (0, .ref b), (1, .ref (ad 0)), (2, .ref (ad 208)), (3, .ref (ad 240))]) hx hb dL_law_1101 hl (by decide) rfl (fun ls hl => ?_)
  refine lv_aload_n hx hb dL_law_1103 rfl (lv_at hl 5 rfl) ?_
  refine nVi (As := []) (rest := _) hx hb hml hown hts hP hK hD hZ hA hS hcc hG9.1 rfl (m_thrown l E ad st2 208 G9 hG9) (cwV 0 hts gL_law_X5_thrown rfl rfl rfl (by decide +kernel) ⟨(Nat.le_of_ble_eq_true rfl), (Nat.le_of_ble_eq_true rfl)⟩) hl.1 rfl (Nat.le_of_ble_eq_true rfl) dL_law_1104 (fun r3 st3 H locs hq hP hD hS => ?_)
  obtain ⟨hr3, rfl⟩ := hq
  rw [hth] at hr3
  refine lv_iload hx hb dL_law_1107 (lv_at hl 1 rfl) ?_
  refine lv_icmp_eq (tgt := 1114) hx hb dL_law_1109 (by decide) (fun c1109_0 => ?_) (fun c1109_0 => absurd hr3 c1109_0)
  refine lv_iload hx hb dL_law_1114 (lv_at hl 1 rfl) ?_
  refine lv_if_ne (tgt := 1131) hx hb dL_law_1116 (by decide) (fun c1116_1 => ?_) (fun c1116_1 => ?_)
  · refine lv_goto (tgt := 1598) hx hb dL_law_1131 (by decide) ?_
    exact kk st2 H locs ls hLI hP hD hS (lv_sub hl [2, 3, 4, 5, 6] rfl)
  · refine lv_aload_n hx hb dL_law_1119 rfl (lv_at hl 6 rfl) ?_
    refine lv_iconst (v := 0) hx hb dL_law_1120 (by decide) ?_
    refine nLld hx hb hK hP (hout c1116_1) dL_law_1121 ?_
    refine lv_iload hx hb dL_law_1122 (lv_at hl 0 rfl) ?_
    refine lv_i2l (v := b9.toInt64) hx hb dL_law_1124 rfl ?_
    refine W.lcmp hx hb dL_law_1125 ?_
    refine lv_if_eq (tgt := 1131) hx hb dL_law_1126 (by decide) (fun c1126_2 => ?_) (fun c1126_2 => absurd (lg_self _) c1126_2)
    refine lv_goto (tgt := 1598) hx hb dL_law_1131 (by decide) ?_
    exact kk st2 H locs ls hLI hP hD hS (lv_sub hl [2, 3, 4, 5, 6] rfl)

set_option maxHeartbeats 4000000 in
set_option maxRecDepth 100000 in
theorem lc_pointing {pg : Program} {l : Launch} {en : Env} {s : State} {mi : MethodId} {ar : Array Value} {bw : List Frame} {mth : Method} {cd : Code} {Q : State → Prop} {E : NE} {ad : Nat → Nat} {b L : Nat} {xs : Nat → Int32} (hlt : l.stackTraces = false) (hx : pg.tables.exec = Jvm.exec) (hb : cd.code = cL_law) (hml : cd.maxLocals = 9) (hown : s.vm.findClass RL = some mi.cls) (hts : ∀ w ∈ wsL_law, w.before ar s = true) (hX : va_X b L xs s s.heap) (hbl : b < s.heap.size) (hL : L ≤ 2048) (hK : va_K E.1 vwCl (nTys E) s) (hZ : nZ E (lwA s) s s.heap) (hNC : nNC s) {j : Nat} (hj : 4 * j + 3 < L) {st : NW} {H : Heap} {locs : List Loc} {ls : Array Slot} {cells slots : Nat} (hcc : cells + 1 ≤ room_1.cells ∧ slots + 6 ≤ room_1.slots) (hLI : LI E ad st) (hP : nP E ad st H) (hD : nD (lwA s) ad st) (hS : va_S (lwA s) s.heap H locs) (hl : lv_has ls 9 [(4, .int (nI (4 * j))), (0, .ref b), (1, .ref (ad 0)), (2, .ref (ad 208)), (3, .ref (ad 240))]) (kk : ∀ (st1 : NW) (H1 : Heap) (locs1 : List Loc) (ls1 : Array Slot), LI E ad st1 → nP E ad st1 H1 → nD (lwA s) ad st1 → va_S (lwA s) s.heap H1 locs1 → lv_has ls1 9 [(4, .int (nI (4 * j))), (0, .ref b), (1, .ref (ad 0)), (2, .ref (ad 208)), (3, .ref (ad 240))] → W pg l en room_1 s mi ar bw mth cd H1 locs1 (cells + 1) (slots + 6) Q (F0 mi 1598 ls1 [])) : W pg l en room_1 s mi ar bw mth cd H locs cells slots Q (F0 mi 1134 ls []) := by
  have hA : ∀ q, s.heap.size ≤ q → lwA s q := fun _ h => h
  have hbA : ¬ lwA s b := Nat.not_le.mpr hbl
  refine lv_aload_n hx hb dL_law_1134 rfl (lv_at hl 2 rfl) ?_
  refine lv_aload_n hx hb dL_law_1135 rfl (lv_at hl 1 rfl) ?_
  refine lv_iload hx hb dL_law_1136 (lv_at hl 0 rfl) ?_
  refine lv_iconst (v := 1) hx hb dL_law_1138 (by decide) ?_
  refine lv_iadd hx hb dL_law_1139 ?_
  rw [nI_1]
  refine va_sld hx hb hX hbl hbA hS (vp_in_nI (n := ((4 * j) + 1)) (by omega) (by omega)) dL_law_1140 ?_
  refine lv_aload_n hx hb dL_law_1141 rfl (lv_at hl 4 rfl) ?_
  obtain ⟨N, Rs, a, x, C, n, P, th, J, v, hLS⟩ := hLI
  obtain ⟨kk9, K9, M9, hq1, hq2, hq3, hq4⟩ := q_pointing hlt hLS (xs (nI ((4 * j) + 1)).toNatClampNeg)
  refine nXS (As := [.ref (ad 0), .int (xs (nI ((4 * j) + 1)).toNatClampNeg), .ref (ad 240)]) (rest := _) hx hb hml hown hts hP hK hD hZ hNC hA hS hcc hq1 (vx_cwSW 3 hts gL_law_L_pointing rfl rfl rfl (by decide +kernel) ⟨(Nat.le_of_ble_eq_true rfl), (Nat.le_of_ble_eq_true rfl)⟩) hl.1 rfl (Nat.le_of_ble_eq_true rfl) dL_law_1142 (fun r9 st1 H locs hq hP hD hS => ?_)
  obtain ⟨hr9, hKs⟩ := hq
  subst hr9
  refine lv_istore (lv' := [(5, .int r9), (4, .int (nI (4 * j))), (0, .ref b), (1, .ref (ad 0)), (2, .ref (ad 208)), (3, .ref (ad 240))]) hx hb dL_law_1145 hl (by decide) rfl (fun ls hl => ?_)
  refine lv_aload_n hx hb dL_law_1147 rfl (lv_at hl 4 rfl) ?_
  refine lv_aload_n hx hb dL_law_1148 rfl (lv_at hl 2 rfl) ?_
  refine lv_iload hx hb dL_law_1149 (lv_at hl 1 rfl) ?_
  refine lv_iconst (v := 1) hx hb dL_law_1151 (by decide) ?_
  refine lv_iadd hx hb dL_law_1152 ?_
  rw [nI_1]
  refine va_sld hx hb hX hbl hbA hS (vp_in_nI (n := ((4 * j) + 1)) (by omega) (by omega)) dL_law_1153 ?_
  obtain ⟨fs9, h208⟩ := hq2 _ hKs
  refine nVi (As := [.int (xs (nI ((4 * j) + 1)).toNatClampNeg)]) (rest := _) hx hb hml hown hts hP hK hD hZ hA hS hcc h208 rfl (hq3 _ hKs) (cwV 1 hts gL_law_X5_pointing rfl rfl rfl (by decide +kernel) ⟨(Nat.le_of_ble_eq_true rfl), (Nat.le_of_ble_eq_true rfl)⟩) hl.1 rfl (Nat.le_of_ble_eq_true rfl) dL_law_1154 (fun b9 st2 H locs hq hP hD hS => ?_)
  obtain ⟨⟨G9, hG9, hth⟩, hout, ⟨v9, hv9⟩, hLI⟩ := hq4 _ _ _ hKs hq
  refine lv_istore (lv' := [(6, .int b9), (5, .int r9), (4, .int (nI (4 * j))), (0, .ref b), (1, .ref (ad 0)), (2, .ref (ad 208)), (3, .ref (ad 240))]) hx hb dL_law_1157 hl (by decide) rfl (fun ls hl => ?_)
  refine lv_aload_n hx hb dL_law_1159 rfl (lv_at hl 5 rfl) ?_
  refine nVi (As := []) (rest := _) hx hb hml hown hts hP hK hD hZ hA hS hcc hG9.1 rfl (m_thrown l E ad st2 208 G9 hG9) (cwV 0 hts gL_law_X5_thrown rfl rfl rfl (by decide +kernel) ⟨(Nat.le_of_ble_eq_true rfl), (Nat.le_of_ble_eq_true rfl)⟩) hl.1 rfl (Nat.le_of_ble_eq_true rfl) dL_law_1160 (fun r3 st3 H locs hq hP hD hS => ?_)
  obtain ⟨hr3, rfl⟩ := hq
  rw [hth] at hr3
  refine lv_iload hx hb dL_law_1163 (lv_at hl 1 rfl) ?_
  refine lv_icmp_eq (tgt := 1170) hx hb dL_law_1165 (by decide) (fun c1165_0 => ?_) (fun c1165_0 => absurd hr3 c1165_0)
  refine lv_iload hx hb dL_law_1170 (lv_at hl 1 rfl) ?_
  refine lv_if_ne (tgt := 1187) hx hb dL_law_1172 (by decide) (fun c1172_1 => ?_) (fun c1172_1 => ?_)
  · refine lv_goto (tgt := 1598) hx hb dL_law_1187 (by decide) ?_
    exact kk st2 H locs ls hLI hP hD hS (lv_sub hl [2, 3, 4, 5, 6] rfl)
  · refine lv_aload_n hx hb dL_law_1175 rfl (lv_at hl 6 rfl) ?_
    refine lv_iconst (v := 0) hx hb dL_law_1176 (by decide) ?_
    refine nLld hx hb hK hP (hout c1172_1) dL_law_1177 ?_
    refine lv_iload hx hb dL_law_1178 (lv_at hl 0 rfl) ?_
    refine lv_i2l (v := b9.toInt64) hx hb dL_law_1180 rfl ?_
    refine W.lcmp hx hb dL_law_1181 ?_
    refine lv_if_eq (tgt := 1187) hx hb dL_law_1182 (by decide) (fun c1182_2 => ?_) (fun c1182_2 => absurd (lg_self _) c1182_2)
    refine lv_goto (tgt := 1598) hx hb dL_law_1187 (by decide) ?_
    exact kk st2 H locs ls hLI hP hD hS (lv_sub hl [2, 3, 4, 5, 6] rfl)

set_option maxHeartbeats 4000000 in
set_option maxRecDepth 100000 in
theorem lc_setting {pg : Program} {l : Launch} {en : Env} {s : State} {mi : MethodId} {ar : Array Value} {bw : List Frame} {mth : Method} {cd : Code} {Q : State → Prop} {E : NE} {ad : Nat → Nat} {b L : Nat} {xs : Nat → Int32} (hlt : l.stackTraces = false) (hx : pg.tables.exec = Jvm.exec) (hb : cd.code = cL_law) (hml : cd.maxLocals = 9) (hown : s.vm.findClass RL = some mi.cls) (hts : ∀ w ∈ wsL_law, w.before ar s = true) (hX : va_X b L xs s s.heap) (hbl : b < s.heap.size) (hL : L ≤ 2048) (hK : va_K E.1 vwCl (nTys E) s) (hZ : nZ E (lwA s) s s.heap) (hNC : nNC s) {j : Nat} (hj : 4 * j + 3 < L) {st : NW} {H : Heap} {locs : List Loc} {ls : Array Slot} {cells slots : Nat} (hcc : cells + 1 ≤ room_1.cells ∧ slots + 6 ≤ room_1.slots) (hLI : LI E ad st) (hP : nP E ad st H) (hD : nD (lwA s) ad st) (hS : va_S (lwA s) s.heap H locs) (hl : lv_has ls 9 [(4, .int (nI (4 * j))), (0, .ref b), (1, .ref (ad 0)), (2, .ref (ad 208)), (3, .ref (ad 240))]) (kk : ∀ (st1 : NW) (H1 : Heap) (locs1 : List Loc) (ls1 : Array Slot), LI E ad st1 → nP E ad st1 H1 → nD (lwA s) ad st1 → va_S (lwA s) s.heap H1 locs1 → lv_has ls1 9 [(4, .int (nI (4 * j))), (0, .ref b), (1, .ref (ad 0)), (2, .ref (ad 208)), (3, .ref (ad 240))] → W pg l en room_1 s mi ar bw mth cd H1 locs1 (cells + 1) (slots + 6) Q (F0 mi 1598 ls1 [])) : W pg l en room_1 s mi ar bw mth cd H locs cells slots Q (F0 mi 1190 ls []) := by
  have hA : ∀ q, s.heap.size ≤ q → lwA s q := fun _ h => h
  have hbA : ¬ lwA s b := Nat.not_le.mpr hbl
  refine lv_aload_n hx hb dL_law_1190 rfl (lv_at hl 2 rfl) ?_
  refine lv_aload_n hx hb dL_law_1191 rfl (lv_at hl 1 rfl) ?_
  refine lv_iload hx hb dL_law_1192 (lv_at hl 0 rfl) ?_
  refine lv_iconst (v := 1) hx hb dL_law_1194 (by decide) ?_
  refine lv_iadd hx hb dL_law_1195 ?_
  rw [nI_1]
  refine va_sld hx hb hX hbl hbA hS (vp_in_nI (n := ((4 * j) + 1)) (by omega) (by omega)) dL_law_1196 ?_
  refine lv_aload_n hx hb dL_law_1197 rfl (lv_at hl 4 rfl) ?_
  obtain ⟨N, Rs, a, x, C, n, P, th, J, v, hLS⟩ := hLI
  obtain ⟨kk9, K9, M9, hq1, hq2, hq3, hq4⟩ := q_setting hlt hLS (xs (nI ((4 * j) + 1)).toNatClampNeg)
  refine nXS (As := [.ref (ad 0), .int (xs (nI ((4 * j) + 1)).toNatClampNeg), .ref (ad 240)]) (rest := _) hx hb hml hown hts hP hK hD hZ hNC hA hS hcc hq1 (vx_cwSW 3 hts gL_law_L_setting rfl rfl rfl (by decide +kernel) ⟨(Nat.le_of_ble_eq_true rfl), (Nat.le_of_ble_eq_true rfl)⟩) hl.1 rfl (Nat.le_of_ble_eq_true rfl) dL_law_1198 (fun r9 st1 H locs hq hP hD hS => ?_)
  obtain ⟨hr9, hKs⟩ := hq
  subst hr9
  refine lv_istore (lv' := [(5, .int r9), (4, .int (nI (4 * j))), (0, .ref b), (1, .ref (ad 0)), (2, .ref (ad 208)), (3, .ref (ad 240))]) hx hb dL_law_1201 hl (by decide) rfl (fun ls hl => ?_)
  refine lv_aload_n hx hb dL_law_1203 rfl (lv_at hl 4 rfl) ?_
  refine lv_aload_n hx hb dL_law_1204 rfl (lv_at hl 2 rfl) ?_
  refine lv_iload hx hb dL_law_1205 (lv_at hl 1 rfl) ?_
  refine lv_iconst (v := 1) hx hb dL_law_1207 (by decide) ?_
  refine lv_iadd hx hb dL_law_1208 ?_
  rw [nI_1]
  refine va_sld hx hb hX hbl hbA hS (vp_in_nI (n := ((4 * j) + 1)) (by omega) (by omega)) dL_law_1209 ?_
  obtain ⟨fs9, h208⟩ := hq2 _ hKs
  refine nVi (As := [.int (xs (nI ((4 * j) + 1)).toNatClampNeg)]) (rest := _) hx hb hml hown hts hP hK hD hZ hA hS hcc h208 rfl (hq3 _ hKs) (cwV 1 hts gL_law_X5_setting rfl rfl rfl (by decide +kernel) ⟨(Nat.le_of_ble_eq_true rfl), (Nat.le_of_ble_eq_true rfl)⟩) hl.1 rfl (Nat.le_of_ble_eq_true rfl) dL_law_1210 (fun b9 st2 H locs hq hP hD hS => ?_)
  obtain ⟨⟨G9, hG9, hth⟩, hout, ⟨v9, hv9⟩, hLI⟩ := hq4 _ _ _ hKs hq
  refine lv_istore (lv' := [(6, .int b9), (5, .int r9), (4, .int (nI (4 * j))), (0, .ref b), (1, .ref (ad 0)), (2, .ref (ad 208)), (3, .ref (ad 240))]) hx hb dL_law_1213 hl (by decide) rfl (fun ls hl => ?_)
  refine lv_aload_n hx hb dL_law_1215 rfl (lv_at hl 5 rfl) ?_
  refine nVi (As := []) (rest := _) hx hb hml hown hts hP hK hD hZ hA hS hcc hG9.1 rfl (m_thrown l E ad st2 208 G9 hG9) (cwV 0 hts gL_law_X5_thrown rfl rfl rfl (by decide +kernel) ⟨(Nat.le_of_ble_eq_true rfl), (Nat.le_of_ble_eq_true rfl)⟩) hl.1 rfl (Nat.le_of_ble_eq_true rfl) dL_law_1216 (fun r3 st3 H locs hq hP hD hS => ?_)
  obtain ⟨hr3, rfl⟩ := hq
  rw [hth] at hr3
  refine lv_iload hx hb dL_law_1219 (lv_at hl 1 rfl) ?_
  refine lv_icmp_eq (tgt := 1226) hx hb dL_law_1221 (by decide) (fun c1221_0 => ?_) (fun c1221_0 => absurd hr3 c1221_0)
  refine lv_iload hx hb dL_law_1226 (lv_at hl 1 rfl) ?_
  refine lv_if_ne (tgt := 1243) hx hb dL_law_1228 (by decide) (fun c1228_1 => ?_) (fun c1228_1 => ?_)
  · refine lv_goto (tgt := 1598) hx hb dL_law_1243 (by decide) ?_
    exact kk st2 H locs ls hLI hP hD hS (lv_sub hl [2, 3, 4, 5, 6] rfl)
  · refine lv_aload_n hx hb dL_law_1231 rfl (lv_at hl 6 rfl) ?_
    refine lv_iconst (v := 0) hx hb dL_law_1232 (by decide) ?_
    refine nLld hx hb hK hP (hout c1228_1) dL_law_1233 ?_
    refine lv_iload hx hb dL_law_1234 (lv_at hl 0 rfl) ?_
    refine lv_i2l (v := b9.toInt64) hx hb dL_law_1236 rfl ?_
    refine W.lcmp hx hb dL_law_1237 ?_
    refine lv_if_eq (tgt := 1243) hx hb dL_law_1238 (by decide) (fun c1238_2 => ?_) (fun c1238_2 => absurd (lg_self _) c1238_2)
    refine lv_goto (tgt := 1598) hx hb dL_law_1243 (by decide) ?_
    exact kk st2 H locs ls hLI hP hD hS (lv_sub hl [2, 3, 4, 5, 6] rfl)

set_option maxHeartbeats 4000000 in
set_option maxRecDepth 100000 in
theorem lc_restsIn {pg : Program} {l : Launch} {en : Env} {s : State} {mi : MethodId} {ar : Array Value} {bw : List Frame} {mth : Method} {cd : Code} {Q : State → Prop} {E : NE} {ad : Nat → Nat} {b L : Nat} {xs : Nat → Int32} (hlt : l.stackTraces = false) (hx : pg.tables.exec = Jvm.exec) (hb : cd.code = cL_law) (hml : cd.maxLocals = 9) (hown : s.vm.findClass RL = some mi.cls) (hts : ∀ w ∈ wsL_law, w.before ar s = true) (hX : va_X b L xs s s.heap) (hbl : b < s.heap.size) (hL : L ≤ 2048) (hK : va_K E.1 vwCl (nTys E) s) (hZ : nZ E (lwA s) s s.heap) (hNC : nNC s) {j : Nat} (hj : 4 * j + 3 < L) {st : NW} {H : Heap} {locs : List Loc} {ls : Array Slot} {cells slots : Nat} (hcc : cells + 1 ≤ room_1.cells ∧ slots + 6 ≤ room_1.slots) (hLI : LI E ad st) (hP : nP E ad st H) (hD : nD (lwA s) ad st) (hS : va_S (lwA s) s.heap H locs) (hl : lv_has ls 9 [(4, .int (nI (4 * j))), (0, .ref b), (1, .ref (ad 0)), (2, .ref (ad 208)), (3, .ref (ad 240))]) (kk : ∀ (st1 : NW) (H1 : Heap) (locs1 : List Loc) (ls1 : Array Slot), LI E ad st1 → nP E ad st1 H1 → nD (lwA s) ad st1 → va_S (lwA s) s.heap H1 locs1 → lv_has ls1 9 [(4, .int (nI (4 * j))), (0, .ref b), (1, .ref (ad 0)), (2, .ref (ad 208)), (3, .ref (ad 240))] → W pg l en room_1 s mi ar bw mth cd H1 locs1 (cells + 1) (slots + 6) Q (F0 mi 1598 ls1 [])) : W pg l en room_1 s mi ar bw mth cd H locs cells slots Q (F0 mi 1246 ls []) := by
  have hA : ∀ q, s.heap.size ≤ q → lwA s q := fun _ h => h
  have hbA : ¬ lwA s b := Nat.not_le.mpr hbl
  refine lv_aload_n hx hb dL_law_1246 rfl (lv_at hl 2 rfl) ?_
  obtain ⟨N, Rs, a, x, C, n, P, th, J, v, hLS⟩ := hLI
  obtain ⟨ha, hxx, hn, hO, hOs, hC, hR, hW, hM, h2⟩ := hLS
  refine nVi (As := []) (rest := _) hx hb hml hown hts hP hK hD hZ hA hS ⟨Nat.le_of_succ_le hcc.1, Nat.le_trans (Nat.le_add_right _ 6) hcc.2⟩ hW.1.1 rfl (c_restsIn l E ad st N Rs a x C n ha hxx hn hO.2.1 hW) (cwV 0 hts gL_law_X4_restsIn rfl rfl rfl (by decide +kernel) ⟨(Nat.le_of_ble_eq_true rfl), (Nat.le_of_ble_eq_true rfl)⟩) hl.1 rfl (Nat.le_of_ble_eq_true rfl) dL_law_1247 (fun r9 st1 H locs hq hP hD hS => ?_)
  obtain ⟨hr9, hW, hf9⟩ := hq
  have hM := hM.keepP (fun k9 _ _ => hf9 k9 (by omega)) (by decide)
  have h2 := (hf9 240 (by omega)).trans h2
  refine lv_aload_n hx hb dL_law_1250 rfl (lv_at hl 3 rfl) ?_
  refine nVi (As := []) (rest := _) hx hb hml hown hts hP hK hD hZ hA hS ⟨Nat.le_of_succ_le hcc.1, Nat.le_trans (Nat.le_add_right _ 6) hcc.2⟩ hM.1 rfl (m_restsIn l E ad st1 208 N P a C n th J ha hn hO hM) (cwV 0 hts gL_law_X5_restsIn rfl rfl rfl (by decide +kernel) ⟨(Nat.le_of_ble_eq_true rfl), (Nat.le_of_ble_eq_true rfl)⟩) hl.1 rfl (Nat.le_of_ble_eq_true rfl) dL_law_1251 (fun r8 st2 H locs hq hP hD hS => ?_)
  obtain ⟨hr8, ⟨J2, hM⟩, hf8⟩ := hq
  have hW := hW.keep (fun k9 hk9 => hf8 k9 (by omega))
  have h2 := (hf8 240 (by omega)).trans h2
  refine lv_icmp_eq (tgt := 1598) hx hb dL_law_1254 (by decide) (fun c1254_0 => ?_) (fun c1254_0 => absurd (hr9.trans hr8.symm) c1254_0)
  refine W.widen (Nat.le_succ _) (Nat.le_add_right _ 6) ?_
  exact kk st2 H locs ls ⟨N, Rs, a, x, C, n, P, 0, J2, v, ha, hxx, by omega, hO, hOs, hC, hR, hW, hM, h2⟩ hP hD hS (lv_sub hl [0, 1, 2, 3, 4] rfl)

set_option maxHeartbeats 4000000 in
set_option maxRecDepth 100000 in
theorem lc_points {pg : Program} {l : Launch} {en : Env} {s : State} {mi : MethodId} {ar : Array Value} {bw : List Frame} {mth : Method} {cd : Code} {Q : State → Prop} {E : NE} {ad : Nat → Nat} {b L : Nat} {xs : Nat → Int32} (hlt : l.stackTraces = false) (hx : pg.tables.exec = Jvm.exec) (hb : cd.code = cL_law) (hml : cd.maxLocals = 9) (hown : s.vm.findClass RL = some mi.cls) (hts : ∀ w ∈ wsL_law, w.before ar s = true) (hX : va_X b L xs s s.heap) (hbl : b < s.heap.size) (hL : L ≤ 2048) (hK : va_K E.1 vwCl (nTys E) s) (hZ : nZ E (lwA s) s s.heap) (hNC : nNC s) {j : Nat} (hj : 4 * j + 3 < L) {st : NW} {H : Heap} {locs : List Loc} {ls : Array Slot} {cells slots : Nat} (hcc : cells + 1 ≤ room_1.cells ∧ slots + 6 ≤ room_1.slots) (hLI : LI E ad st) (hP : nP E ad st H) (hD : nD (lwA s) ad st) (hS : va_S (lwA s) s.heap H locs) (hl : lv_has ls 9 [(4, .int (nI (4 * j))), (0, .ref b), (1, .ref (ad 0)), (2, .ref (ad 208)), (3, .ref (ad 240))]) (kk : ∀ (st1 : NW) (H1 : Heap) (locs1 : List Loc) (ls1 : Array Slot), LI E ad st1 → nP E ad st1 H1 → nD (lwA s) ad st1 → va_S (lwA s) s.heap H1 locs1 → lv_has ls1 9 [(4, .int (nI (4 * j))), (0, .ref b), (1, .ref (ad 0)), (2, .ref (ad 208)), (3, .ref (ad 240))] → W pg l en room_1 s mi ar bw mth cd H1 locs1 (cells + 1) (slots + 6) Q (F0 mi 1598 ls1 [])) : W pg l en room_1 s mi ar bw mth cd H locs cells slots Q (F0 mi 1259 ls []) := by
  have hA : ∀ q, s.heap.size ≤ q → lwA s q := fun _ h => h
  have hbA : ¬ lwA s b := Nat.not_le.mpr hbl
  refine lv_aload_n hx hb dL_law_1259 rfl (lv_at hl 2 rfl) ?_
  refine lv_aload_n hx hb dL_law_1260 rfl (lv_at hl 1 rfl) ?_
  refine lv_iload hx hb dL_law_1261 (lv_at hl 0 rfl) ?_
  refine lv_iconst (v := 1) hx hb dL_law_1263 (by decide) ?_
  refine lv_iadd hx hb dL_law_1264 ?_
  rw [nI_1]
  refine va_sld hx hb hX hbl hbA hS (vp_in_nI (n := ((4 * j) + 1)) (by omega) (by omega)) dL_law_1265 ?_
  refine lv_aload_n hx hb dL_law_1266 rfl (lv_at hl 1 rfl) ?_
  refine lv_iload hx hb dL_law_1267 (lv_at hl 0 rfl) ?_
  refine lv_iconst (v := 2) hx hb dL_law_1269 (by decide) ?_
  refine lv_iadd hx hb dL_law_1270 ?_
  rw [show nI (4 * j) + 2 = nI ((4 * j) + 2) from nI_add (4 * j) 2]
  refine va_sld hx hb hX hbl hbA hS (vp_in_nI (n := ((4 * j) + 2)) (by omega) (by omega)) dL_law_1271 ?_
  refine lv_aload_n hx hb dL_law_1272 rfl (lv_at hl 4 rfl) ?_
  obtain ⟨N, Rs, a, x, C, n, P, th, J, v, hLS⟩ := hLI
  obtain ⟨kk9, K9, M9, hq1, hq2, hq3, hq4⟩ := q_points hlt hLS (xs (nI ((4 * j) + 1)).toNatClampNeg) (xs (nI ((4 * j) + 2)).toNatClampNeg)
  refine nXS (As := [.ref (ad 0), .int (xs (nI ((4 * j) + 1)).toNatClampNeg), .int (xs (nI ((4 * j) + 2)).toNatClampNeg), .ref (ad 240)]) (rest := _) hx hb hml hown hts hP hK hD hZ hNC hA hS hcc hq1 (vx_cwSW 4 hts gL_law_L_points rfl rfl rfl (by decide +kernel) ⟨(Nat.le_of_ble_eq_true rfl), (Nat.le_of_ble_eq_true rfl)⟩) hl.1 rfl (Nat.le_of_ble_eq_true rfl) dL_law_1273 (fun r9 st1 H locs hq hP hD hS => ?_)
  obtain ⟨hr9, hKs⟩ := hq
  subst hr9
  refine lv_istore (lv' := [(5, .int r9), (4, .int (nI (4 * j))), (0, .ref b), (1, .ref (ad 0)), (2, .ref (ad 208)), (3, .ref (ad 240))]) hx hb dL_law_1276 hl (by decide) rfl (fun ls hl => ?_)
  refine lv_aload_n hx hb dL_law_1278 rfl (lv_at hl 4 rfl) ?_
  refine lv_aload_n hx hb dL_law_1279 rfl (lv_at hl 2 rfl) ?_
  refine lv_iload hx hb dL_law_1280 (lv_at hl 1 rfl) ?_
  refine lv_iconst (v := 1) hx hb dL_law_1282 (by decide) ?_
  refine lv_iadd hx hb dL_law_1283 ?_
  rw [nI_1]
  refine va_sld hx hb hX hbl hbA hS (vp_in_nI (n := ((4 * j) + 1)) (by omega) (by omega)) dL_law_1284 ?_
  refine lv_aload_n hx hb dL_law_1285 rfl (lv_at hl 2 rfl) ?_
  refine lv_iload hx hb dL_law_1286 (lv_at hl 1 rfl) ?_
  refine lv_iconst (v := 2) hx hb dL_law_1288 (by decide) ?_
  refine lv_iadd hx hb dL_law_1289 ?_
  rw [show nI (4 * j) + 2 = nI ((4 * j) + 2) from nI_add (4 * j) 2]
  refine va_sld hx hb hX hbl hbA hS (vp_in_nI (n := ((4 * j) + 2)) (by omega) (by omega)) dL_law_1290 ?_
  obtain ⟨fs9, h208⟩ := hq2 _ hKs
  refine nVi (As := [.int (xs (nI ((4 * j) + 1)).toNatClampNeg), .int (xs (nI ((4 * j) + 2)).toNatClampNeg)]) (rest := _) hx hb hml hown hts hP hK hD hZ hA hS hcc h208 rfl (hq3 _ hKs) (cwV 2 hts gL_law_X5_points rfl rfl rfl (by decide +kernel) ⟨(Nat.le_of_ble_eq_true rfl), (Nat.le_of_ble_eq_true rfl)⟩) hl.1 rfl (Nat.le_of_ble_eq_true rfl) dL_law_1291 (fun b9 st2 H locs hq hP hD hS => ?_)
  obtain ⟨⟨G9, hG9, hth⟩, hout, ⟨v9, hv9⟩, hLI⟩ := hq4 _ _ _ hKs hq
  refine lv_istore (lv' := [(6, .int b9), (5, .int r9), (4, .int (nI (4 * j))), (0, .ref b), (1, .ref (ad 0)), (2, .ref (ad 208)), (3, .ref (ad 240))]) hx hb dL_law_1294 hl (by decide) rfl (fun ls hl => ?_)
  refine lv_aload_n hx hb dL_law_1296 rfl (lv_at hl 5 rfl) ?_
  refine nVi (As := []) (rest := _) hx hb hml hown hts hP hK hD hZ hA hS hcc hG9.1 rfl (m_thrown l E ad st2 208 G9 hG9) (cwV 0 hts gL_law_X5_thrown rfl rfl rfl (by decide +kernel) ⟨(Nat.le_of_ble_eq_true rfl), (Nat.le_of_ble_eq_true rfl)⟩) hl.1 rfl (Nat.le_of_ble_eq_true rfl) dL_law_1297 (fun r3 st3 H locs hq hP hD hS => ?_)
  obtain ⟨hr3, rfl⟩ := hq
  rw [hth] at hr3
  refine lv_iload hx hb dL_law_1300 (lv_at hl 1 rfl) ?_
  refine lv_icmp_eq (tgt := 1307) hx hb dL_law_1302 (by decide) (fun c1302_0 => ?_) (fun c1302_0 => absurd hr3 c1302_0)
  refine lv_iload hx hb dL_law_1307 (lv_at hl 1 rfl) ?_
  refine lv_if_ne (tgt := 1324) hx hb dL_law_1309 (by decide) (fun c1309_1 => ?_) (fun c1309_1 => ?_)
  · refine lv_goto (tgt := 1598) hx hb dL_law_1324 (by decide) ?_
    exact kk st2 H locs ls hLI hP hD hS (lv_sub hl [2, 3, 4, 5, 6] rfl)
  · refine lv_aload_n hx hb dL_law_1312 rfl (lv_at hl 6 rfl) ?_
    refine lv_iconst (v := 0) hx hb dL_law_1313 (by decide) ?_
    refine nLld hx hb hK hP (hout c1309_1) dL_law_1314 ?_
    refine lv_iload hx hb dL_law_1315 (lv_at hl 0 rfl) ?_
    refine lv_i2l (v := b9.toInt64) hx hb dL_law_1317 rfl ?_
    refine W.lcmp hx hb dL_law_1318 ?_
    refine lv_if_eq (tgt := 1324) hx hb dL_law_1319 (by decide) (fun c1319_2 => ?_) (fun c1319_2 => absurd (lg_self _) c1319_2)
    refine lv_goto (tgt := 1598) hx hb dL_law_1324 (by decide) ?_
    exact kk st2 H locs ls hLI hP hD hS (lv_sub hl [2, 3, 4, 5, 6] rfl)

set_option maxHeartbeats 4000000 in
set_option maxRecDepth 100000 in
theorem lc_ifBar {pg : Program} {l : Launch} {en : Env} {s : State} {mi : MethodId} {ar : Array Value} {bw : List Frame} {mth : Method} {cd : Code} {Q : State → Prop} {E : NE} {ad : Nat → Nat} {b L : Nat} {xs : Nat → Int32} (hlt : l.stackTraces = false) (hx : pg.tables.exec = Jvm.exec) (hb : cd.code = cL_law) (hml : cd.maxLocals = 9) (hown : s.vm.findClass RL = some mi.cls) (hts : ∀ w ∈ wsL_law, w.before ar s = true) (hX : va_X b L xs s s.heap) (hbl : b < s.heap.size) (hL : L ≤ 2048) (hK : va_K E.1 vwCl (nTys E) s) (hZ : nZ E (lwA s) s s.heap) (hNC : nNC s) {j : Nat} (hj : 4 * j + 3 < L) {st : NW} {H : Heap} {locs : List Loc} {ls : Array Slot} {cells slots : Nat} (hcc : cells + 1 ≤ room_1.cells ∧ slots + 6 ≤ room_1.slots) (hLI : LI E ad st) (hP : nP E ad st H) (hD : nD (lwA s) ad st) (hS : va_S (lwA s) s.heap H locs) (hl : lv_has ls 9 [(4, .int (nI (4 * j))), (0, .ref b), (1, .ref (ad 0)), (2, .ref (ad 208)), (3, .ref (ad 240))]) (kk : ∀ (st1 : NW) (H1 : Heap) (locs1 : List Loc) (ls1 : Array Slot), LI E ad st1 → nP E ad st1 H1 → nD (lwA s) ad st1 → va_S (lwA s) s.heap H1 locs1 → lv_has ls1 9 [(4, .int (nI (4 * j))), (0, .ref b), (1, .ref (ad 0)), (2, .ref (ad 208)), (3, .ref (ad 240))] → W pg l en room_1 s mi ar bw mth cd H1 locs1 (cells + 1) (slots + 6) Q (F0 mi 1598 ls1 [])) : W pg l en room_1 s mi ar bw mth cd H locs cells slots Q (F0 mi 1327 ls []) := by
  have hA : ∀ q, s.heap.size ≤ q → lwA s q := fun _ h => h
  have hbA : ¬ lwA s b := Nat.not_le.mpr hbl
  refine lv_aload_n hx hb dL_law_1327 rfl (lv_at hl 2 rfl) ?_
  refine lv_aload_n hx hb dL_law_1328 rfl (lv_at hl 1 rfl) ?_
  refine lv_iload hx hb dL_law_1329 (lv_at hl 0 rfl) ?_
  refine lv_iconst (v := 1) hx hb dL_law_1331 (by decide) ?_
  refine lv_iadd hx hb dL_law_1332 ?_
  rw [nI_1]
  refine va_sld hx hb hX hbl hbA hS (vp_in_nI (n := ((4 * j) + 1)) (by omega) (by omega)) dL_law_1333 ?_
  refine lv_aload_n hx hb dL_law_1334 rfl (lv_at hl 1 rfl) ?_
  refine lv_iload hx hb dL_law_1335 (lv_at hl 0 rfl) ?_
  refine lv_iconst (v := 2) hx hb dL_law_1337 (by decide) ?_
  refine lv_iadd hx hb dL_law_1338 ?_
  rw [show nI (4 * j) + 2 = nI ((4 * j) + 2) from nI_add (4 * j) 2]
  refine va_sld hx hb hX hbl hbA hS (vp_in_nI (n := ((4 * j) + 2)) (by omega) (by omega)) dL_law_1339 ?_
  refine lv_aload_n hx hb dL_law_1340 rfl (lv_at hl 1 rfl) ?_
  refine lv_iload hx hb dL_law_1341 (lv_at hl 0 rfl) ?_
  refine lv_iconst (v := 3) hx hb dL_law_1343 (by decide) ?_
  refine lv_iadd hx hb dL_law_1344 ?_
  rw [show nI (4 * j) + 3 = nI ((4 * j) + 3) from nI_add (4 * j) 3]
  refine va_sld hx hb hX hbl hbA hS (vp_in_nI (n := ((4 * j) + 3)) (by omega) (by omega)) dL_law_1345 ?_
  refine lv_aload_n hx hb dL_law_1346 rfl (lv_at hl 4 rfl) ?_
  obtain ⟨N, Rs, a, x, C, n, P, th, J, v, hLS⟩ := hLI
  obtain ⟨kk9, K9, M9, hq1, hq2, hq3, hq4⟩ := q_ifBar hlt hLS (xs (nI ((4 * j) + 1)).toNatClampNeg) (xs (nI ((4 * j) + 2)).toNatClampNeg) (xs (nI ((4 * j) + 3)).toNatClampNeg)
  refine nXS (As := [.ref (ad 0), .int (xs (nI ((4 * j) + 1)).toNatClampNeg), .int (xs (nI ((4 * j) + 2)).toNatClampNeg), .int (xs (nI ((4 * j) + 3)).toNatClampNeg), .ref (ad 240)]) (rest := _) hx hb hml hown hts hP hK hD hZ hNC hA hS hcc hq1 (vx_cwSW 5 hts gL_law_L_ifBar rfl rfl rfl (by decide +kernel) ⟨(Nat.le_of_ble_eq_true rfl), (Nat.le_of_ble_eq_true rfl)⟩) hl.1 rfl (Nat.le_of_ble_eq_true rfl) dL_law_1347 (fun r9 st1 H locs hq hP hD hS => ?_)
  obtain ⟨hr9, hKs⟩ := hq
  subst hr9
  refine lv_istore (lv' := [(5, .int r9), (4, .int (nI (4 * j))), (0, .ref b), (1, .ref (ad 0)), (2, .ref (ad 208)), (3, .ref (ad 240))]) hx hb dL_law_1350 hl (by decide) rfl (fun ls hl => ?_)
  refine lv_aload_n hx hb dL_law_1352 rfl (lv_at hl 4 rfl) ?_
  refine lv_aload_n hx hb dL_law_1353 rfl (lv_at hl 2 rfl) ?_
  refine lv_iload hx hb dL_law_1354 (lv_at hl 1 rfl) ?_
  refine lv_iconst (v := 1) hx hb dL_law_1356 (by decide) ?_
  refine lv_iadd hx hb dL_law_1357 ?_
  rw [nI_1]
  refine va_sld hx hb hX hbl hbA hS (vp_in_nI (n := ((4 * j) + 1)) (by omega) (by omega)) dL_law_1358 ?_
  refine lv_aload_n hx hb dL_law_1359 rfl (lv_at hl 2 rfl) ?_
  refine lv_iload hx hb dL_law_1360 (lv_at hl 1 rfl) ?_
  refine lv_iconst (v := 2) hx hb dL_law_1362 (by decide) ?_
  refine lv_iadd hx hb dL_law_1363 ?_
  rw [show nI (4 * j) + 2 = nI ((4 * j) + 2) from nI_add (4 * j) 2]
  refine va_sld hx hb hX hbl hbA hS (vp_in_nI (n := ((4 * j) + 2)) (by omega) (by omega)) dL_law_1364 ?_
  refine lv_aload_n hx hb dL_law_1365 rfl (lv_at hl 2 rfl) ?_
  refine lv_iload hx hb dL_law_1366 (lv_at hl 1 rfl) ?_
  refine lv_iconst (v := 3) hx hb dL_law_1368 (by decide) ?_
  refine lv_iadd hx hb dL_law_1369 ?_
  rw [show nI (4 * j) + 3 = nI ((4 * j) + 3) from nI_add (4 * j) 3]
  refine va_sld hx hb hX hbl hbA hS (vp_in_nI (n := ((4 * j) + 3)) (by omega) (by omega)) dL_law_1370 ?_
  obtain ⟨fs9, h208⟩ := hq2 _ hKs
  refine nVi (As := [.int (xs (nI ((4 * j) + 1)).toNatClampNeg), .int (xs (nI ((4 * j) + 2)).toNatClampNeg), .int (xs (nI ((4 * j) + 3)).toNatClampNeg)]) (rest := _) hx hb hml hown hts hP hK hD hZ hA hS hcc h208 rfl (hq3 _ hKs) (cwV 3 hts gL_law_X5_ifBar rfl rfl rfl (by decide +kernel) ⟨(Nat.le_of_ble_eq_true rfl), (Nat.le_of_ble_eq_true rfl)⟩) hl.1 rfl (Nat.le_of_ble_eq_true rfl) dL_law_1371 (fun b9 st2 H locs hq hP hD hS => ?_)
  obtain ⟨⟨G9, hG9, hth⟩, hout, ⟨v9, hv9⟩, hLI⟩ := hq4 _ _ _ hKs hq
  refine lv_istore (lv' := [(6, .int b9), (5, .int r9), (4, .int (nI (4 * j))), (0, .ref b), (1, .ref (ad 0)), (2, .ref (ad 208)), (3, .ref (ad 240))]) hx hb dL_law_1374 hl (by decide) rfl (fun ls hl => ?_)
  refine lv_aload_n hx hb dL_law_1376 rfl (lv_at hl 5 rfl) ?_
  refine nVi (As := []) (rest := _) hx hb hml hown hts hP hK hD hZ hA hS hcc hG9.1 rfl (m_thrown l E ad st2 208 G9 hG9) (cwV 0 hts gL_law_X5_thrown rfl rfl rfl (by decide +kernel) ⟨(Nat.le_of_ble_eq_true rfl), (Nat.le_of_ble_eq_true rfl)⟩) hl.1 rfl (Nat.le_of_ble_eq_true rfl) dL_law_1377 (fun r3 st3 H locs hq hP hD hS => ?_)
  obtain ⟨hr3, rfl⟩ := hq
  rw [hth] at hr3
  refine lv_iload hx hb dL_law_1380 (lv_at hl 1 rfl) ?_
  refine lv_icmp_eq (tgt := 1387) hx hb dL_law_1382 (by decide) (fun c1382_0 => ?_) (fun c1382_0 => absurd hr3 c1382_0)
  refine lv_iload hx hb dL_law_1387 (lv_at hl 1 rfl) ?_
  refine lv_if_ne (tgt := 1404) hx hb dL_law_1389 (by decide) (fun c1389_1 => ?_) (fun c1389_1 => ?_)
  · refine lv_goto (tgt := 1598) hx hb dL_law_1404 (by decide) ?_
    exact kk st2 H locs ls hLI hP hD hS (lv_sub hl [2, 3, 4, 5, 6] rfl)
  · refine lv_aload_n hx hb dL_law_1392 rfl (lv_at hl 6 rfl) ?_
    refine lv_iconst (v := 0) hx hb dL_law_1393 (by decide) ?_
    refine nLld hx hb hK hP (hout c1389_1) dL_law_1394 ?_
    refine lv_iload hx hb dL_law_1395 (lv_at hl 0 rfl) ?_
    refine lv_i2l (v := b9.toInt64) hx hb dL_law_1397 rfl ?_
    refine W.lcmp hx hb dL_law_1398 ?_
    refine lv_if_eq (tgt := 1404) hx hb dL_law_1399 (by decide) (fun c1399_2 => ?_) (fun c1399_2 => absurd (lg_self _) c1399_2)
    refine lv_goto (tgt := 1598) hx hb dL_law_1404 (by decide) ?_
    exact kk st2 H locs ls hLI hP hD hS (lv_sub hl [2, 3, 4, 5, 6] rfl)

set_option maxHeartbeats 4000000 in
set_option maxRecDepth 100000 in
theorem lc_bestBar {pg : Program} {l : Launch} {en : Env} {s : State} {mi : MethodId} {ar : Array Value} {bw : List Frame} {mth : Method} {cd : Code} {Q : State → Prop} {E : NE} {ad : Nat → Nat} {b L : Nat} {xs : Nat → Int32} (hlt : l.stackTraces = false) (hx : pg.tables.exec = Jvm.exec) (hb : cd.code = cL_law) (hml : cd.maxLocals = 9) (hown : s.vm.findClass RL = some mi.cls) (hts : ∀ w ∈ wsL_law, w.before ar s = true) (hX : va_X b L xs s s.heap) (hbl : b < s.heap.size) (hL : L ≤ 2048) (hK : va_K E.1 vwCl (nTys E) s) (hZ : nZ E (lwA s) s s.heap) (hNC : nNC s) {j : Nat} (hj : 4 * j + 3 < L) {st : NW} {H : Heap} {locs : List Loc} {ls : Array Slot} {cells slots : Nat} (hcc : cells + 1 ≤ room_1.cells ∧ slots + 6 ≤ room_1.slots) (hLI : LI E ad st) (hP : nP E ad st H) (hD : nD (lwA s) ad st) (hS : va_S (lwA s) s.heap H locs) (hl : lv_has ls 9 [(4, .int (nI (4 * j))), (0, .ref b), (1, .ref (ad 0)), (2, .ref (ad 208)), (3, .ref (ad 240))]) (kk : ∀ (st1 : NW) (H1 : Heap) (locs1 : List Loc) (ls1 : Array Slot), LI E ad st1 → nP E ad st1 H1 → nD (lwA s) ad st1 → va_S (lwA s) s.heap H1 locs1 → lv_has ls1 9 [(4, .int (nI (4 * j))), (0, .ref b), (1, .ref (ad 0)), (2, .ref (ad 208)), (3, .ref (ad 240))] → W pg l en room_1 s mi ar bw mth cd H1 locs1 (cells + 1) (slots + 6) Q (F0 mi 1598 ls1 [])) : W pg l en room_1 s mi ar bw mth cd H locs cells slots Q (F0 mi 1407 ls []) := by
  have hA : ∀ q, s.heap.size ≤ q → lwA s q := fun _ h => h
  have hbA : ¬ lwA s b := Nat.not_le.mpr hbl
  refine lv_aload_n hx hb dL_law_1407 rfl (lv_at hl 2 rfl) ?_
  refine lv_aload_n hx hb dL_law_1408 rfl (lv_at hl 1 rfl) ?_
  refine lv_iload hx hb dL_law_1409 (lv_at hl 0 rfl) ?_
  refine lv_iconst (v := 1) hx hb dL_law_1411 (by decide) ?_
  refine lv_iadd hx hb dL_law_1412 ?_
  rw [nI_1]
  refine va_sld hx hb hX hbl hbA hS (vp_in_nI (n := ((4 * j) + 1)) (by omega) (by omega)) dL_law_1413 ?_
  refine lv_aload_n hx hb dL_law_1414 rfl (lv_at hl 1 rfl) ?_
  refine lv_iload hx hb dL_law_1415 (lv_at hl 0 rfl) ?_
  refine lv_iconst (v := 2) hx hb dL_law_1417 (by decide) ?_
  refine lv_iadd hx hb dL_law_1418 ?_
  rw [show nI (4 * j) + 2 = nI ((4 * j) + 2) from nI_add (4 * j) 2]
  refine va_sld hx hb hX hbl hbA hS (vp_in_nI (n := ((4 * j) + 2)) (by omega) (by omega)) dL_law_1419 ?_
  refine lv_aload_n hx hb dL_law_1420 rfl (lv_at hl 1 rfl) ?_
  refine lv_iload hx hb dL_law_1421 (lv_at hl 0 rfl) ?_
  refine lv_iconst (v := 3) hx hb dL_law_1423 (by decide) ?_
  refine lv_iadd hx hb dL_law_1424 ?_
  rw [show nI (4 * j) + 3 = nI ((4 * j) + 3) from nI_add (4 * j) 3]
  refine va_sld hx hb hX hbl hbA hS (vp_in_nI (n := ((4 * j) + 3)) (by omega) (by omega)) dL_law_1425 ?_
  refine lv_aload_n hx hb dL_law_1426 rfl (lv_at hl 4 rfl) ?_
  obtain ⟨N, Rs, a, x, C, n, P, th, J, v, hLS⟩ := hLI
  obtain ⟨kk9, K9, M9, hq1, hq2, hq3, hq4⟩ := q_bestBar hlt hLS (xs (nI ((4 * j) + 1)).toNatClampNeg) (xs (nI ((4 * j) + 2)).toNatClampNeg) (xs (nI ((4 * j) + 3)).toNatClampNeg)
  refine nXS (As := [.ref (ad 0), .int (xs (nI ((4 * j) + 1)).toNatClampNeg), .int (xs (nI ((4 * j) + 2)).toNatClampNeg), .int (xs (nI ((4 * j) + 3)).toNatClampNeg), .ref (ad 240)]) (rest := _) hx hb hml hown hts hP hK hD hZ hNC hA hS hcc hq1 (vx_cwSW 5 hts gL_law_L_bestBar rfl rfl rfl (by decide +kernel) ⟨(Nat.le_of_ble_eq_true rfl), (Nat.le_of_ble_eq_true rfl)⟩) hl.1 rfl (Nat.le_of_ble_eq_true rfl) dL_law_1427 (fun r9 st1 H locs hq hP hD hS => ?_)
  obtain ⟨hr9, hKs⟩ := hq
  subst hr9
  refine lv_istore (lv' := [(5, .int r9), (4, .int (nI (4 * j))), (0, .ref b), (1, .ref (ad 0)), (2, .ref (ad 208)), (3, .ref (ad 240))]) hx hb dL_law_1430 hl (by decide) rfl (fun ls hl => ?_)
  refine lv_aload_n hx hb dL_law_1432 rfl (lv_at hl 4 rfl) ?_
  refine lv_aload_n hx hb dL_law_1433 rfl (lv_at hl 2 rfl) ?_
  refine lv_iload hx hb dL_law_1434 (lv_at hl 1 rfl) ?_
  refine lv_iconst (v := 1) hx hb dL_law_1436 (by decide) ?_
  refine lv_iadd hx hb dL_law_1437 ?_
  rw [nI_1]
  refine va_sld hx hb hX hbl hbA hS (vp_in_nI (n := ((4 * j) + 1)) (by omega) (by omega)) dL_law_1438 ?_
  refine lv_aload_n hx hb dL_law_1439 rfl (lv_at hl 2 rfl) ?_
  refine lv_iload hx hb dL_law_1440 (lv_at hl 1 rfl) ?_
  refine lv_iconst (v := 2) hx hb dL_law_1442 (by decide) ?_
  refine lv_iadd hx hb dL_law_1443 ?_
  rw [show nI (4 * j) + 2 = nI ((4 * j) + 2) from nI_add (4 * j) 2]
  refine va_sld hx hb hX hbl hbA hS (vp_in_nI (n := ((4 * j) + 2)) (by omega) (by omega)) dL_law_1444 ?_
  refine lv_aload_n hx hb dL_law_1445 rfl (lv_at hl 2 rfl) ?_
  refine lv_iload hx hb dL_law_1446 (lv_at hl 1 rfl) ?_
  refine lv_iconst (v := 3) hx hb dL_law_1448 (by decide) ?_
  refine lv_iadd hx hb dL_law_1449 ?_
  rw [show nI (4 * j) + 3 = nI ((4 * j) + 3) from nI_add (4 * j) 3]
  refine va_sld hx hb hX hbl hbA hS (vp_in_nI (n := ((4 * j) + 3)) (by omega) (by omega)) dL_law_1450 ?_
  obtain ⟨fs9, h208⟩ := hq2 _ hKs
  refine nVi (As := [.int (xs (nI ((4 * j) + 1)).toNatClampNeg), .int (xs (nI ((4 * j) + 2)).toNatClampNeg), .int (xs (nI ((4 * j) + 3)).toNatClampNeg)]) (rest := _) hx hb hml hown hts hP hK hD hZ hA hS hcc h208 rfl (hq3 _ hKs) (cwV 3 hts gL_law_X5_bestBar rfl rfl rfl (by decide +kernel) ⟨(Nat.le_of_ble_eq_true rfl), (Nat.le_of_ble_eq_true rfl)⟩) hl.1 rfl (Nat.le_of_ble_eq_true rfl) dL_law_1451 (fun b9 st2 H locs hq hP hD hS => ?_)
  obtain ⟨⟨G9, hG9, hth⟩, hout, ⟨v9, hv9⟩, hLI⟩ := hq4 _ _ _ hKs hq
  refine lv_istore (lv' := [(6, .int b9), (5, .int r9), (4, .int (nI (4 * j))), (0, .ref b), (1, .ref (ad 0)), (2, .ref (ad 208)), (3, .ref (ad 240))]) hx hb dL_law_1454 hl (by decide) rfl (fun ls hl => ?_)
  refine lv_aload_n hx hb dL_law_1456 rfl (lv_at hl 5 rfl) ?_
  refine nVi (As := []) (rest := _) hx hb hml hown hts hP hK hD hZ hA hS hcc hG9.1 rfl (m_thrown l E ad st2 208 G9 hG9) (cwV 0 hts gL_law_X5_thrown rfl rfl rfl (by decide +kernel) ⟨(Nat.le_of_ble_eq_true rfl), (Nat.le_of_ble_eq_true rfl)⟩) hl.1 rfl (Nat.le_of_ble_eq_true rfl) dL_law_1457 (fun r3 st3 H locs hq hP hD hS => ?_)
  obtain ⟨hr3, rfl⟩ := hq
  rw [hth] at hr3
  refine lv_iload hx hb dL_law_1460 (lv_at hl 1 rfl) ?_
  refine lv_icmp_eq (tgt := 1467) hx hb dL_law_1462 (by decide) (fun c1462_0 => ?_) (fun c1462_0 => absurd hr3 c1462_0)
  refine lv_iload hx hb dL_law_1467 (lv_at hl 1 rfl) ?_
  refine lv_if_ne (tgt := 1484) hx hb dL_law_1469 (by decide) (fun c1469_1 => ?_) (fun c1469_1 => ?_)
  · refine lv_goto (tgt := 1598) hx hb dL_law_1484 (by decide) ?_
    exact kk st2 H locs ls hLI hP hD hS (lv_sub hl [2, 3, 4, 5, 6] rfl)
  · refine lv_aload_n hx hb dL_law_1472 rfl (lv_at hl 6 rfl) ?_
    refine lv_iconst (v := 0) hx hb dL_law_1473 (by decide) ?_
    refine nLld hx hb hK hP (hout c1469_1) dL_law_1474 ?_
    refine lv_iload hx hb dL_law_1475 (lv_at hl 0 rfl) ?_
    refine lv_i2l (v := b9.toInt64) hx hb dL_law_1477 rfl ?_
    refine W.lcmp hx hb dL_law_1478 ?_
    refine lv_if_eq (tgt := 1484) hx hb dL_law_1479 (by decide) (fun c1479_2 => ?_) (fun c1479_2 => absurd (lg_self _) c1479_2)
    refine lv_goto (tgt := 1598) hx hb dL_law_1484 (by decide) ?_
    exact kk st2 H locs ls hLI hP hD hS (lv_sub hl [2, 3, 4, 5, 6] rfl)

set_option maxHeartbeats 4000000 in
set_option maxRecDepth 100000 in
theorem lc_leastTurns {pg : Program} {l : Launch} {en : Env} {s : State} {mi : MethodId} {ar : Array Value} {bw : List Frame} {mth : Method} {cd : Code} {Q : State → Prop} {E : NE} {ad : Nat → Nat} {b L : Nat} {xs : Nat → Int32} (hlt : l.stackTraces = false) (hx : pg.tables.exec = Jvm.exec) (hb : cd.code = cL_law) (hml : cd.maxLocals = 9) (hown : s.vm.findClass RL = some mi.cls) (hts : ∀ w ∈ wsL_law, w.before ar s = true) (hX : va_X b L xs s s.heap) (hbl : b < s.heap.size) (hL : L ≤ 2048) (hK : va_K E.1 vwCl (nTys E) s) (hZ : nZ E (lwA s) s s.heap) (hNC : nNC s) {j : Nat} (hj : 4 * j + 3 < L) {st : NW} {H : Heap} {locs : List Loc} {ls : Array Slot} {cells slots : Nat} (hcc : cells + 1 ≤ room_1.cells ∧ slots + 6 ≤ room_1.slots) (hLI : LI E ad st) (hP : nP E ad st H) (hD : nD (lwA s) ad st) (hS : va_S (lwA s) s.heap H locs) (hl : lv_has ls 9 [(4, .int (nI (4 * j))), (0, .ref b), (1, .ref (ad 0)), (2, .ref (ad 208)), (3, .ref (ad 240))]) (kk : ∀ (st1 : NW) (H1 : Heap) (locs1 : List Loc) (ls1 : Array Slot), LI E ad st1 → nP E ad st1 H1 → nD (lwA s) ad st1 → va_S (lwA s) s.heap H1 locs1 → lv_has ls1 9 [(4, .int (nI (4 * j))), (0, .ref b), (1, .ref (ad 0)), (2, .ref (ad 208)), (3, .ref (ad 240))] → W pg l en room_1 s mi ar bw mth cd H1 locs1 (cells + 1) (slots + 6) Q (F0 mi 1598 ls1 [])) : W pg l en room_1 s mi ar bw mth cd H locs cells slots Q (F0 mi 1487 ls []) := by
  have hA : ∀ q, s.heap.size ≤ q → lwA s q := fun _ h => h
  have hbA : ¬ lwA s b := Nat.not_le.mpr hbl
  refine lv_aload_n hx hb dL_law_1487 rfl (lv_at hl 2 rfl) ?_
  refine lv_aload_n hx hb dL_law_1488 rfl (lv_at hl 1 rfl) ?_
  refine lv_iload hx hb dL_law_1489 (lv_at hl 0 rfl) ?_
  refine lv_iconst (v := 1) hx hb dL_law_1491 (by decide) ?_
  refine lv_iadd hx hb dL_law_1492 ?_
  rw [nI_1]
  refine va_sld hx hb hX hbl hbA hS (vp_in_nI (n := ((4 * j) + 1)) (by omega) (by omega)) dL_law_1493 ?_
  refine lv_aload_n hx hb dL_law_1494 rfl (lv_at hl 4 rfl) ?_
  obtain ⟨N, Rs, a, x, C, n, P, th, J, v, hLS⟩ := hLI
  obtain ⟨kk9, K9, M9, hq1, hq2, hq3, hq4⟩ := q_leastTurns hlt hLS (xs (nI ((4 * j) + 1)).toNatClampNeg)
  refine nXS (As := [.ref (ad 0), .int (xs (nI ((4 * j) + 1)).toNatClampNeg), .ref (ad 240)]) (rest := _) hx hb hml hown hts hP hK hD hZ hNC hA hS hcc hq1 (vx_cwSW 3 hts gL_law_L_leastTurns rfl rfl rfl (by decide +kernel) ⟨(Nat.le_of_ble_eq_true rfl), (Nat.le_of_ble_eq_true rfl)⟩) hl.1 rfl (Nat.le_of_ble_eq_true rfl) dL_law_1495 (fun r9 st1 H locs hq hP hD hS => ?_)
  obtain ⟨hr9, hKs⟩ := hq
  subst hr9
  refine lv_istore (lv' := [(5, .int r9), (4, .int (nI (4 * j))), (0, .ref b), (1, .ref (ad 0)), (2, .ref (ad 208)), (3, .ref (ad 240))]) hx hb dL_law_1498 hl (by decide) rfl (fun ls hl => ?_)
  refine lv_aload_n hx hb dL_law_1500 rfl (lv_at hl 4 rfl) ?_
  refine lv_aload_n hx hb dL_law_1501 rfl (lv_at hl 2 rfl) ?_
  refine lv_iload hx hb dL_law_1502 (lv_at hl 1 rfl) ?_
  refine lv_iconst (v := 1) hx hb dL_law_1504 (by decide) ?_
  refine lv_iadd hx hb dL_law_1505 ?_
  rw [nI_1]
  refine va_sld hx hb hX hbl hbA hS (vp_in_nI (n := ((4 * j) + 1)) (by omega) (by omega)) dL_law_1506 ?_
  obtain ⟨fs9, h208⟩ := hq2 _ hKs
  refine nVi (As := [.int (xs (nI ((4 * j) + 1)).toNatClampNeg)]) (rest := _) hx hb hml hown hts hP hK hD hZ hA hS hcc h208 rfl (hq3 _ hKs) (cwV 1 hts gL_law_X5_leastTurns rfl rfl rfl (by decide +kernel) ⟨(Nat.le_of_ble_eq_true rfl), (Nat.le_of_ble_eq_true rfl)⟩) hl.1 rfl (Nat.le_of_ble_eq_true rfl) dL_law_1507 (fun b9 st2 H locs hq hP hD hS => ?_)
  obtain ⟨⟨G9, hG9, hth⟩, hout, ⟨v9, hv9⟩, hLI⟩ := hq4 _ _ _ hKs hq
  refine lv_istore (lv' := [(6, .int b9), (5, .int r9), (4, .int (nI (4 * j))), (0, .ref b), (1, .ref (ad 0)), (2, .ref (ad 208)), (3, .ref (ad 240))]) hx hb dL_law_1510 hl (by decide) rfl (fun ls hl => ?_)
  refine lv_aload_n hx hb dL_law_1512 rfl (lv_at hl 5 rfl) ?_
  refine nVi (As := []) (rest := _) hx hb hml hown hts hP hK hD hZ hA hS hcc hG9.1 rfl (m_thrown l E ad st2 208 G9 hG9) (cwV 0 hts gL_law_X5_thrown rfl rfl rfl (by decide +kernel) ⟨(Nat.le_of_ble_eq_true rfl), (Nat.le_of_ble_eq_true rfl)⟩) hl.1 rfl (Nat.le_of_ble_eq_true rfl) dL_law_1513 (fun r3 st3 H locs hq hP hD hS => ?_)
  obtain ⟨hr3, rfl⟩ := hq
  rw [hth] at hr3
  refine lv_iload hx hb dL_law_1516 (lv_at hl 1 rfl) ?_
  refine lv_icmp_eq (tgt := 1523) hx hb dL_law_1518 (by decide) (fun c1518_0 => ?_) (fun c1518_0 => absurd hr3 c1518_0)
  refine lv_iload hx hb dL_law_1523 (lv_at hl 1 rfl) ?_
  refine lv_if_ne (tgt := 1540) hx hb dL_law_1525 (by decide) (fun c1525_1 => ?_) (fun c1525_1 => ?_)
  · refine lv_goto (tgt := 1598) hx hb dL_law_1540 (by decide) ?_
    exact kk st2 H locs ls hLI hP hD hS (lv_sub hl [2, 3, 4, 5, 6] rfl)
  · refine lv_aload_n hx hb dL_law_1528 rfl (lv_at hl 6 rfl) ?_
    refine lv_iconst (v := 0) hx hb dL_law_1529 (by decide) ?_
    refine nLld hx hb hK hP (hout c1525_1) dL_law_1530 ?_
    refine lv_iload hx hb dL_law_1531 (lv_at hl 0 rfl) ?_
    refine lv_i2l (v := b9.toInt64) hx hb dL_law_1533 rfl ?_
    refine W.lcmp hx hb dL_law_1534 ?_
    refine lv_if_eq (tgt := 1540) hx hb dL_law_1535 (by decide) (fun c1535_2 => ?_) (fun c1535_2 => absurd (lg_self _) c1535_2)
    refine lv_goto (tgt := 1598) hx hb dL_law_1540 (by decide) ?_
    exact kk st2 H locs ls hLI hP hD hS (lv_sub hl [2, 3, 4, 5, 6] rfl)

set_option maxHeartbeats 4000000 in
set_option maxRecDepth 100000 in
theorem lc_obedience {pg : Program} {l : Launch} {en : Env} {s : State} {mi : MethodId} {ar : Array Value} {bw : List Frame} {mth : Method} {cd : Code} {Q : State → Prop} {E : NE} {ad : Nat → Nat} {b L : Nat} {xs : Nat → Int32} (hlt : l.stackTraces = false) (hx : pg.tables.exec = Jvm.exec) (hb : cd.code = cL_law) (hml : cd.maxLocals = 9) (hown : s.vm.findClass RL = some mi.cls) (hts : ∀ w ∈ wsL_law, w.before ar s = true) (hX : va_X b L xs s s.heap) (hbl : b < s.heap.size) (hL : L ≤ 2048) (hK : va_K E.1 vwCl (nTys E) s) (hZ : nZ E (lwA s) s s.heap) (hNC : nNC s) {j : Nat} (hj : 4 * j + 3 < L) {st : NW} {H : Heap} {locs : List Loc} {ls : Array Slot} {cells slots : Nat} (hcc : cells + 1 ≤ room_1.cells ∧ slots + 6 ≤ room_1.slots) (hLI : LI E ad st) (hP : nP E ad st H) (hD : nD (lwA s) ad st) (hS : va_S (lwA s) s.heap H locs) (hl : lv_has ls 9 [(4, .int (nI (4 * j))), (0, .ref b), (1, .ref (ad 0)), (2, .ref (ad 208)), (3, .ref (ad 240))]) (kk : ∀ (st1 : NW) (H1 : Heap) (locs1 : List Loc) (ls1 : Array Slot), LI E ad st1 → nP E ad st1 H1 → nD (lwA s) ad st1 → va_S (lwA s) s.heap H1 locs1 → lv_has ls1 9 [(4, .int (nI (4 * j))), (0, .ref b), (1, .ref (ad 0)), (2, .ref (ad 208)), (3, .ref (ad 240))] → W pg l en room_1 s mi ar bw mth cd H1 locs1 (cells + 1) (slots + 6) Q (F0 mi 1598 ls1 [])) : W pg l en room_1 s mi ar bw mth cd H locs cells slots Q (F0 mi 1543 ls []) := by
  have hA : ∀ q, s.heap.size ≤ q → lwA s q := fun _ h => h
  have hbA : ¬ lwA s b := Nat.not_le.mpr hbl
  refine lv_aload_n hx hb dL_law_1543 rfl (lv_at hl 2 rfl) ?_
  obtain ⟨N, Rs, a, x, C, n, P, th, J, v, hLS⟩ := hLI
  obtain ⟨ha, hxx, hn, hO, hOs, hC, hR, hW, hM, h2⟩ := hLS
  refine nVd (As := []) (rest := _) hx hb hml hown hts hP hK hD hZ hA hS ⟨Nat.le_of_succ_le hcc.1, Nat.le_trans (Nat.le_add_right _ 6) hcc.2⟩ hW.1.1 rfl (c_obedience l E ad st N Rs a x C n ha hxx hn hO.2.1 hW) (cwV 0 hts gL_law_X4_obedience rfl rfl rfl (by decide +kernel) ⟨(Nat.le_of_ble_eq_true rfl), (Nat.le_of_ble_eq_true rfl)⟩) hl.1 rfl (Nat.le_of_ble_eq_true rfl) dL_law_1544 (fun r9 st1 H locs hq hP hD hS => ?_)
  obtain ⟨hr9, hst9⟩ := hq
  subst hst9
  refine lv_dstore (lv' := [(5, .double r9), (4, .int (nI (4 * j))), (0, .ref b), (1, .ref (ad 0)), (2, .ref (ad 208)), (3, .ref (ad 240))]) hx hb dL_law_1547 hl (by decide) rfl (fun ls hl => ?_)
  refine lv_aload_n hx hb dL_law_1549 rfl (lv_at hl 4 rfl) ?_
  refine nVd (As := []) (rest := _) hx hb hml hown hts hP hK hD hZ hA hS ⟨Nat.le_of_succ_le hcc.1, Nat.le_trans (Nat.le_add_right _ 6) hcc.2⟩ hM.1 rfl (m_obedience l E ad st 208 N P a C n th J ha hn hO hM) (cwV 0 hts gL_law_X5_obedience rfl rfl rfl (by decide +kernel) ⟨(Nat.le_of_ble_eq_true rfl), (Nat.le_of_ble_eq_true rfl)⟩) hl.1 rfl (Nat.le_of_ble_eq_true rfl) dL_law_1550 (fun r8 st2 H locs hq hP hD hS => ?_)
  obtain ⟨hr8, ⟨J2, hM⟩, hf8⟩ := hq
  have hW := hW.keep (fun k9 hk9 => hf8 k9 (by omega))
  have h2 := (hf8 240 (by omega)).trans h2
  refine lv_dstore (lv' := [(7, .double r8), (5, .double r9), (4, .int (nI (4 * j))), (0, .ref b), (1, .ref (ad 0)), (2, .ref (ad 208)), (3, .ref (ad 240))]) hx hb dL_law_1553 hl (by decide) rfl (fun ls hl => ?_)
  refine lv_dload hx hb dL_law_1555 (lv_at hl 1 rfl) ?_
  refine lv_dload hx hb dL_law_1557 (lv_at hl 0 rfl) ?_
  refine lv_dcmp hx hb dL_law_1559 ?_
  refine lv_if_eq (tgt := 1581) hx hb dL_law_1560 (by decide) (fun c1560_0 => ?_) (fun c1560_0 => absurd (by rw [hr9, hr8]; exact obV_cmp) c1560_0)
  refine lv_goto (tgt := 1598) hx hb dL_law_1581 (by decide) ?_
  refine W.widen (Nat.le_succ _) (Nat.le_add_right _ 6) ?_
  exact kk st2 H locs ls ⟨N, Rs, a, x, C, n, P, 0, J2, v, ha, hxx, by omega, hO, hOs, hC, hR, hW, hM, h2⟩ hP hD hS (lv_sub hl [2, 3, 4, 5, 6] rfl)

set_option maxHeartbeats 4000000 in
set_option maxRecDepth 100000 in
theorem lc_digest {pg : Program} {l : Launch} {en : Env} {s : State} {mi : MethodId} {ar : Array Value} {bw : List Frame} {mth : Method} {cd : Code} {Q : State → Prop} {E : NE} {ad : Nat → Nat} {b L : Nat} {xs : Nat → Int32} (hlt : l.stackTraces = false) (hx : pg.tables.exec = Jvm.exec) (hb : cd.code = cL_law) (hml : cd.maxLocals = 9) (hown : s.vm.findClass RL = some mi.cls) (hts : ∀ w ∈ wsL_law, w.before ar s = true) (hX : va_X b L xs s s.heap) (hbl : b < s.heap.size) (hL : L ≤ 2048) (hK : va_K E.1 vwCl (nTys E) s) (hZ : nZ E (lwA s) s s.heap) (hNC : nNC s) {j : Nat} (hj : 4 * j + 3 < L) {st : NW} {H : Heap} {locs : List Loc} {ls : Array Slot} {cells slots : Nat} (hcc : cells + 1 ≤ room_1.cells ∧ slots + 6 ≤ room_1.slots) (hLI : LI E ad st) (hP : nP E ad st H) (hD : nD (lwA s) ad st) (hS : va_S (lwA s) s.heap H locs) (hl : lv_has ls 9 [(4, .int (nI (4 * j))), (0, .ref b), (1, .ref (ad 0)), (2, .ref (ad 208)), (3, .ref (ad 240))]) (kk : ∀ (st1 : NW) (H1 : Heap) (locs1 : List Loc) (ls1 : Array Slot), LI E ad st1 → nP E ad st1 H1 → nD (lwA s) ad st1 → va_S (lwA s) s.heap H1 locs1 → lv_has ls1 9 [(4, .int (nI (4 * j))), (0, .ref b), (1, .ref (ad 0)), (2, .ref (ad 208)), (3, .ref (ad 240))] → W pg l en room_1 s mi ar bw mth cd H1 locs1 (cells + 1) (slots + 6) Q (F0 mi 1598 ls1 [])) : W pg l en room_1 s mi ar bw mth cd H locs cells slots Q (F0 mi 1584 ls []) := by
  have hA : ∀ q, s.heap.size ≤ q → lwA s q := fun _ h => h
  have hbA : ¬ lwA s b := Nat.not_le.mpr hbl
  refine lv_aload_n hx hb dL_law_1584 rfl (lv_at hl 2 rfl) ?_
  obtain ⟨N, Rs, a, x, C, n, P, th, J, v, hLS⟩ := hLI
  obtain ⟨ha, hxx, hn, hO, hOs, hC, hR, hW, hM, h2⟩ := hLS
  refine nVl (As := []) (rest := _) hx hb hml hown hts hP hK hD hZ hA hS ⟨Nat.le_of_succ_le hcc.1, Nat.le_trans (Nat.le_add_right _ 6) hcc.2⟩ hW.1.1 rfl (c_digest l E ad st N Rs a x C n ha hxx hn hO.2.1 hW (obV N).toInt64 (obV_bits (okN_ne hO))) (cwV 0 hts gL_law_X4_digest rfl rfl rfl (by decide +kernel) ⟨(Nat.le_of_ble_eq_true rfl), (Nat.le_of_ble_eq_true rfl)⟩) hl.1 rfl (Nat.le_of_ble_eq_true rfl) dL_law_1585 (fun r9 st1 H locs hq hP hD hS => ?_)
  obtain ⟨hr9, hW, hf9⟩ := hq
  have hM := hM.keepP (fun k9 _ _ => hf9 k9 (by omega)) (by decide)
  have h2 := (hf9 240 (by omega)).trans h2
  refine lv_aload_n hx hb dL_law_1588 rfl (lv_at hl 3 rfl) ?_
  refine nVl (As := []) (rest := _) hx hb hml hown hts hP hK hD hZ hA hS ⟨Nat.le_of_succ_le hcc.1, Nat.le_trans (Nat.le_add_right _ 6) hcc.2⟩ hM.1 rfl (m_digest l E ad st1 208 N P a C n th J ha hn hO hM) (cwV 0 hts gL_law_X5_digest rfl rfl rfl (by decide +kernel) ⟨(Nat.le_of_ble_eq_true rfl), (Nat.le_of_ble_eq_true rfl)⟩) hl.1 rfl (Nat.le_of_ble_eq_true rfl) dL_law_1589 (fun r8 st2 H locs hq hP hD hS => ?_)
  obtain ⟨hr8, ⟨J2, hM⟩, hf8⟩ := hq
  have hW := hW.keep (fun k9 hk9 => hf8 k9 (by omega))
  have h2 := (hf8 240 (by omega)).trans h2
  refine W.lcmp hx hb dL_law_1592 ?_
  refine lv_if_eq (tgt := 1598) hx hb dL_law_1593 (by decide) (fun c1593_0 => ?_) (fun c1593_0 => absurd (by rw [hr9, hr8]; exact lg_self _) c1593_0)
  refine W.widen (Nat.le_succ _) (Nat.le_add_right _ 6) ?_
  exact kk st2 H locs ls ⟨N, Rs, a, x, C, n, P, 0, J2, v, ha, hxx, by omega, hO, hOs, hC, hR, hW, hM, h2⟩ hP hD hS (lv_sub hl [0, 1, 2, 3, 4] rfl)

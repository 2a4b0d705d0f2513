theorem nSi {l : Launch} {y : MethodName} {ws ws' : List Cond} {fr lo : Nat} {E : NE} {ad : Nat → Nat} {st : NW} {av : List Value} {post : Int32 → NW → Prop} {cc : ByteArray} {maxL : Nat} (hy : plainName y.cls = true) (hw : ws = Cond.code y cc maxL (some .int) :: ws') (hlen : (lg_sl av).length ≤ maxL)
    (body : ∀ (p : Program) (e : Env) (s : State) (m : MethodId) (args : Array Value) (below : List Frame) (meth : Method) (c : Code) (R : Room) (Q : State → Prop) (A : Nat → Prop) (ls : Array Slot),
      p.tables.exec = Jvm.exec → c.code = cc → c.maxLocals = maxL → s.vm.findClass y.cls = some m.cls → (∀ w ∈ ws, w.before args s = true) → R = nRm fr lo → nP E ad st s.heap → va_K E.1 vwCl (nTys E) s → nD A ad st → nZ E A s s.heap → (∀ q, s.heap.size ≤ q → A q) → lv_has ls maxL (lv_args 0 av) →
      (∀ (H : Heap) (locs : List Loc) (st1 : NW) (r : Int32) (pc : Nat) (ls1 : Array Slot), nP E ad st1 H → nD A ad st1 → va_S A s.heap H locs → post r st1 → decode cc pc = .ok (.ireturn, 1) → W p l e R s m args below meth c H locs 0 0 Q (F0 m pc ls1 [.int r])) →
      W p l e R s m args below meth c s.heap [] 0 0 Q (F0 m 0 ls [])) : nMi l y ws (nRm fr lo) E ad st av post := by
  intro sz
  refine Met.ofW (cc := cc) (maxL := maxL) (ret := some .int) hy hw ?_
  intro p e s m args below meth c s₁ B hml hv
  obtain ⟨rfl, hsz, hP, hK, hD0, hZ0⟩ := hv
  rw [lg_entry_eq]
  subst hsz
  refine body p e s m _ below meth c _ _ (nA ad st s.heap.size) _ B.exec B.bytes hml (findClass_of_methodNamed B.named) (atoms_spec (ws := ws) B.pre) rfl hP hK hD0 hZ0 (fun q h => Or.inr h) (lv_entry av hlen) ?_
  intro H locs st1 r pc ls1 hP1 hD1 hS1 hp hdg
  exact W.iret B.exec B.bytes B.returns (fun t ht hW => ⟨⟨r, st1, rfl, hp, by rw [ht]; exact hP1, va_K.moved hW.alike hK, hD1⟩, hS1.F ht⟩) hS1.2.2 hdg B.notSynchronized
theorem nSd {l : Launch} {y : MethodName} {ws ws' : List Cond} {fr lo : Nat} {E : NE} {ad : Nat → Nat} {st : NW} {av : List Value} {post : UInt64 → NW → Prop} {cc : ByteArray} {maxL : Nat} (hy : plainName y.cls = true) (hw : ws = Cond.code y cc maxL (some .double) :: ws') (hlen : (lg_sl av).length ≤ maxL)
    (body : ∀ (p : Program) (e : Env) (s : State) (m : MethodId) (args : Array Value) (below : List Frame) (meth : Method) (c : Code) (R : Room) (Q : State → Prop) (A : Nat → Prop) (ls : Array Slot),
      p.tables.exec = Jvm.exec → c.code = cc → c.maxLocals = maxL → s.vm.findClass y.cls = some m.cls → (∀ w ∈ ws, w.before args s = true) → R = nRm fr lo → nP E ad st s.heap → va_K E.1 vwCl (nTys E) s → nD A ad st → nZ E A s s.heap → (∀ q, s.heap.size ≤ q → A q) → lv_has ls maxL (lv_args 0 av) →
      (∀ (H : Heap) (locs : List Loc) (st1 : NW) (r : UInt64) (pc : Nat) (ls1 : Array Slot), nP E ad st1 H → nD A ad st1 → va_S A s.heap H locs → post r st1 → decode cc pc = .ok (.dreturn, 1) → W p l e R s m args below meth c H locs 0 0 Q (F0 m pc ls1 [.double r])) →
      W p l e R s m args below meth c s.heap [] 0 0 Q (F0 m 0 ls [])) : nMd l y ws (nRm fr lo) E ad st av post := by
  intro sz
  refine Met.ofW (cc := cc) (maxL := maxL) (ret := some .double) hy hw ?_
  intro p e s m args below meth c s₁ B hml hv
  obtain ⟨rfl, hsz, hP, hK, hD0, hZ0⟩ := hv
  rw [lg_entry_eq]
  subst hsz
  refine body p e s m _ below meth c _ _ (nA ad st s.heap.size) _ B.exec B.bytes hml (findClass_of_methodNamed B.named) (atoms_spec (ws := ws) B.pre) rfl hP hK hD0 hZ0 (fun q h => Or.inr h) (lv_entry av hlen) ?_
  intro H locs st1 r pc ls1 hP1 hD1 hS1 hp hdg
  exact W.dret B.exec B.bytes B.returns (fun t ht hW => ⟨⟨r, st1, rfl, hp, by rw [ht]; exact hP1, va_K.moved hW.alike hK, hD1⟩, hS1.F ht⟩) hS1.2.2 hdg B.notSynchronized
theorem nSv {l : Launch} {y : MethodName} {ws ws' : List Cond} {fr lo : Nat} {E : NE} {ad : Nat → Nat} {st : NW} {av : List Value} {post : NW → Prop} {cc : ByteArray} {maxL : Nat} (hy : plainName y.cls = true) (hw : ws = Cond.code y cc maxL (none) :: ws') (hlen : (lg_sl av).length ≤ maxL)
    (body : ∀ (p : Program) (e : Env) (s : State) (m : MethodId) (args : Array Value) (below : List Frame) (meth : Method) (c : Code) (R : Room) (Q : State → Prop) (A : Nat → Prop) (ls : Array Slot),
      p.tables.exec = Jvm.exec → c.code = cc → c.maxLocals = maxL → s.vm.findClass y.cls = some m.cls → (∀ w ∈ ws, w.before args s = true) → R = nRm fr lo → nP E ad st s.heap → va_K E.1 vwCl (nTys E) s → nD A ad st → nZ E A s s.heap → (∀ q, s.heap.size ≤ q → A q) → lv_has ls maxL (lv_args 0 av) →
      (∀ (H : Heap) (locs : List Loc) (st1 : NW) (pc : Nat) (ls1 : Array Slot), nP E ad st1 H → nD A ad st1 → va_S A s.heap H locs → post st1 → decode cc pc = .ok (.return_, 1) → W p l e R s m args below meth c H locs 0 0 Q (F0 m pc ls1 [])) →
      W p l e R s m args below meth c s.heap [] 0 0 Q (F0 m 0 ls [])) : nMv l y ws (nRm fr lo) E ad st av post := by
  intro sz
  refine Met.ofW (cc := cc) (maxL := maxL) (ret := none) hy hw ?_
  intro p e s m args below meth c s₁ B hml hv
  obtain ⟨rfl, hsz, hP, hK, hD0, hZ0⟩ := hv
  rw [lg_entry_eq]
  subst hsz
  refine body p e s m _ below meth c _ _ (nA ad st s.heap.size) _ B.exec B.bytes hml (findClass_of_methodNamed B.named) (atoms_spec (ws := ws) B.pre) rfl hP hK hD0 hZ0 (fun q h => Or.inr h) (lv_entry av hlen) ?_
  intro H locs st1 pc ls1 hP1 hD1 hS1 hp hdg
  exact W.vret B.exec B.bytes B.returns (fun t ht hW => ⟨⟨st1, rfl, hp, by rw [ht]; exact hP1, va_K.moved hW.alike hK, hD1⟩, hS1.F ht⟩) hS1.2.2 hdg B.notSynchronized
theorem nSz {l : Launch} {y : MethodName} {ws ws' : List Cond} {fr lo : Nat} {E : NE} {ad : Nat → Nat} {st : NW} {av : List Value} {post : Int32 → NW → Prop} {cc : ByteArray} {maxL : Nat} (hy : plainName y.cls = true) (hw : ws = Cond.code y cc maxL (some .boolean) :: ws') (hlen : (lg_sl av).length ≤ maxL)
    (body : ∀ (p : Program) (e : Env) (s : State) (m : MethodId) (args : Array Value) (below : List Frame) (meth : Method) (c : Code) (R : Room) (Q : State → Prop) (A : Nat → Prop) (ls : Array Slot),
      p.tables.exec = Jvm.exec → c.code = cc → c.maxLocals = maxL → s.vm.findClass y.cls = some m.cls → (∀ w ∈ ws, w.before args s = true) → R = nRm fr lo → nP E ad st s.heap → va_K E.1 vwCl (nTys E) s → nD A ad st → nZ E A s s.heap → (∀ q, s.heap.size ≤ q → A q) → lv_has ls maxL (lv_args 0 av) →
      (∀ (H : Heap) (locs : List Loc) (st1 : NW) (r : Int32) (pc : Nat) (ls1 : Array Slot), nP E ad st1 H → nD A ad st1 → va_S A s.heap H locs → post r st1 → (r = 0 ∨ r = 1) → decode cc pc = .ok (.ireturn, 1) → W p l e R s m args below meth c H locs 0 0 Q (F0 m pc ls1 [.int r])) →
      W p l e R s m args below meth c s.heap [] 0 0 Q (F0 m 0 ls [])) : nMi l y ws (nRm fr lo) E ad st av post := by
  intro sz
  refine Met.ofW (cc := cc) (maxL := maxL) (ret := some .boolean) hy hw ?_
  intro p e s m args below meth c s₁ B hml hv
  obtain ⟨rfl, hsz, hP, hK, hD0, hZ0⟩ := hv
  rw [lg_entry_eq]
  subst hsz
  refine body p e s m _ below meth c _ _ (nA ad st s.heap.size) _ B.exec B.bytes hml (findClass_of_methodNamed B.named) (atoms_spec (ws := ws) B.pre) rfl hP hK hD0 hZ0 (fun q h => Or.inr h) (lv_entry av hlen) ?_
  intro H locs st1 r pc ls1 hP1 hD1 hS1 hp h01 hdg
  exact W.zret (ty := .boolean) B.exec B.bytes B.returns (by rcases h01 with h | h <;> rw [h] <;> rfl) (fun t ht hW => ⟨⟨r, st1, rfl, hp, by rw [ht]; exact hP1, va_K.moved hW.alike hK, hD1⟩, hS1.F ht⟩) hS1.2.2 hdg B.notSynchronized
section NROW
variable {p : Program} {l : Launch} {e : Env} {R : Room} {s : State} {m : MethodId} {args : Array Value} {below : List Frame} {meth : Method} {c : Code} {H : Heap} {locs : List Loc} {cells slots : Nat} {Q : State → Prop}
variable {cc : ByteArray} {pc nL : Nat} {ls : Array Slot} {rest stk : List Value} {A : Nat → Prop} {E : NE} {ad : Nat → Nat} {st : NW} {Ts : List Cond} {own : String}
theorem nVi (hx : p.tables.exec = Jvm.exec) (hb : c.code = cc) (hml : c.maxLocals = nL) (hown : s.vm.findClass own = some m.cls) (hts : ∀ w ∈ Ts, w.before args s = true) (hP : nP E ad st H) (hK : va_K E.1 vwCl (nTys E) s) (hD : nD A ad st) (hZ : nZ E A s s.heap) (hA : ∀ q, s.heap.size ≤ q → A q) (hS : va_S A s.heap H locs) (hcs : cells ≤ R.cells ∧ slots ≤ R.slots) {y : MethodName} {bytes : ByteArray} {maxL index fr lo : Nat} {rt : Option FieldType} {ws : List Cond} {As : List Value} {post : Int32 → NW → Prop} {k ci : Nat} {fs : List Value} {C : String} {T : u_T} {N : Nat} (hk : st k = some (.inr (ci, fs))) (hci : vwCl[ci]? = some (C, T, N))
    (hM : nMi l y ws (nRm fr lo) E ad st (.ref (ad k) :: As) post) (cw : CallW R s args own C index y bytes maxL rt ws (nRm fr lo) 0 0 As.length)
    (hls : ls.size = nL) (hstk : stk = As.reverse ++ .ref (ad k) :: rest) (hW : (rest.map fun v => v.category).sum ≤ 8) (hdg : decode cc pc = .ok (.invokevirtual index, 3))
    (kk : ∀ (r : Int32) (st1 : NW) (H1 : Heap) (locs1 : List Loc), post r st1 → nP E ad st1 H1 → nD A ad st1 → va_S A s.heap H1 locs1 → W p l e R s m args below meth c H1 locs1 cells slots Q (F0 m (pc + 3) ls (.int r :: rest))) : W p l e R s m args below meth c H locs cells slots Q (F0 m pc ls stk) := by
  subst hstk
  refine va_calli (va_runV (As := As) (rest := rest) ⟨hx, hb, hml, hown, hts⟩ (hM H.size) cw ⟨nPre.blind, va_recv hK (hP.one hk) hci (q0 := 0) rfl, fun U hU hW => ⟨rfl, by rw [hU], by rw [hU]; exact hP, va_K.moved hW.alike hK, hD.self _, hZ.pass hW hS hU (nA.sub hD hS hA)⟩⟩ rfl rfl hls rfl (lv_room hW) hdg hcs) hS (fun q _ h => nA.sub hD hS hA q h) (nA.sub hD hS hA) (fun r u t H1 locs1 ht hvm hp hB hz hk1 hS1 => ?_)
  obtain ⟨hP1, hK1, hD1⟩ := hB
  exact kk r u H1 locs1 hp (by rw [← ht]; exact hP1) (hD1.weaken (nA.sub hD hS hA)) hS1
theorem nS_i (hx : p.tables.exec = Jvm.exec) (hb : c.code = cc) (hml : c.maxLocals = nL) (hown : s.vm.findClass own = some m.cls) (hts : ∀ w ∈ Ts, w.before args s = true) (hP : nP E ad st H) (hK : va_K E.1 vwCl (nTys E) s) (hD : nD A ad st) (hZ : nZ E A s s.heap) (hA : ∀ q, s.heap.size ≤ q → A q) (hS : va_S A s.heap H locs) (hcs : cells ≤ R.cells ∧ slots ≤ R.slots) {y : MethodName} {bytes : ByteArray} {maxL index fr lo : Nat} {rt : Option FieldType} {ws : List Cond} {As : List Value} {post : Int32 → NW → Prop}
    (hM : nMi l y ws (nRm fr lo) E ad st As post) (cw : CallB R s args own index y bytes maxL rt ws (nRm fr lo) 0 0 As.length ∧ (Cond.static y).before args s = true)
    (hls : ls.size = nL) (hstk : stk = As.reverse ++ rest) (hW : (rest.map fun v => v.category).sum ≤ 8) (hdg : decode cc pc = .ok (.invokestatic index, 3))
    (kk : ∀ (r : Int32) (st1 : NW) (H1 : Heap) (locs1 : List Loc), post r st1 → nP E ad st1 H1 → nD A ad st1 → va_S A s.heap H1 locs1 → W p l e R s m args below meth c H1 locs1 cells slots Q (F0 m (pc + 3) ls (.int r :: rest))) : W p l e R s m args below meth c H locs cells slots Q (F0 m pc ls stk) := by
  subst hstk
  refine va_calli (va_runS (As := As) (rest := rest) ⟨hx, hb, hml, hown, hts⟩ (hM H.size) cw ⟨nPre.blind, fun U hU hW => ⟨rfl, by rw [hU], by rw [hU]; exact hP, va_K.moved hW.alike hK, hD.self _, hZ.pass hW hS hU (nA.sub hD hS hA)⟩⟩ rfl rfl hls rfl (lv_room hW) hdg hcs) hS (fun q _ h => nA.sub hD hS hA q h) (nA.sub hD hS hA) (fun r u t H1 locs1 ht hvm hp hB hz hk1 hS1 => ?_)
  obtain ⟨hP1, hK1, hD1⟩ := hB
  exact kk r u H1 locs1 hp (by rw [← ht]; exact hP1) (hD1.weaken (nA.sub hD hS hA)) hS1
theorem nNi (hx : p.tables.exec = Jvm.exec) (hb : c.code = cc) (hml : c.maxLocals = nL) (hown : s.vm.findClass own = some m.cls) (hts : ∀ w ∈ Ts, w.before args s = true) (hP : nP E ad st H) (hK : va_K E.1 vwCl (nTys E) s) (hD : nD A ad st) (hZ : nZ E A s s.heap) (hA : ∀ q, s.heap.size ≤ q → A q) (hS : va_S A s.heap H locs) (hcs : cells ≤ R.cells ∧ slots ≤ R.slots) {y : MethodName} {bytes : ByteArray} {maxL index fr lo : Nat} {rt : Option FieldType} {ws : List Cond} {As : List Value} {post : Int32 → NW → Prop}
    (hM : nMi l y ws (nRm fr lo) E ad st As post) (cw : va_CN R s args own index y "NeedleGrid" bytes maxL rt ws (nRm fr lo) 0 0 As.length ∧ (Cond.static y).before args s = true ∧ True)
    (hls : ls.size = nL) (hstk : stk = As.reverse ++ rest) (hW : (rest.map fun v => v.category).sum ≤ 8) (hdg : decode cc pc = .ok (.invokestatic index, 3))
    (kk : ∀ (r : Int32) (st1 : NW) (H1 : Heap) (locs1 : List Loc), post r st1 → nP E ad st1 H1 → nD A ad st1 → va_S A s.heap H1 locs1 → W p l e R s m args below meth c H1 locs1 cells slots Q (F0 m (pc + 3) ls (.int r :: rest))) : W p l e R s m args below meth c H locs cells slots Q (F0 m pc ls stk) := by
  subst hstk
  refine va_calli (va_runSN (As := As) (rest := rest) ⟨hx, hb, hml, hown, hts⟩ (hM H.size) cw ⟨nPre.blind, fun U hU hW => ⟨rfl, by rw [hU], by rw [hU]; exact hP, va_K.moved hW.alike hK, hD.self _, hZ.pass hW hS hU (nA.sub hD hS hA)⟩⟩ rfl rfl hls rfl (lv_room hW) hdg hcs) hS (fun q _ h => nA.sub hD hS hA q h) (nA.sub hD hS hA) (fun r u t H1 locs1 ht hvm hp hB hz hk1 hS1 => ?_)
  obtain ⟨hP1, hK1, hD1⟩ := hB
  exact kk r u H1 locs1 hp (by rw [← ht]; exact hP1) (hD1.weaken (nA.sub hD hS hA)) hS1
theorem nVd (hx : p.tables.exec = Jvm.exec) (hb : c.code = cc) (hml : c.maxLocals = nL) (hown : s.vm.findClass own = some m.cls) (hts : ∀ w ∈ Ts, w.before args s = true) (hP : nP E ad st H) (hK : va_K E.1 vwCl (nTys E) s) (hD : nD A ad st) (hZ : nZ E A s s.heap) (hA : ∀ q, s.heap.size ≤ q → A q) (hS : va_S A s.heap H locs) (hcs : cells ≤ R.cells ∧ slots ≤ R.slots) {y : MethodName} {bytes : ByteArray} {maxL index fr lo : Nat} {rt : Option FieldType} {ws : List Cond} {As : List Value} {post : UInt64 → NW → Prop} {k ci : Nat} {fs : List Value} {C : String} {T : u_T} {N : Nat} (hk : st k = some (.inr (ci, fs))) (hci : vwCl[ci]? = some (C, T, N))
    (hM : nMd l y ws (nRm fr lo) E ad st (.ref (ad k) :: As) post) (cw : CallW R s args own C index y bytes maxL rt ws (nRm fr lo) 0 0 As.length)
    (hls : ls.size = nL) (hstk : stk = As.reverse ++ .ref (ad k) :: rest) (hW : (rest.map fun v => v.category).sum ≤ 8) (hdg : decode cc pc = .ok (.invokevirtual index, 3))
    (kk : ∀ (r : UInt64) (st1 : NW) (H1 : Heap) (locs1 : List Loc), post r st1 → nP E ad st1 H1 → nD A ad st1 → va_S A s.heap H1 locs1 → W p l e R s m args below meth c H1 locs1 cells slots Q (F0 m (pc + 3) ls (.double r :: rest))) : W p l e R s m args below meth c H locs cells slots Q (F0 m pc ls stk) := by
  subst hstk
  refine va_calld (va_runV (As := As) (rest := rest) ⟨hx, hb, hml, hown, hts⟩ (hM H.size) cw ⟨nPre.blind, va_recv hK (hP.one hk) hci (q0 := 0) rfl, fun U hU hW => ⟨rfl, by rw [hU], by rw [hU]; exact hP, va_K.moved hW.alike hK, hD.self _, hZ.pass hW hS hU (nA.sub hD hS hA)⟩⟩ rfl rfl hls rfl (lv_room hW) hdg hcs) hS (fun q _ h => nA.sub hD hS hA q h) (nA.sub hD hS hA) (fun r u t H1 locs1 ht hvm hp hB hz hk1 hS1 => ?_)
  obtain ⟨hP1, hK1, hD1⟩ := hB
  exact kk r u H1 locs1 hp (by rw [← ht]; exact hP1) (hD1.weaken (nA.sub hD hS hA)) hS1
theorem nVv (hx : p.tables.exec = Jvm.exec) (hb : c.code = cc) (hml : c.maxLocals = nL) (hown : s.vm.findClass own = some m.cls) (hts : ∀ w ∈ Ts, w.before args s = true) (hP : nP E ad st H) (hK : va_K E.1 vwCl (nTys E) s) (hD : nD A ad st) (hZ : nZ E A s s.heap) (hA : ∀ q, s.heap.size ≤ q → A q) (hS : va_S A s.heap H locs) (hcs : cells ≤ R.cells ∧ slots ≤ R.slots) {y : MethodName} {bytes : ByteArray} {maxL index fr lo : Nat} {rt : Option FieldType} {ws : List Cond} {As : List Value} {post : NW → Prop} {k ci : Nat} {fs : List Value} {C : String} {T : u_T} {N : Nat} (hk : st k = some (.inr (ci, fs))) (hci : vwCl[ci]? = some (C, T, N))
    (hM : nMv l y ws (nRm fr lo) E ad st (.ref (ad k) :: As) post) (cw : CallW R s args own C index y bytes maxL rt ws (nRm fr lo) 0 0 As.length)
    (hls : ls.size = nL) (hstk : stk = As.reverse ++ .ref (ad k) :: rest) (hW : (rest.map fun v => v.category).sum ≤ 8) (hdg : decode cc pc = .ok (.invokevirtual index, 3))
    (kk : ∀ (st1 : NW) (H1 : Heap) (locs1 : List Loc), post st1 → nP E ad st1 H1 → nD A ad st1 → va_S A s.heap H1 locs1 → W p l e R s m args below meth c H1 locs1 cells slots Q (F0 m (pc + 3) ls rest)) : W p l e R s m args below meth c H locs cells slots Q (F0 m pc ls stk) := by
  subst hstk
  refine va_callv (va_runV (As := As) (rest := rest) ⟨hx, hb, hml, hown, hts⟩ (hM H.size) cw ⟨nPre.blind, va_recv hK (hP.one hk) hci (q0 := 0) rfl, fun U hU hW => ⟨rfl, by rw [hU], by rw [hU]; exact hP, va_K.moved hW.alike hK, hD.self _, hZ.pass hW hS hU (nA.sub hD hS hA)⟩⟩ rfl rfl hls rfl (lv_room hW) hdg hcs) hS (fun q _ h => nA.sub hD hS hA q h) (nA.sub hD hS hA) (fun u t H1 locs1 ht hvm hp hB hz hk1 hS1 => ?_)
  obtain ⟨hP1, hK1, hD1⟩ := hB
  exact kk u H1 locs1 hp (by rw [← ht]; exact hP1) (hD1.weaken (nA.sub hD hS hA)) hS1
theorem nS_v (hx : p.tables.exec = Jvm.exec) (hb : c.code = cc) (hml : c.maxLocals = nL) (hown : s.vm.findClass own = some m.cls) (hts : ∀ w ∈ Ts, w.before args s = true) (hP : nP E ad st H) (hK : va_K E.1 vwCl (nTys E) s) (hD : nD A ad st) (hZ : nZ E A s s.heap) (hA : ∀ q, s.heap.size ≤ q → A q) (hS : va_S A s.heap H locs) (hcs : cells ≤ R.cells ∧ slots ≤ R.slots) {y : MethodName} {bytes : ByteArray} {maxL index fr lo : Nat} {rt : Option FieldType} {ws : List Cond} {As : List Value} {post : NW → Prop}
    (hM : nMv l y ws (nRm fr lo) E ad st As post) (cw : CallB R s args own index y bytes maxL rt ws (nRm fr lo) 0 0 As.length ∧ (Cond.static y).before args s = true)
    (hls : ls.size = nL) (hstk : stk = As.reverse ++ rest) (hW : (rest.map fun v => v.category).sum ≤ 8) (hdg : decode cc pc = .ok (.invokestatic index, 3))
    (kk : ∀ (st1 : NW) (H1 : Heap) (locs1 : List Loc), post st1 → nP E ad st1 H1 → nD A ad st1 → va_S A s.heap H1 locs1 → W p l e R s m args below meth c H1 locs1 cells slots Q (F0 m (pc + 3) ls rest)) : W p l e R s m args below meth c H locs cells slots Q (F0 m pc ls stk) := by
  subst hstk
  refine va_callv (va_runS (As := As) (rest := rest) ⟨hx, hb, hml, hown, hts⟩ (hM H.size) cw ⟨nPre.blind, fun U hU hW => ⟨rfl, by rw [hU], by rw [hU]; exact hP, va_K.moved hW.alike hK, hD.self _, hZ.pass hW hS hU (nA.sub hD hS hA)⟩⟩ rfl rfl hls rfl (lv_room hW) hdg hcs) hS (fun q _ h => nA.sub hD hS hA q h) (nA.sub hD hS hA) (fun u t H1 locs1 ht hvm hp hB hz hk1 hS1 => ?_)
  obtain ⟨hP1, hK1, hD1⟩ := hB
  exact kk u H1 locs1 hp (by rw [← ht]; exact hP1) (hD1.weaken (nA.sub hD hS hA)) hS1
end NROW
/-! records: an object whose fields are ints (none), int or boolean arrays of their own (some (kind, length): at the handle behind), or references to a handle (some (9, handle)) -/
abbrev NSc : Type := Nat × List (Option (Nat × Nat))
def rV (ad : Nat → Nat) (b : Nat) (G : Nat → Nat → Int32) : Nat → List (Option (Nat × Nat)) → List Value
  | _, [] => []
  | k, none :: r => .int (G k 0) :: rV ad b G (k + 1) r
  | k, some (z, n) :: r => .ref (ad (if z = 9 then n else b + 1 + k)) :: rV ad b G (k + 1) r
def gu (G : Nat → Nat → Int32) (k : Nat) (f : Nat → Int32) : Nat → Nat → Int32 := fun j => if j = k then f else G j
theorem gu_s {G : Nat → Nat → Int32} {k : Nat} {f : Nat → Int32} : gu G k f k = f := by simp [gu]
theorem gu_n {G : Nat → Nat → Int32} {k j : Nat} {f : Nat → Int32} (h : j ≠ k) : gu G k f j = G j := by simp [gu, h]
def isR (E : NE) (ad : Nat → Nat) (st : NW) (b : Nat) (S : NSc) (G : Nat → Nat → Int32) : Prop := st b = some (.inr (S.1, rV ad b G 0 S.2)) ∧ ∀ k z n : Nat, S.2[k]? = some (some (z, n)) → z ≠ 9 → st (b + 1 + k) = some (.inl (E.2.1 z, n, .inl (G k)))
theorem rV_len {ad : Nat → Nat} {b : Nat} {G : Nat → Nat → Int32} : ∀ (r : List (Option (Nat × Nat))) (i : Nat), (rV ad b G i r).length = r.length
  | [], _ => rfl
  | none :: r, i => by simp [rV, rV_len r]
  | some (z, n) :: r, i => by simp [rV, rV_len r]
theorem rV_gu {ad : Nat → Nat} {b k : Nat} {G : Nat → Nat → Int32} {f : Nat → Int32} : ∀ (r : List (Option (Nat × Nat))) (i : Nat), (∀ j : Nat, r[j]? = some none → i + j ≠ k) → rV ad b (gu G k f) i r = rV ad b G i r
  | [], _, _ => rfl
  | none :: r, i, h => by
    have h0 := h 0 rfl
    simp only [rV]
    rw [gu_n (by omega), rV_gu r (i + 1) (fun j hj => by have := h (j + 1) (by simpa using hj); omega)]
  | some (z, n) :: r, i, h => by
    simp only [rV]
    rw [rV_gu r (i + 1) (fun j hj => by have := h (j + 1) (by simpa using hj); omega)]
theorem rV_set {ad : Nat → Nat} {b : Nat} {G : Nat → Nat → Int32} {v : Int32} : ∀ (r : List (Option (Nat × Nat))) (i j : Nat), r[j]? = some none → (rV ad b G i r).set j (.int v) = rV ad b (gu G (i + j) (fun _ => v)) i r
  | [], _, _, h => by simp at h
  | none :: r, i, 0, _ => by
    simp only [rV, List.set_cons_zero, Nat.add_zero, gu_s]
    rw [rV_gu r (i + 1) (fun j _ => by omega)]
  | some (z, n) :: r, i, 0, h => by simp at h
  | none :: r, i, j + 1, h => by
    simp only [rV, List.set_cons_succ]
    rw [gu_n (by omega), rV_set r (i + 1) j (by simpa using h), show i + 1 + j = i + (j + 1) by omega]
  | some (z, n) :: r, i, j + 1, h => by
    simp only [rV, List.set_cons_succ]
    rw [rV_set r (i + 1) j (by simpa using h), show i + 1 + j = i + (j + 1) by omega]
theorem isR.setA {E : NE} {ad : Nat → Nat} {st : NW} {b : Nat} {S : NSc} {G : Nat → Nat → Int32} (h : isR E ad st b S G) {k z n : Nat} (hk : S.2[k]? = some (some (z, n))) (hz : z ≠ 9) (f : Nat → Int32) : isR E ad (su st (b + 1 + k) (.inl (E.2.1 z, n, .inl f))) b S (gu G k f) := by
  refine ⟨?_, fun j z2 n2 hj hz2 => ?_⟩
  · rw [su_n (by omega), h.1, rV_gu S.2 0 (fun j hj e => by rw [Nat.zero_add] at e; subst e; rw [hk] at hj; cases hj)]
  · by_cases hjk : j = k
    · subst hjk
      cases hk.symm.trans hj
      rw [su_s, gu_s]
    · rw [su_n (by omega), gu_n hjk]
      exact h.2 j z2 n2 hj hz2
theorem isR.setI {E : NE} {ad : Nat → Nat} {st : NW} {b : Nat} {S : NSc} {G : Nat → Nat → Int32} (h : isR E ad st b S G) {k : Nat} (hk : S.2[k]? = some none) (v : Int32) : isR E ad (su st b (.inr (S.1, (rV ad b G 0 S.2).set k (.int v)))) b S (gu G k (fun _ => v)) := by
  refine ⟨?_, fun j z2 n2 hj hz2 => ?_⟩
  · rw [su_s, rV_set S.2 0 k hk, Nat.zero_add]
  · rw [su_n (by omega), gu_n (by intro e; subst e; rw [hk] at hj; cases hj)]
    exact h.2 j z2 n2 hj hz2
/-- what lies outside the record's sixteen handles is as it was -/
def fr (b : Nat) (st st1 : NW) : Prop := ∀ h : Nat, (h < b ∨ b + 16 ≤ h) → st1 h = st h
theorem fr.rf {b : Nat} {st : NW} : fr b st st := fun _ _ => rfl
theorem fr.tr {b : Nat} {st st1 st2 : NW} (h : fr b st st1) (h2 : fr b st1 st2) : fr b st st2 := fun k hk => (h2 k hk).trans (h k hk)
theorem isR.keep {E : NE} {ad : Nat → Nat} {st st1 : NW} {b b2 : Nat} {S : NSc} {G : Nat → Nat → Int32} (h : isR E ad st b2 S G) (hf : fr b st st1) (hb : b2 + 16 ≤ b ∨ b + 16 ≤ b2) (hl : S.2.length ≤ 15) : isR E ad st1 b2 S G := by
  refine ⟨by rw [hf b2 (by omega)]; exact h.1, fun k z n hk hz => ?_⟩
  have hk2 : k < S.2.length := (List.getElem?_eq_some_iff.mp hk).1
  rw [hf _ (by omega)]
  exact h.2 k z n hk hz
theorem isR.eq {E : NE} {ad : Nat → Nat} {st : NW} {b : Nat} {S : NSc} {G G2 : Nat → Nat → Int32} (h : isR E ad st b S G) (e : ∀ k, k < S.2.length → G k = G2 k) : isR E ad st b S G2 := by
  have key : ∀ (r : List (Option (Nat × Nat))) (i : Nat), (∀ k, k < i + r.length → G k = G2 k) → rV ad b G i r = rV ad b G2 i r := by
    intro r
    induction r with
    | nil => intro i _; rfl
    | cons x r ih =>
      intro i hi
      cases x with
      | none =>
        simp only [rV]
        rw [hi i (by simp), ih (i + 1) (fun k hk => hi k (by simp; omega))]
      | some q =>
        obtain ⟨z, n⟩ := q
        simp only [rV]
        rw [ih (i + 1) (fun k hk => hi k (by simp; omega))]
  refine ⟨by rw [h.1, key S.2 0 (fun k hk => e k (by omega))], fun k z n hk hz => ?_⟩
  rw [h.2 k z n hk hz, e k (List.getElem?_eq_some_iff.mp hk).1]
section NREC
variable {p : Program} {l : Launch} {e : Env} {R : Room} {s : State} {m : MethodId} {args : Array Value} {below : List Frame} {meth : Method} {c : Code} {H : Heap} {locs : List Loc} {cells slots : Nat} {Q : State → Prop}
variable {cc : ByteArray} {pc : Nat} {ls : Array Slot} {rest : List Value} {A : Nat → Prop} {E : NE} {ad : Nat → Nat} {st : NW} {Ts : List Cond} {own : String} {H0 : Heap}
/-- getfield -/
theorem rg (hx : p.tables.exec = Jvm.exec) (hb : c.code = cc) {C : String} {T : u_T} {N index : Nat} (hts : ∀ w ∈ Ts, w.before args s = true) (hin : ∀ w ∈ u_ws C T N, w ∈ Ts) (hown : s.vm.findClass own = some m.cls) (hK : va_K E.1 vwCl (nTys E) s) (hP : nP E ad st H) {b : Nat} {S : NSc} {G : Nat → Nat → Int32} (hR : isR E ad st b S G) (hc : vwCl[S.1]? = some (C, T, N)) (k : Nat) (hk : k < N) (hlink : (Cond.fieldLink own index (T k).1 (T k).2.1 (T k).2.2.1).before args s = true) {v : Value} (hv : (rV ad b G 0 S.2)[k]? = some v) (hdg : decode cc pc = .ok (.getfield index, 3))
    (kk : W p l e R s m args below meth c H locs cells slots Q (F0 m (pc + 3) ls (v :: rest))) : W p l e R s m args below meth c H locs cells slots Q (F0 m pc ls (.ref (ad b) :: rest)) :=
  va_get (D := E.1) hx hb hts hin hown hK (hP.one hR.1) 0 rfl hc k hk hlink (fun _ h9 => h9) hv hdg kk
/-- .. of a nest mate's private field -/
theorem rgN (hx : p.tables.exec = Jvm.exec) (hb : c.code = cc) {C host : String} {T : u_T} {N index : Nat} (hts : ∀ w ∈ Ts, w.before args s = true) (hin : ∀ w ∈ u_ws C T N, w ∈ Ts) (hown : s.vm.findClass own = some m.cls) (hK : va_K E.1 vwCl (nTys E) s) (hP : nP E ad st H) {b : Nat} {S : NSc} {G : Nat → Nat → Int32} (hR : isR E ad st b S G) (hc : vwCl[S.1]? = some (C, T, N)) (k : Nat) (hk : k < N) (hlink : va_Nw (.fieldLinkNest own index (T k).1 (T k).2.1 (T k).2.2.1 host) s) {v : Value} (hv : (rV ad b G 0 S.2)[k]? = some v) (hdg : decode cc pc = .ok (.getfield index, 3))
    (kk : W p l e R s m args below meth c H locs cells slots Q (F0 m (pc + 3) ls (v :: rest))) : W p l e R s m args below meth c H locs cells slots Q (F0 m pc ls (.ref (ad b) :: rest)) :=
  va_getN (D := E.1) hx hb hts hin hown hK (hP.one hR.1) 0 rfl hc k hk (va_Nw.use rfl hlink) (fun _ h9 => h9) hv hdg kk
/-- putfield of an int or boolean -/
theorem rp (hx : p.tables.exec = Jvm.exec) (hb : c.code = cc) {C : String} {T : u_T} {N index : Nat} (hts : ∀ w ∈ Ts, w.before args s = true) (hin : ∀ w ∈ u_ws C T N, w ∈ Ts) (ty0 : Nat → FieldType) (hty : ∀ k, k < N → parseFieldDescriptor (T k).2.2.1 = some (ty0 k)) (hnm : ∀ a, a < N → ∀ b, b < N → a ≠ b → (T a).2.1 ≠ (T b).2.1) (hown : s.vm.findClass own = some m.cls) (hK : va_K E.1 vwCl (nTys E) s) (hP : nP E ad st H) (hD : nD A ad st) (hS : va_S A H0 H locs) {b : Nat} {S : NSc} {G : Nat → Nat → Int32} (hR : isR E ad st b S G) (hc : vwCl[S.1]? = some (C, T, N)) (k : Nat) (hk : k < N) (hlink : (Cond.fieldLink own index (T k).1 (T k).2.1 (T k).2.2.1).before args s = true) (hsk : S.2[k]? = some none) (hfin : (T k).2.2.2 = false) {ty : FieldType} {v : Int32} (hd : parseFieldDescriptor (T k).2.2.1 = some ty) (hn : narrow ty (.int v) = .int v) (hfit : fits ty (.int v) = true) (hdg : decode cc pc = .ok (.putfield index, 3))
    (kk : ∀ (st1 : NW) (H1 : Heap) (locs1 : List Loc), isR E ad st1 b S (gu G k (fun _ => v)) → fr b st st1 → nP E ad st1 H1 → nD A ad st1 → va_S A H0 H1 locs1 → W p l e R s m args below meth c H1 locs1 cells slots Q (F0 m (pc + 3) ls rest)) : W p l e R s m args below meth c H locs cells slots Q (F0 m pc ls (.int v :: .ref (ad b) :: rest)) := by
  have hap := va_apart (own := own) hts hin ty0 hty hnm hK hc
  obtain ⟨r, h1, cell, q1, q2, q3, q4⟩ := hP b _ hR.1
  have hr : r = (C, T, N) := Option.some.inj (h1.symm.trans hc)
  subst hr
  obtain ⟨hSl, hfc, kC, hkC, hkind⟩ := hK.1 S.1 _ hc
  obtain ⟨cf, kf, fi, f, hi, hsl⟩ := hSl k hk
  have hlay := hts _ (hin _ (u_in_lay hk))
  unfold u_lay at hlay
  rw [if_neg (by rw [hfin]; decide)] at hlay
  have hst := (u_facts hfc hkC (u_lays hts hin hk) hi).1
  have h6 := u_store hfc hkC hkind hlay hi hd hn hfit
  have hlen : k < (rV ad b G 0 S.2).length := by rw [rV_len]; exact (List.getElem?_eq_some_iff.mp hsk).1
  refine W.putK hx hb (f := f) ⟨hown, hlink, ⟨_, _, _, hi⟩, hst⟩ (by rw [q2]; exact h6) q1 q3 (by rw [hsl]; exact k2_hasslot (q4 k hk)) rfl rfl hdg fun H' e1 e2 e3 => ?_
  rw [hsl] at e1 ⊢
  exact kk _ H' _ (hR.setI hsk v) (fun h hh => su_n (by omega)) (hP.set hD hR.1 ⟨_, hc, t_OB.to (V := updV (vp_V (rV ad b G 0 S.2)) k (.int v)) ⟨_, e1, q2, q3, t_set q4 hap hk _⟩ (fun j _ => vp_updV_set hlen _ j)⟩ e3) (hD.set hR.1) (hS.put e2 e3 (hD.2 b (nn hR.1)))
theorem rpN (hx : p.tables.exec = Jvm.exec) (hb : c.code = cc) {C host : String} {T : u_T} {N index : Nat} (hts : ∀ w ∈ Ts, w.before args s = true) (hin : ∀ w ∈ u_ws C T N, w ∈ Ts) (ty0 : Nat → FieldType) (hty : ∀ k, k < N → parseFieldDescriptor (T k).2.2.1 = some (ty0 k)) (hnm : ∀ a, a < N → ∀ b, b < N → a ≠ b → (T a).2.1 ≠ (T b).2.1) (hown : s.vm.findClass own = some m.cls) (hK : va_K E.1 vwCl (nTys E) s) (hP : nP E ad st H) (hD : nD A ad st) (hS : va_S A H0 H locs) {b : Nat} {S : NSc} {G : Nat → Nat → Int32} (hR : isR E ad st b S G) (hc : vwCl[S.1]? = some (C, T, N)) (k : Nat) (hk : k < N) (hlink : va_Nw (.fieldLinkNest own index (T k).1 (T k).2.1 (T k).2.2.1 host) s) (hsk : S.2[k]? = some none) (hfin : (T k).2.2.2 = false) {ty : FieldType} {v : Int32} (hd : parseFieldDescriptor (T k).2.2.1 = some ty) (hn : narrow ty (.int v) = .int v) (hfit : fits ty (.int v) = true) (hdg : decode cc pc = .ok (.putfield index, 3))
    (kk : ∀ (st1 : NW) (H1 : Heap) (locs1 : List Loc), isR E ad st1 b S (gu G k (fun _ => v)) → fr b st st1 → nP E ad st1 H1 → nD A ad st1 → va_S A H0 H1 locs1 → W p l e R s m args below meth c H1 locs1 cells slots Q (F0 m (pc + 3) ls rest)) : W p l e R s m args below meth c H locs cells slots Q (F0 m pc ls (.int v :: .ref (ad b) :: rest)) := by
  have hap := va_apart (own := own) hts hin ty0 hty hnm hK hc
  obtain ⟨r, h1, cell, q1, q2, q3, q4⟩ := hP b _ hR.1
  have hr : r = (C, T, N) := Option.some.inj (h1.symm.trans hc)
  subst hr
  obtain ⟨hSl, hfc, kC, hkC, hkind⟩ := hK.1 S.1 _ hc
  obtain ⟨cf, kf, fi, f, hi, hsl⟩ := hSl k hk
  have hlay := hts _ (hin _ (u_in_lay hk))
  unfold u_lay at hlay
  rw [if_neg (by rw [hfin]; decide)] at hlay
  have hst := (u_facts hfc hkC (u_lays hts hin hk) hi).1
  have h6 := u_store hfc hkC hkind hlay hi hd hn hfit
  have hlen : k < (rV ad b G 0 S.2).length := by rw [rV_len]; exact (List.getElem?_eq_some_iff.mp hsk).1
  refine va_WputK hx hb (f := f) hown (va_Nw.use rfl hlink) hi hst (by rw [q2]; exact h6) q1 q3 (by rw [hsl]; exact k2_hasslot (q4 k hk)) rfl rfl hdg fun H' e1 e2 e3 => ?_
  rw [hsl] at e1 ⊢
  exact kk _ H' _ (hR.setI hsk v) (fun h hh => su_n (by omega)) (hP.set hD hR.1 ⟨_, hc, t_OB.to (V := updV (vp_V (rV ad b G 0 S.2)) k (.int v)) ⟨_, e1, q2, q3, t_set q4 hap hk _⟩ (fun j _ => vp_updV_set hlen _ j)⟩ e3) (hD.set hR.1) (hS.put e2 e3 (hD.2 b (nn hR.1)))
/-- an int array's place, told by a natural -/
theorem ra (hx : p.tables.exec = Jvm.exec) (hb : c.code = cc) (hK : va_K E.1 vwCl (nTys E) s) (hP : nP E ad st H) {b n j : Nat} {S : NSc} {G : Nat → Nat → Int32} (hR : isR E ad st b S G) (k : Nat) (hk : S.2[k]? = some (some (0, n))) (hj : j < n) (hn : n < 2 ^ 31) (hdg : decode cc pc = .ok (.iaload, 1))
    (kk : W p l e R s m args below meth c H locs cells slots Q (F0 m (pc + 1) ls (.int (G k j) :: rest))) : W p l e R s m args below meth c H locs cells slots Q (F0 m pc ls (.int (nI j) :: .ref (ad (b + 1 + k)) :: rest)) := by
  refine va_iald (D := E.1) hx hb hK (hP.one (hR.2 k 0 n hk (by decide))) 0 0 rfl rfl (vp_in_nI hj hn) hdg ?_
  rw [nI_clamp (by omega)]
  exact kk
theorem raZ (hx : p.tables.exec = Jvm.exec) (hb : c.code = cc) (hK : va_K E.1 vwCl (nTys E) s) (hP : nP E ad st H) {b n j : Nat} {S : NSc} {G : Nat → Nat → Int32} (hR : isR E ad st b S G) (k : Nat) (hk : S.2[k]? = some (some (1, n))) (hj : j < n) (hn : n < 2 ^ 31) (hdg : decode cc pc = .ok (.baload, 1))
    (kk : W p l e R s m args below meth c H locs cells slots Q (F0 m (pc + 1) ls (.int (G k j) :: rest))) : W p l e R s m args below meth c H locs cells slots Q (F0 m pc ls (.int (nI j) :: .ref (ad (b + 1 + k)) :: rest)) := by
  refine va_zald (D := E.1) hx hb hK (hP.one (hR.2 k 1 n hk (by decide))) 0 1 rfl rfl (vp_in_nI hj hn) hdg ?_
  rw [nI_clamp (by omega)]
  exact kk
theorem nast (hx : p.tables.exec = Jvm.exec) (hb : c.code = cc) (hK : va_K E.1 vwCl (nTys E) s) (hP : nP E ad st H) (hD : nD A ad st) (hS : va_S A H0 H locs) {k n : Nat} {f : Nat → Int32} (hk : st k = some (.inl (E.2.1 0, n, .inl f))) {i x : Int32} (hin : vp_in i n) (hdg : decode cc pc = .ok (.iastore, 1))
    (kk : ∀ (H1 : Heap) (locs1 : List Loc), nP E ad (su st k (.inl (E.2.1 0, n, .inl (upd f i.toNatClampNeg x)))) H1 → nD A ad (su st k (.inl (E.2.1 0, n, .inl (upd f i.toNatClampNeg x)))) → va_S A H0 H1 locs1 → W p l e R s m args below meth c H1 locs1 cells slots Q (F0 m (pc + 1) ls rest)) : W p l e R s m args below meth c H locs cells slots Q (F0 m pc ls (.int x :: .int i :: .ref (ad k) :: rest)) := by
  refine W.iast hx hb (hP k _ hk) ((hK.2 0 _ rfl).1 n (fun j => .int (f j))) (fun q => by cases q) (by show ¬ (i < 0 ∨ (arrV _ _ _).slots.size ≤ _); rw [arrV_size]; exact hin) rfl rfl hdg fun H1 e z oq => ?_
  refine kk H1 _ (hP.set hD hk ?_ oq) (hD.set hk) (hS.put z oq (hD.2 k (nn hk)))
  show H1[ad k]? = some (vp_cell _ _)
  rw [e]
  rw [vp_cell_i, vp_cell_i, arrV_store]
  congr 2
  funext q
  by_cases hq : q = i.toNatClampNeg
  · subst hq
    simp [updV, upd]
  · simp [updV, upd, hq]
theorem nzst (hx : p.tables.exec = Jvm.exec) (hb : c.code = cc) (hK : va_K E.1 vwCl (nTys E) s) (hP : nP E ad st H) (hD : nD A ad st) (hS : va_S A H0 H locs) {k n : Nat} {f : Nat → Int32} (hk : st k = some (.inl (E.2.1 1, n, .inl f))) {i x : Int32} (hin : vp_in i n) (hx01 : x = 0 ∨ x = 1) (hdg : decode cc pc = .ok (.bastore, 1))
    (kk : ∀ (H1 : Heap) (locs1 : List Loc), nP E ad (su st k (.inl (E.2.1 1, n, .inl (upd f i.toNatClampNeg x)))) H1 → nD A ad (su st k (.inl (E.2.1 1, n, .inl (upd f i.toNatClampNeg x)))) → va_S A H0 H1 locs1 → W p l e R s m args below meth c H1 locs1 cells slots Q (F0 m (pc + 1) ls rest)) : W p l e R s m args below meth c H locs cells slots Q (F0 m pc ls (.int x :: .int i :: .ref (ad k) :: rest)) := by
  refine W.zast hx hb (hP k _ hk) ((hK.2 1 _ rfl).1 n (fun j => .int (f j))) (fun q => by cases q) (by show ¬ (i < 0 ∨ (arrV _ _ _).slots.size ≤ _); rw [arrV_size]; exact hin) rfl rfl hdg fun H1 e z oq => ?_
  refine kk H1 _ (hP.set hD hk ?_ oq) (hD.set hk) (hS.put z oq (hD.2 k (nn hk)))
  show H1[ad k]? = some (vp_cell _ _)
  rw [e]
  rw [vp_cell_i, vp_cell_i, arrV_store]
  congr 2
  funext q
  by_cases hq : q = i.toNatClampNeg
  · subst hq
    rcases hx01 with h | h <;> subst h <;> simp [updV, upd] <;> rfl
  · simp [updV, upd, hq]
/-- iastore into a record's array -/
theorem rs (hx : p.tables.exec = Jvm.exec) (hb : c.code = cc) (hK : va_K E.1 vwCl (nTys E) s) (hP : nP E ad st H) (hD : nD A ad st) (hS : va_S A H0 H locs) {b n j : Nat} {S : NSc} {G : Nat → Nat → Int32} (hR : isR E ad st b S G) (k : Nat) (hk : S.2[k]? = some (some (0, n))) (hb16 : S.2.length ≤ 15) {x : Int32} (hj : j < n) (hn : n < 2 ^ 31) (hdg : decode cc pc = .ok (.iastore, 1))
    (kk : ∀ (st1 : NW) (H1 : Heap) (locs1 : List Loc), isR E ad st1 b S (gu G k (upd (G k) j x)) → fr b st st1 → nP E ad st1 H1 → nD A ad st1 → va_S A H0 H1 locs1 → W p l e R s m args below meth c H1 locs1 cells slots Q (F0 m (pc + 1) ls rest)) : W p l e R s m args below meth c H locs cells slots Q (F0 m pc ls (.int x :: .int (nI j) :: .ref (ad (b + 1 + k)) :: rest)) := by
  have hk2 : k < S.2.length := (List.getElem?_eq_some_iff.mp hk).1
  refine nast hx hb hK hP hD hS (hR.2 k 0 n hk (by decide)) (vp_in_nI hj hn) hdg fun H1 locs1 hP1 hD1 hS1 => ?_
  rw [nI_clamp (by omega)] at hP1 hD1
  exact kk _ H1 locs1 (hR.setA hk (by decide) _) (fun h hh => su_n (by omega)) hP1 hD1 hS1
theorem rsZ (hx : p.tables.exec = Jvm.exec) (hb : c.code = cc) (hK : va_K E.1 vwCl (nTys E) s) (hP : nP E ad st H) (hD : nD A ad st) (hS : va_S A H0 H locs) {b n j : Nat} {S : NSc} {G : Nat → Nat → Int32} (hR : isR E ad st b S G) (k : Nat) (hk : S.2[k]? = some (some (1, n))) (hb16 : S.2.length ≤ 15) {x : Int32} (hj : j < n) (hn : n < 2 ^ 31) (hx01 : x = 0 ∨ x = 1) (hdg : decode cc pc = .ok (.bastore, 1))
    (kk : ∀ (st1 : NW) (H1 : Heap) (locs1 : List Loc), isR E ad st1 b S (gu G k (upd (G k) j x)) → fr b st st1 → nP E ad st1 H1 → nD A ad st1 → va_S A H0 H1 locs1 → W p l e R s m args below meth c H1 locs1 cells slots Q (F0 m (pc + 1) ls rest)) : W p l e R s m args below meth c H locs cells slots Q (F0 m pc ls (.int x :: .int (nI j) :: .ref (ad (b + 1 + k)) :: rest)) := by
  have hk2 : k < S.2.length := (List.getElem?_eq_some_iff.mp hk).1
  refine nzst hx hb hK hP hD hS (hR.2 k 1 n hk (by decide)) (vp_in_nI hj hn) hx01 hdg fun H1 locs1 hP1 hD1 hS1 => ?_
  rw [nI_clamp (by omega)] at hP1 hD1
  exact kk _ H1 locs1 (hR.setA hk (by decide) _) (fun h hh => su_n (by omega)) hP1 hD1 hS1
/-- an array's contents beyond its length are of no account -/
theorem isR.can (hP : nP E ad st H) (hD : nD A ad st) {b n z : Nat} {S : NSc} {G : Nat → Nat → Int32} (hR : isR E ad st b S G) (k : Nat) (hk : S.2[k]? = some (some (z, n))) (hz : z ≠ 9) (hb16 : S.2.length ≤ 15) {g : Nat → Int32} (hg : ∀ j, j < n → G k j = g j) : ∃ st1, isR E ad st1 b S (gu G k g) ∧ fr b st st1 ∧ nP E ad st1 H ∧ nD A ad st1 := by
  have hk2 : k < S.2.length := (List.getElem?_eq_some_iff.mp hk).1
  have h0 := hR.2 k z n hk hz
  exact ⟨_, hR.setA hk hz g, fun h hh => su_n (by omega), hP.cong hD h0 hg, hD.set h0⟩
/-- a static table of ints, its place told by an index within -/
theorem ngs {nm : String} {t n index : Nat} {f : Nat → Int32} (hx : p.tables.exec = Jvm.exec) (hb : c.code = cc) (h : nZa nm t n f A s s.heap) (hS : va_S A s.heap H locs) (hown : s.vm.findClass own = some m.cls) (hlink : (Cond.fieldLink own index "NeedleGrid" nm "[I").before args s = true) (hdg : decode cc pc = .ok (.getstatic index, 3))
    (kk : W p l e R s m args below meth c H locs cells slots Q (F0 m (pc + 3) ls (.ref t :: rest))) : W p l e R s m args below meth c H locs cells slots Q (F0 m pc ls rest) :=
  va_gets hx hb h.1 hS hown hlink (fun _ h9 => h9) hdg kk
theorem nga {nm : String} {t n : Nat} {f : Nat → Int32} (hx : p.tables.exec = Jvm.exec) (hb : c.code = cc) (h : nZa nm t n f A s s.heap) (hS : va_S A s.heap H locs) {i : Int32} (hin : vp_in i n) (hdg : decode cc pc = .ok (.iaload, 1))
    (kk : W p l e R s m args below meth c H locs cells slots Q (F0 m (pc + 1) ls (.int (f i.toNatClampNeg) :: rest))) : W p l e R s m args below meth c H locs cells slots Q (F0 m pc ls (.int i :: .ref t :: rest)) :=
  va_ti hx hb h.2 hS hin rfl hdg kk
end NREC

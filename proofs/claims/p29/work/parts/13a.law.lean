/-! the law's own methods: what they ask, how they begin, what they call -/
def ISE : String := "java/lang/IllegalStateException"
def nMx (l : Launch) (y : MethodName) (ws : List Cond) (rm : Room) (E : NE) (ad : Nat → Nat) (st : NW) (av : List Value) (post : Int32 → NW → Prop) : Prop := ∀ sz, Met l y ws rm (nPre E ad st sz av) (va_Qi post (nB E ad (nA ad st sz)) (nA ad st sz)) 1 6 (nA ad st sz)
theorem nOfH {l : Launch} {y : MethodName} {ws ws' : List Cond} {rm : Room} {Pc : Array Value → State → Prop} {Qc : Array Value → State → Outcome → State → Prop} {mc ms : Nat} {free : Addr → Prop} {cc : ByteArray} {maxL : Nat} {ret : Option FieldType} {hh : List (Nat × Nat × Nat × Nat)}
    (hy : plainName y.cls = true) (hw : ws = Cond.codeWith y cc maxL ret hh :: ws')
    (body : ∀ p e s m args below meth c s₁, BodyLoose p l y (headSpec ws rm) cc maxL ret e s m args below meth c s₁ → c.maxLocals = maxL → Pc args s →
      W p l e (headSpec ws rm).room s m args below meth c s.heap [] 0 0 (MQ below Qc args s mc ms free) (entryFrame m args maxL)) : Met l y ws rm Pc Qc mc ms free := by
  refine MetFree.of_bodyS (code := cc) (maxLocals := maxL) (ret := ret) hy ?_ ?_
  · intro args s m h hn
    obtain ⟨m9, meth, c, hn9, h1, h2, h3, h4, -, h5, h6, -⟩ := Cond.codeWith_spec (atoms_spec (ws := ws) h _ (by rw [hw]; exact List.mem_cons_self))
    cases hn.symm.trans hn9
    exact ⟨meth, c, h1, h2, h3, h4, h5, h6⟩
  · intro p e s m args below meth c s₁ B hml hP _
    have hh0 : s₁.heap = s.heap := by rw [B.state]; rfl
    obtain ⟨t, a1, o, b1, b2, b3⟩ := body p e s m args below meth c s₁ B hml hP s₁ hh0 (Stand.of_body B)
    exact ⟨t, o, a1, b1, b2, b3⟩
theorem nSh {l : Launch} {y : MethodName} {ws ws' : List Cond} {fr lo : Nat} {E : NE} {ad : Nat → Nat} {st : NW} {av : List Value} {post : Int32 → NW → Prop} {cc : ByteArray} {maxL : Nat} {hh : List (Nat × Nat × Nat × Nat)} (hy : plainName y.cls = true) (hw : ws = Cond.codeWith y cc maxL (some .int) hh :: ws') (hlen : (lg_sl av).length ≤ maxL)
    (body : ∀ (p : Program) (e : Env) (s : State) (m : MethodId) (args : Array Value) (below : List Frame) (meth : Method) (c : Code) (R : Room) (Q : State → Prop) (A : Nat → Prop) (ls : Array Slot),
      p.tables.exec = Jvm.exec → c.code = cc → c.maxLocals = maxL → s.vm.findClass y.cls = some m.cls → (∀ w ∈ ws, w.before args s = true) → R = nRx fr lo → nP E ad st s.heap → va_K E.1 vwCl (nTys E) s → nD A ad st → nZ E A s s.heap → (∀ q, s.heap.size ≤ q → A q) → lv_has ls maxL (lv_args 0 av) → c.exceptionTable.toList = tableOf hh →
      (∀ (H : Heap) (locs : List Loc) (st1 : NW) (r : Int32) (pc : Nat) (ls1 : Array Slot) (c1 s1 : Nat), c1 ≤ 1 → s1 ≤ 6 → nP E ad st1 H → nD A ad st1 → va_S A s.heap H locs → post r st1 → decode cc pc = .ok (.ireturn, 1) → W p l e R s m args below meth c H locs c1 s1 Q (F0 m pc ls1 [.int r])) →
      W p l e R s m args below meth c s.heap [] 0 0 Q (F0 m 0 ls [])) : nMx l y ws (nRx fr lo) E ad st av post := by
  intro sz
  refine nOfH (cc := cc) (maxL := maxL) (ret := some .int) hy hw ?_
  intro p e s m args below meth c s₁ B hml hv
  obtain ⟨rfl, hsz, hP, hK, hD0, hZ0⟩ := hv
  rw [lg_entry_eq]
  subst hsz
  have hts := atoms_spec (ws := ws) B.pre
  refine body p e s m _ below meth c _ _ (nA ad st s.heap.size) _ B.exec B.bytes hml (findClass_of_methodNamed B.named) hts rfl hP hK hD0 hZ0 (fun q h => Or.inr h) (lv_entry av hlen) (vx_table (x := y) B (hts _ (by rw [hw]; exact List.mem_cons_self))) ?_
  intro H locs st1 r pc ls1 c1 s1 h1 h2 hP1 hD1 hS1 hp hdg
  refine W.widen h1 h2 ?_
  exact W.iret B.exec B.bytes B.returns (fun t ht hW => ⟨⟨r, st1, rfl, hp, by rw [ht]; exact hP1, va_K.moved hW.alike hK, hD1⟩, hS1.F ht⟩) hS1.2.2 hdg B.notSynchronized
/-- .. a method without handlers that may make one throwable -/
theorem nSy {l : Launch} {y : MethodName} {ws ws' : List Cond} {fr lo : Nat} {E : NE} {ad : Nat → Nat} {st : NW} {av : List Value} {post : Int32 → NW → Prop} {cc : ByteArray} {maxL : Nat} (hy : plainName y.cls = true) (hw : ws = Cond.code y cc maxL (some .int) :: ws') (hlen : (lg_sl av).length ≤ maxL)
    (body : ∀ (p : Program) (e : Env) (s : State) (m : MethodId) (args : Array Value) (below : List Frame) (meth : Method) (c : Code) (R : Room) (Q : State → Prop) (A : Nat → Prop) (ls : Array Slot),
      p.tables.exec = Jvm.exec → c.code = cc → c.maxLocals = maxL → s.vm.findClass y.cls = some m.cls → (∀ w ∈ ws, w.before args s = true) → R = nRx fr lo → nP E ad st s.heap → va_K E.1 vwCl (nTys E) s → nD A ad st → nZ E A s s.heap → (∀ q, s.heap.size ≤ q → A q) → lv_has ls maxL (lv_args 0 av) →
      (∀ (H : Heap) (locs : List Loc) (st1 : NW) (r : Int32) (pc : Nat) (ls1 : Array Slot) (c1 s1 : Nat), c1 ≤ 1 → s1 ≤ 6 → nP E ad st1 H → nD A ad st1 → va_S A s.heap H locs → post r st1 → decode cc pc = .ok (.ireturn, 1) → W p l e R s m args below meth c H locs c1 s1 Q (F0 m pc ls1 [.int r])) →
      W p l e R s m args below meth c s.heap [] 0 0 Q (F0 m 0 ls [])) : nMx l y ws (nRx fr lo) E ad st av post := by
  intro sz
  refine Met.ofW (cc := cc) (maxL := maxL) (ret := some .int) hy hw ?_
  intro p e s m args below meth c s₁ B hml hv
  obtain ⟨rfl, hsz, hP, hK, hD0, hZ0⟩ := hv
  rw [lg_entry_eq]
  subst hsz
  refine body p e s m _ below meth c _ _ (nA ad st s.heap.size) _ B.exec B.bytes hml (findClass_of_methodNamed B.named) (atoms_spec (ws := ws) B.pre) rfl hP hK hD0 hZ0 (fun q h => Or.inr h) (lv_entry av hlen) ?_
  intro H locs st1 r pc ls1 c1 s1 h1 h2 hP1 hD1 hS1 hp hdg
  refine W.widen h1 h2 ?_
  exact W.iret B.exec B.bytes B.returns (fun t ht hW => ⟨⟨r, st1, rfl, hp, by rw [ht]; exact hP1, va_K.moved hW.alike hK, hD1⟩, hS1.F ht⟩) hS1.2.2 hdg B.notSynchronized
section NLAW
variable {p : Program} {l : Launch} {e : Env} {R : Room} {s : State} {m : MethodId} {args : Array Value} {below : List Frame} {meth : Method} {c : Code} {H : Heap} {locs : List Loc} {cells slots : Nat} {Q : State → Prop}
variable {cc : ByteArray} {pc nL : Nat} {ls : Array Slot} {rest stk : List Value} {A : Nat → Prop} {E : NE} {ad : Nat → Nat} {st : NW} {H0 : Heap} {Ts : List Cond} {own : String}
/-- the law calls one of its own -/
theorem nXS (hx : p.tables.exec = Jvm.exec) (hb : c.code = cc) (hml : c.maxLocals = nL) (hown : s.vm.findClass own = some m.cls) (hts : ∀ w ∈ Ts, w.before args s = true) (hP : nP E ad st H) (hK : va_K E.1 vwCl (nTys E) s) (hD : nD A ad st) (hZ : nZ E A s s.heap) (hA : ∀ q, s.heap.size ≤ q → A q) (hS : va_S A s.heap H locs) (hcs : cells + 1 ≤ R.cells ∧ slots + 6 ≤ R.slots) {y : MethodName} {bytes : ByteArray} {maxL index fr lo : Nat} {hh : List (Nat × Nat × Nat × Nat)} {ws : List Cond} {As : List Value} {post : Int32 → NW → Prop}
    (hM : nMx l y ws (nRx fr lo) E ad st As post) (cw : vx_CSW R s args own index y bytes maxL (some .int) hh ws (nRx fr lo) 1 6 As.length)
    (hls : ls.size = nL) (hstk : stk = As.reverse ++ rest) (hW : (rest.map fun v => v.category).sum ≤ 8) (hdg : decode cc pc = .ok (.invokestatic index, 3))
    (kk : ∀ (r : Int32) (st1 : NW) (H1 : Heap) (locs1 : List Loc), post r st1 → nP E ad st1 H1 → nD A ad st1 → va_S A s.heap H1 locs1 → W p l e R s m args below meth c H1 locs1 (cells + 1) (slots + 6) Q (F0 m (pc + 3) ls (.int r :: rest))) : W p l e R s m args below meth c H locs cells slots Q (F0 m pc ls stk) := by
  subst hstk
  refine va_calli (vx_runSW (As := As) (rest := rest) ⟨hx, hb, hml, hown, hts⟩ (hM H.size) cw ⟨nPre.blind, fun U hU hW => ⟨rfl, by rw [hU], by rw [hU]; exact hP, va_K.moved hW.alike hK, hD.self _, hZ.pass hW hS hU (nA.sub hD hS hA)⟩⟩ rfl rfl hls rfl (lv_room hW) hdg hcs) hS (fun q _ h => nA.sub hD hS hA q h) (nA.sub hD hS hA) (fun r u t H1 locs1 ht hvm hp hB hz hk1 hS1 => ?_)
  obtain ⟨hP1, hK1, hD1⟩ := hB
  exact kk r u H1 locs1 hp (by rw [← ht]; exact hP1) (hD1.weaken (nA.sub hD hS hA)) hS1
theorem nS_x (hx : p.tables.exec = Jvm.exec) (hb : c.code = cc) (hml : c.maxLocals = nL) (hown : s.vm.findClass own = some m.cls) (hts : ∀ w ∈ Ts, w.before args s = true) (hP : nP E ad st H) (hK : va_K E.1 vwCl (nTys E) s) (hD : nD A ad st) (hZ : nZ E A s s.heap) (hA : ∀ q, s.heap.size ≤ q → A q) (hS : va_S A s.heap H locs) (hcs : cells + 1 ≤ R.cells ∧ slots + 6 ≤ R.slots) {y : MethodName} {bytes : ByteArray} {maxL index fr lo : Nat} {rt : Option FieldType} {ws : List Cond} {As : List Value} {post : Int32 → NW → Prop}
    (hM : nMx l y ws (nRx fr lo) E ad st As post) (cw : CallB R s args own index y bytes maxL rt ws (nRx fr lo) 1 6 As.length ∧ (Cond.static y).before args s = true)
    (hls : ls.size = nL) (hstk : stk = As.reverse ++ rest) (hW : (rest.map fun v => v.category).sum ≤ 8) (hdg : decode cc pc = .ok (.invokestatic index, 3))
    (kk : ∀ (r : Int32) (st1 : NW) (H1 : Heap) (locs1 : List Loc), post r st1 → nP E ad st1 H1 → nD A ad st1 → va_S A s.heap H1 locs1 → W p l e R s m args below meth c H1 locs1 (cells + 1) (slots + 6) Q (F0 m (pc + 3) ls (.int r :: rest))) : W p l e R s m args below meth c H locs cells slots Q (F0 m pc ls stk) := by
  subst hstk
  refine va_calli (va_runS (As := As) (rest := rest) ⟨hx, hb, hml, hown, hts⟩ (hM H.size) cw ⟨nPre.blind, fun U hU hW => ⟨rfl, by rw [hU], by rw [hU]; exact hP, va_K.moved hW.alike hK, hD.self _, hZ.pass hW hS hU (nA.sub hD hS hA)⟩⟩ rfl rfl hls rfl (lv_room hW) hdg hcs) hS (fun q _ h => nA.sub hD hS hA q h) (nA.sub hD hS hA) (fun r u t H1 locs1 ht hvm hp hB hz hk1 hS1 => ?_)
  obtain ⟨hP1, hK1, hD1⟩ := hB
  exact kk r u H1 locs1 hp (by rw [← ht]; exact hP1) (hD1.weaken (nA.sub hD hS hA)) hS1
end NLAW

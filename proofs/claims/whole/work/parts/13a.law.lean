/-! the law's own methods: what they ask, how they begin, what they call -/
def IOB : String := "java/lang/IndexOutOfBoundsException"
def IAE : String := "java/lang/IllegalArgumentException"
def ISE : String := "java/lang/IllegalStateException"
def nNC (U : State) : Prop := va_Nc IAE IOB U ∧ va_Nc ISE IOB U ∧ va_Nc ISE IAE U
theorem nNC.moved {u U : State} (hvm : u.vm.Alike U.vm) (h : nNC u) : nNC U := ⟨va_Nc.moved hvm h.1, va_Nc.moved hvm h.2.1, va_Nc.moved hvm h.2.2⟩
def nPreL (E : NE) (ad : Nat → Nat) (st : NW) (sz : Nat) (av : List Value) : Array Value → State → Prop := fun a U => nPre E ad st sz av a U ∧ nNC U
theorem nPreL.blind {E : NE} {ad : Nat → Nat} {st : NW} {sz : Nat} {av : List Value} : FrameBlind (nPreL E ad st sz av) := fun a U g mk h => ⟨nPre.blind a U g mk h.1, nNC.moved (u := U) (U := U.calling g mk a) (Vm.Alike.refl U.vm) h.2⟩
def nMx (l : Launch) (y : MethodName) (ws : List Cond) (rm : Room) (E : NE) (ad : Nat → Nat) (st : NW) (av : List Value) (post : Int32 → NW → Prop) : Prop := ∀ sz, Met l y ws rm (nPreL E ad st sz av) (va_Qi post (nB E ad (nA ad st sz)) (nA ad st sz)) 1 6 (nA ad st sz)
theorem nOfH {l : Launch} {y : MethodName} {ws ws' : List Cond} {rm : Room} {Pc : Array Value → State → Prop} {Qc : Array Value → State → Outcome → State → Prop} {mc ms : Nat} {free : Addr → Prop} {cc : ByteArray} {maxL : Nat} {ret : Option FieldType} {hh : List (Nat × Nat × Nat × Nat)}
    (hy : plainName y.cls = true) (hw : ws = Cond.codeWith y cc maxL ret hh :: ws')
    (body : ∀ p e s m args below meth c s₁, BodyLoose p l y (headSpec ws rm) cc maxL ret e s m args below meth c s₁ → c.maxLocals = maxL → Pc args s →
      W p l e (headSpec ws rm).room s m args below meth c s.heap [] 0 0 (MQ below Qc args s mc ms free) (entryFrame m args maxL)) : Met l y ws rm Pc Qc mc ms free := by
  refine MetFree.of_bodyS (code := cc) (maxLocals := maxL) (ret := ret) hy ?_ ?_
  · intro args s m h hn
    obtain ⟨m9, meth, c, hn9, h1, h2, h3, h4, -, h5, h6, -⟩ := Cond.codeWith_spec (atoms_spec (ws := ws) h _ (by rw [hw]; exact List.mem_cons_self))
    cases hn.symm.trans hn9
    exact ⟨meth, c, h1, h2, h3, h4, h5, h6⟩
  · intro p e s m args below meth c s₁ B hml hP _
    have hh0 : s₁.heap = s.heap := by rw [B.state]; rfl
    obtain ⟨t, a1, o, b1, b2, b3⟩ := body p e s m args below meth c s₁ B hml hP s₁ hh0 (Stand.of_body B)
    exact ⟨t, o, a1, b1, b2, b3⟩
theorem nSh {l : Launch} {y : MethodName} {ws ws' : List Cond} {fr lo : Nat} {E : NE} {ad : Nat → Nat} {st : NW} {av : List Value} {post : Int32 → NW → Prop} {cc : ByteArray} {maxL : Nat} {hh : List (Nat × Nat × Nat × Nat)} (hy : plainName y.cls = true) (hw : ws = Cond.codeWith y cc maxL (some .int) hh :: ws') (hlen : (lg_sl av).length ≤ maxL)
    (body : ∀ (p : Program) (e : Env) (s : State) (m : MethodId) (args : Array Value) (below : List Frame) (meth : Method) (c : Code) (R : Room) (Q : State → Prop) (A : Nat → Prop) (ls : Array Slot),
      p.tables.exec = Jvm.exec → c.code = cc → c.maxLocals = maxL → s.vm.findClass y.cls = some m.cls → (∀ w ∈ ws, w.before args s = true) → R = nRx fr lo → nP E ad st s.heap → va_K E.1 vwCl (nTys E) s → nD A ad st → nZ E A s s.heap → (∀ q, s.heap.size ≤ q → A q) → lv_has ls maxL (lv_args 0 av) → nNC s → c.exceptionTable.toList = tableOf hh →
      (∀ (H : Heap) (locs : List Loc) (st1 : NW) (r : Int32) (pc : Nat) (ls1 : Array Slot) (c1 s1 : Nat), c1 ≤ 1 → s1 ≤ 6 → nP E ad st1 H → nD A ad st1 → va_S A s.heap H locs → post r st1 → decode cc pc = .ok (.ireturn, 1) → W p l e R s m args below meth c H locs c1 s1 Q (F0 m pc ls1 [.int r])) →
      W p l e R s m args below meth c s.heap [] 0 0 Q (F0 m 0 ls [])) : nMx l y ws (nRx fr lo) E ad st av post := by
  intro sz
  refine nOfH (cc := cc) (maxL := maxL) (ret := some .int) hy hw ?_
  intro p e s m args below meth c s₁ B hml hv
  obtain ⟨⟨rfl, hsz, hP, hK, hD0, hZ0⟩, hNC⟩ := hv
  rw [lg_entry_eq]
  subst hsz
  have hts := atoms_spec (ws := ws) B.pre
  refine body p e s m _ below meth c _ _ (nA ad st s.heap.size) _ B.exec B.bytes hml (findClass_of_methodNamed B.named) hts rfl hP hK hD0 hZ0 (fun q h => Or.inr h) (lv_entry av hlen) hNC (vx_table (x := y) B (hts _ (by rw [hw]; exact List.mem_cons_self))) ?_
  intro H locs st1 r pc ls1 c1 s1 h1 h2 hP1 hD1 hS1 hp hdg
  refine W.widen h1 h2 ?_
  exact W.iret B.exec B.bytes B.returns (fun t ht hW => ⟨⟨r, st1, rfl, hp, by rw [ht]; exact hP1, va_K.moved hW.alike hK, hD1⟩, hS1.F ht⟩) hS1.2.2 hdg B.notSynchronized
/-- the place for an answer -/
def outE (E : NE) (v : Int64) : va_E := .inl (E.2.1 3, 1, .inr (.inl (fun _ => v)))
section NLAW
variable {p : Program} {l : Launch} {e : Env} {R : Room} {s : State} {m : MethodId} {args : Array Value} {below : List Frame} {meth : Method} {c : Code} {H : Heap} {locs : List Loc} {cells slots : Nat} {Q : State → Prop}
variable {cc : ByteArray} {pc nL : Nat} {ls : Array Slot} {rest stk : List Value} {A : Nat → Prop} {E : NE} {ad : Nat → Nat} {st : NW} {H0 : Heap} {Ts : List Cond} {own : String}
theorem nLst (hx : p.tables.exec = Jvm.exec) (hb : c.code = cc) (hK : va_K E.1 vwCl (nTys E) s) (hP : nP E ad st H) (hD : nD A ad st) (hS : va_S A H0 H locs) {v x : Int64} (hk : st 240 = some (outE E v)) (hdg : decode cc pc = .ok (.lastore, 1))
    (kk : ∀ (st1 : NW) (H1 : Heap) (locs1 : List Loc), st1 240 = some (outE E x) → one 240 st st1 → nP E ad st1 H1 → nD A ad st1 → va_S A H0 H1 locs1 → W p l e R s m args below meth c H1 locs1 cells slots Q (F0 m (pc + 1) ls rest)) : W p l e R s m args below meth c H locs cells slots Q (F0 m pc ls (.long x :: .int 0 :: .ref (ad 240) :: rest)) := by
  have hin : vp_in 0 1 := (vp_in_nI (by decide) (by decide) : vp_in (nI 0) 1)
  refine W.last hx hb (hP 240 _ hk) ((hK.2 3 (E.2.1 3, .long) rfl).1 1 (fun j => .long v)) (fun q => by cases q) (by show ¬ ((0 : Int32) < 0 ∨ (arrV _ _ _).slots.size ≤ _); rw [arrV_size]; exact hin) rfl rfl hdg fun H1 e z oq => ?_
  refine kk (su st 240 (outE E x)) H1 _ su_s (fun j hj => su_n hj) (hP.set hD hk ?_ oq) (hD.set hk) (hS.put z oq (hD.2 240 (nn hk)))
  refine Eq.trans e ?_
  show some _ = some (vp_cell _ _)
  rfl
theorem nLld (hx : p.tables.exec = Jvm.exec) (hb : c.code = cc) (hK : va_K E.1 vwCl (nTys E) s) (hP : nP E ad st H) {v : Int64} (hk : st 240 = some (outE E v)) (hdg : decode cc pc = .ok (.laload, 1))
    (kk : W p l e R s m args below meth c H locs cells slots Q (F0 m (pc + 1) ls (.long v :: rest))) : W p l e R s m args below meth c H locs cells slots Q (F0 m pc ls (.int 0 :: .ref (ad 240) :: rest)) := by
  have hin : vp_in 0 1 := (vp_in_nI (by decide) (by decide) : vp_in (nI 0) 1)
  exact W.lald (v := .long v) hx hb (hP 240 _ hk) ((hK.2 3 (E.2.1 3, .long) rfl).1 1 (fun j => .long v)) (fun q => by cases q) (by show ¬ ((0 : Int32) < 0 ∨ (arrV _ _ _).slots.size ≤ _); rw [arrV_size]; exact hin) rfl rfl rfl hdg kk
/-- the law calls one of its own -/
theorem nXS (hx : p.tables.exec = Jvm.exec) (hb : c.code = cc) (hml : c.maxLocals = nL) (hown : s.vm.findClass own = some m.cls) (hts : ∀ w ∈ Ts, w.before args s = true) (hP : nP E ad st H) (hK : va_K E.1 vwCl (nTys E) s) (hD : nD A ad st) (hZ : nZ E A s s.heap) (hNC : nNC s) (hA : ∀ q, s.heap.size ≤ q → A q) (hS : va_S A s.heap H locs) (hcs : cells + 1 ≤ R.cells ∧ slots + 6 ≤ R.slots) {y : MethodName} {bytes : ByteArray} {maxL index fr lo : Nat} {hh : List (Nat × Nat × Nat × Nat)} {ws : List Cond} {As : List Value} {post : Int32 → NW → Prop}
    (hM : nMx l y ws (nRx fr lo) E ad st As post) (cw : vx_CSW R s args own index y bytes maxL (some .int) hh ws (nRx fr lo) 1 6 As.length)
    (hls : ls.size = nL) (hstk : stk = As.reverse ++ rest) (hW : (rest.map fun v => v.category).sum ≤ 8) (hdg : decode cc pc = .ok (.invokestatic index, 3))
    (kk : ∀ (r : Int32) (st1 : NW) (H1 : Heap) (locs1 : List Loc), post r st1 → nP E ad st1 H1 → nD A ad st1 → va_S A s.heap H1 locs1 → W p l e R s m args below meth c H1 locs1 (cells + 1) (slots + 6) Q (F0 m (pc + 3) ls (.int r :: rest))) : W p l e R s m args below meth c H locs cells slots Q (F0 m pc ls stk) := by
  subst hstk
  refine va_calli (vx_runSW (As := As) (rest := rest) ⟨hx, hb, hml, hown, hts⟩ (hM H.size) cw ⟨nPreL.blind, fun U hU hW => ⟨⟨rfl, by rw [hU], by rw [hU]; exact hP, va_K.moved hW.alike hK, hD.self _, hZ.pass hW hS hU (nA.sub hD hS hA)⟩, nNC.moved hW.alike hNC⟩⟩ rfl rfl hls rfl (lv_room hW) hdg hcs) hS (fun q _ h => nA.sub hD hS hA q h) (nA.sub hD hS hA) (fun r u t H1 locs1 ht hvm hp hB hz hk1 hS1 => ?_)
  obtain ⟨hP1, hK1, hD1⟩ := hB
  exact kk r u H1 locs1 hp (by rw [← ht]; exact hP1) (hD1.weaken (nA.sub hD hS hA)) hS1
end NLAW

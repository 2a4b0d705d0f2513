/-! throws: contracts of methods that throw, whatever they are asked -/
def nEx : List String := ["java/lang/RuntimeException", "java/lang/Exception"]
def nRx (f n : Nat) : Room := { frames := f, cells := 1, slots := 6, locals := n }
def nXC (E : NE) (ad : Nat → Nat) (A : Nat → Prop) (Ec : String) (post : NW → Prop) : String → State → State → Prop := vx_X post (fun E' u t => E' = Ec ∧ nB E ad A u t) A
def nQ0 : Array Value → State → Outcome → State → Prop := fun _ _ _ _ => False
def nX (l : Launch) (y : MethodName) (ws : List Cond) (rm : Room) (E : NE) (ad : Nat → Nat) (st : NW) (av : List Value) (Ec : String) (post : NW → Prop) : Prop := ∀ sz, vx_Met l y ws rm (nPre E ad st sz av) nQ0 (nXC E ad (nA ad st sz) Ec post) 1 6 (nA ad st sz)
theorem nSx {l : Launch} {y : MethodName} {ws ws' : List Cond} {fr lo : Nat} {E : NE} {ad : Nat → Nat} {st : NW} {av : List Value} {Ec : String} {post : NW → Prop} {cc : ByteArray} {maxL : Nat} {ret : Option FieldType} (hy : plainName y.cls = true) (hw : ws = Cond.code y cc maxL ret :: ws') (hlen : (lg_sl av).length ≤ maxL)
    (body : ∀ (p : Program) (e : Env) (s : State) (m : MethodId) (args : Array Value) (below : List Frame) (meth : Method) (c : Code) (R : Room) (A : Nat → Prop) (ls : Array Slot),
      p.tables.exec = Jvm.exec → c.code = cc → c.maxLocals = maxL → s.vm.findClass y.cls = some m.cls → (∀ w ∈ ws, w.before args s = true) → R = nRx fr lo → nP E ad st s.heap → va_K E.1 vwCl (nTys E) s → nD A ad st → nZ E A s s.heap → (∀ q, s.heap.size ≤ q → A q) → lv_has ls maxL (lv_args 0 av) → meth.locks = false → (∀ x ∈ c.exceptionTable.toList, False) →
      W p l e R s m args below meth c s.heap [] 0 0 (vx_MQ below nQ0 (nXC E ad A Ec post) args s 1 6 A) (F0 m 0 ls [])) : nX l y ws (nRx fr lo) E ad st av Ec post := by
  intro sz
  refine vx_ofW (cc := cc) (maxL := maxL) (ret := ret) hy hw ?_
  intro p e s m args below meth c s₁ B hml htab hv
  obtain ⟨rfl, hsz, hP, hK, hD0, hZ0⟩ := hv
  rw [lg_entry_eq]
  subst hsz
  exact body p e s m _ below meth c _ (nA ad st s.heap.size) _ B.exec B.bytes hml (findClass_of_methodNamed B.named) (atoms_spec (ws := ws) B.pre) rfl hP hK hD0 hZ0 (fun q h => Or.inr h) (lv_entry av hlen) B.notSynchronized htab
section NTHR
variable {p : Program} {l : Launch} {e : Env} {R : Room} {s : State} {m : MethodId} {args : Array Value} {below : List Frame} {meth : Method} {c : Code} {H : Heap} {locs : List Loc} {cells slots : Nat} {Q : State → Prop}
variable {cc : ByteArray} {pc nL : Nat} {ls : Array Slot} {rest stk : List Value} {A : Nat → Prop} {E : NE} {ad : Nat → Nat} {st : NW} {Ts : List Cond} {own : String}
theorem nXB {Ec : String} (hc : va_Nw (.castable Ec Ec) s) (h : nNX s) : ∀ w ∈ [Cond.castable Ec Ec, Cond.declares (Bundle.initS "java/lang/RuntimeException"), Cond.declares (Bundle.initS "java/lang/Exception"), Cond.declares (Bundle.initS "java/lang/Throwable")], w.before args s = true := vx_c (va_Nw.use rfl hc) (vx_c (va_Nw.use rfl h.2.1) (vx_c (va_Nw.use rfl h.2.2.1) (vx_c (va_Nw.use rfl h.2.2.2) vx_n)))
/-- a throw in place -/
theorem nThr (hx : p.tables.exec = Jvm.exec) (hb : c.code = cc) (hlt : l.stackTraces = false) {Ec text : String} {ik is ic sa fr lo : Nat} {post : NW → Prop} (hown : s.vm.findClass own = some m.cls) (hcls : Bundle.fit Ec = true) (hk : (Cond.classLink own ik Ec).before args s = true) (hini : (Cond.initialized Ec).before args s = true) (hstr : vk_R own is text sa s) (hat : ∀ w ∈ vx_atS own ic Ec nEx, w.before args s = true) (hgood : ∀ w ∈ Cond.classLink own ik Ec :: Cond.initialized Ec :: vx_atS own ic Ec nEx, vx_ot w = true)
    (hP : nP E ad st H) (hK : va_K E.1 vwCl (nTys E) s) (hD : nD A ad st) (hZ : nZ E A s s.heap) (hS : va_S A s.heap H locs) (hls : ls.size = c.maxLocals) (d0 : decode cc pc = .ok (.new ik, 3)) (d3 : decode cc (pc + 3) = .ok (.dup, 1)) (d4 : decode cc (pc + 4) = .ok (.ldc is, 2)) (d6 : decode cc (pc + 6) = .ok (.invokespecial ic, 3)) (d9 : decode cc (pc + 9) = .ok (.athrow, 1)) (htab : ∀ x ∈ c.exceptionTable.toList, False)
    (hR : R = nRx fr lo) (hfr : 5 < fr) (hlo : (rest.map fun v => v.category).sum + 82 ≤ lo) (hlocks : meth.locks = false) (hp : post st) :
    W p l e R s m args below meth c H locs 0 0 (vx_MQ below nQ0 (nXC E ad A Ec post) args s 1 6 A) (F0 m pc ls rest) := by
  subst hR
  exact vx_throwS (names := nEx) hx hb hlt hown hcls (by decide +kernel) hk hini hstr hat hgood hZ.2.1.1 hZ.2.1.2.1 hS hls d0 d3 d4 d6 d9 (fun x h => (htab x h).elim) hfr hlo (Nat.le_refl _) (Nat.le_refl _) hlocks
    (fun t hvm hz hq => ⟨st, hp, ⟨rfl, hP.kept hq, va_K.moved hvm hK, hD⟩, Nat.le_trans hS.1 hz, fun q h1 h2 => (hq q (Nat.lt_of_lt_of_le h1 hS.1)).trans (hS.2.1 q h1 h2)⟩) hS.2.2 (Nat.le_refl _) (Nat.le_refl _)
/-- .. a virtual one -/
theorem nTV (hx : p.tables.exec = Jvm.exec) (hb : c.code = cc) (hml : c.maxLocals = nL) (hown : s.vm.findClass own = some m.cls) (hts : ∀ w ∈ Ts, w.before args s = true) (hP : nP E ad st H) (hK : va_K E.1 vwCl (nTys E) s) (hD : nD A ad st) (hZ : nZ E A s s.heap) (hA : ∀ q, s.heap.size ≤ q → A q) (hS : va_S A s.heap H locs) (hcs : cells + 1 ≤ R.cells ∧ slots + 6 ≤ R.slots) {y : MethodName} {bytes : ByteArray} {maxL index fr lo : Nat} {rt : Option FieldType} {ws : List Cond} {As : List Value} {Ec : String} {post : NW → Prop} {k ci : Nat} {fs : List Value} {C : String} {T : u_T} {N : Nat} (hk : st k = some (.inr (ci, fs))) (hci : vwCl[ci]? = some (C, T, N))
    (hM : nX l y ws (nRx fr lo) E ad st (.ref (ad k) :: As) Ec post) (cw : CallW R s args own C index y bytes maxL rt ws (nRx fr lo) 1 6 As.length)
    (hls : ls.size = nL) (hstk : stk = As.reverse ++ .ref (ad k) :: rest) (hW : (rest.map fun v => v.category).sum ≤ 8) (hdg : decode cc pc = .ok (.invokevirtual index, 3))
    (kx : ∀ (q : Addr) (ce : Cell) (st1 : NW) (H1 : Heap) (locs1 : List Loc), post st1 → nP E ad st1 H1 → nD A ad st1 → va_S A s.heap H1 locs1 → H1[q]? = some ce → ce.vm = .none → s.vm.findClass Ec = some ce.cls → vx_W p l e R s m args below meth c H1 locs1 (cells + 1) (slots + 6) Q (F0 m pc ls rest) q) : W p l e R s m args below meth c H locs cells slots Q (F0 m pc ls stk) := by
  subst hstk
  intro T hT X
  rcases vx_runV (As := As) (rest := rest) (g := F0 m pc ls (As.reverse ++ .ref (ad k) :: rest)) ⟨hx, hb, hml, hown, hts⟩ (hM H.size) cw ⟨nPre.blind, va_recv hK (hP.one hk) hci (q0 := 0) rfl, fun U hU hW => ⟨rfl, by rw [hU], by rw [hU]; exact hP, va_K.moved hW.alike hK, hD.self _, hZ.pass hW hS hU (nA.sub hD hS hA)⟩⟩ rfl rfl hls rfl (lv_room hW) hdg hcs T hT X with ⟨v, st₀, t, T', L, h0, X', hL, e1, e2, hq, st⟩ | ⟨q, st₀, t, T', L, E9, ce, h0, X', hL, e1, e2, ⟨u, hp, ⟨rfl, hB⟩, hF⟩, hce, hcv, hcl, st⟩
  · exact absurd hq id
  · obtain ⟨k1, k2, k3⟩ := vx_keep h0 e1 hS (fun q _ h => nA.sub hD hS hA q h) (nA.sub hD hS hA) hL hF
    obtain ⟨hP1, hK1, hD1⟩ := hB
    obtain ⟨t2, a1, b1⟩ := kx q ce u T'.heap (locs ++ L) hp (by rw [e1]; exact hP1) (hD1.weaken (nA.sub hD hS hA)) k3 (by rw [e1]; exact hce) hcv hcl T' rfl X'
    exact ⟨t2, st.trans a1, b1⟩
end NTHR

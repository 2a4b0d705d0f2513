/-! constructors: worlds that grow under a fixed ad -/
def nRc (f c sl n : Nat) : Room := { frames := f, cells := c, slots := sl, locals := n }
def one (h : Nat) (st st1 : NW) : Prop := ∀ j : Nat, j ≠ h → st1 j = st j
def nPreC (E : NE) (ad : Nat → Nat) (st : NW) (sz : Nat) (av : List Value) : Array Value → State → Prop := va_Pc av (fun U => U.heap.size = sz ∧ nP E ad st U.heap ∧ va_K E.1 vwCl (nTys E) U ∧ nD (nA ad st sz) ad st ∧ nZ E (nA ad st sz) U U.heap ∧ va_AO RX2 U)
theorem nPreC.blind {E : NE} {ad : Nat → Nat} {st : NW} {sz : Nat} {av : List Value} : FrameBlind (nPreC E ad st sz av) := by
  intro a U g mk h
  obtain ⟨h1, h2, h3, h4, h5, h6, h7⟩ := h
  exact ⟨h1, h2, h3, va_K.moved (u := U) (U := U.calling g mk a) (Vm.Alike.refl U.vm) h4, h5, h6.same (u := U) (U := U.calling g mk a) rfl rfl, va_AO.moved (u := U) (U := U.calling g mk a) (Vm.Alike.refl U.vm) h7⟩
def nCt (l : Launch) (y : MethodName) (ws : List Cond) (rm : Room) (E : NE) (ad : Nat → Nat) (st : NW) (sz mc ms : Nat) (av : List Value) (post : NW → Prop) : Prop := Met l y ws rm (nPreC E ad st sz av) (va_Qv post (fun st' t => nB E ad (nA ad st sz) st' t ∧ t.heap.size = sz + mc) (nA ad st sz)) mc ms (nA ad st sz)
theorem nSc {l : Launch} {y : MethodName} {ws ws' : List Cond} {fr lo sz mc ms : Nat} {E : NE} {ad : Nat → Nat} {st : NW} {av : List Value} {post : NW → Prop} {cc : ByteArray} {maxL : Nat} (hy : plainName y.cls = true) (hyn : y.name = "<init>") (hw : ws = Cond.code y cc maxL (none) :: ws') (hlen : (lg_sl av).length ≤ maxL)
    (body : ∀ (p : Program) (e : Env) (s : State) (m : MethodId) (args : Array Value) (below : List Frame) (meth : Method) (c : Code) (R : Room) (Q : State → Prop) (A : Nat → Prop) (ls : Array Slot),
      p.tables.exec = Jvm.exec → c.code = cc → c.maxLocals = maxL → s.vm.findClass y.cls = some m.cls → (∀ w ∈ ws, w.before args s = true) → R = nRc fr mc ms lo → nP E ad st s.heap → va_K E.1 vwCl (nTys E) s → nD A ad st → nZ E A s s.heap → (∀ q, s.heap.size ≤ q → A q) → lv_has ls maxL (lv_args 0 av) → va_AO RX2 s → meth.name = "<init>" → s.heap.size = sz →
      (∀ (H : Heap) (locs : List Loc) (st1 : NW) (pc : Nat) (ls1 : Array Slot), nP E ad st1 H → nD A ad st1 → va_S A s.heap H locs → post st1 → H.size = sz + mc → decode cc pc = .ok (.return_, 1) → W p l e R s m args below meth c H locs mc ms Q (F0 m pc ls1 [])) →
      W p l e R s m args below meth c s.heap [] 0 0 Q (F0 m 0 ls [])) : nCt l y ws (nRc fr mc ms lo) E ad st sz mc ms av post := by
  refine Met.ofW (cc := cc) (maxL := maxL) (ret := none) hy hw ?_
  intro p e s m args below meth c s₁ B hml hv
  obtain ⟨rfl, hsz, hP, hK, hD0, hZ0, hAO⟩ := hv
  rw [lg_entry_eq]
  refine body p e s m _ below meth c _ _ (nA ad st sz) _ B.exec B.bytes hml (findClass_of_methodNamed B.named) (atoms_spec (ws := ws) B.pre) rfl hP hK hD0 hZ0 (fun q h => Or.inr (hsz ▸ h)) (lv_entry av hlen) hAO ((name_of_methodNamed B.named B.method).1.trans hyn) hsz ?_
  intro H locs st1 pc ls1 hP1 hD1 hS1 hp hz1 hdg
  exact W.vret B.exec B.bytes B.returns (fun t ht hW => ⟨⟨st1, rfl, hp, ⟨by rw [ht]; exact hP1, va_K.moved hW.alike hK, hD1⟩, by rw [ht]; exact hz1⟩, hS1.F ht⟩) hS1.2.2 hdg B.notSynchronized
section NCT
variable {p : Program} {l : Launch} {e : Env} {R : Room} {s : State} {m : MethodId} {args : Array Value} {below : List Frame} {meth : Method} {c : Code} {H : Heap} {locs : List Loc} {cells slots : Nat} {Q : State → Prop}
variable {cc : ByteArray} {pc nL : Nat} {ls : Array Slot} {rest stk : List Value} {A : Nat → Prop} {E : NE} {ad : Nat → Nat} {st : NW} {H0 : Heap} {Ts : List Cond} {own : String}
/-- a fresh array of ints (kind 0) or booleans (kind 1) -/
theorem nNewA (hx : p.tables.exec = Jvm.exec) (hb : c.code = cc) {atype : ArrayType} {z : Nat} (hz : (atype = .int ∧ z = 0) ∨ (atype = .boolean ∧ z = 1)) (harr : (Cond.arrayClass (newarray.typeOf atype)).before args s = true) (hK : va_K E.1 vwCl (nTys E) s) (hP : nP E ad st H) (hD : nD A ad st) (hS : va_S A H0 H locs) (hA : ∀ q, H0.size ≤ q → A q) {h N : Nat} (ha : ad h = H.size) {n : Int32} (hn : ¬ n < 0) (hN : n.toNatClampNeg = N) (hbytes : N * 4 ≤ 536870912) (hcells : cells + 1 ≤ R.cells) (hslots : slots + N ≤ R.slots) (hdg : decode cc pc = .ok (.newarray atype, 2))
    (kk : ∀ (st1 : NW) (H1 : Heap), st1 h = some (.inl (E.2.1 z, N, .inl (fun _ => 0))) → one h st st1 → nP E ad st1 H1 → nD A ad st1 → va_S A H0 H1 locs → H1.size = H.size + 1 → W p l e R s m args below meth c H1 locs (cells + 1) (slots + N) Q (F0 m (pc + 2) ls (.ref (ad h) :: rest))) : W p l e R s m args below meth c H locs cells slots Q (F0 m pc ls (.int n :: rest)) := by
  have key : ∀ (H1 : Heap) (e1 : H1[H.size]? = some (arrV (E.2.1 z) N (fun _ => .int 0))) (z1 : H1.size = H.size + 1) (o1 : ∀ q, q < H.size → H1[q]? = H[q]?), W p l e R s m args below meth c H1 locs (cells + 1) (slots + N) Q (F0 m (pc + 2) ls (.ref (ad h) :: rest)) := fun H1 e1 z1 o1 =>
    kk _ H1 su_s (fun j hj => su_n hj) (hP.grow o1 (by rw [ha]; exact e1)) (hD.grow hP ha (hA _ (by rw [ha]; exact hS.1))) ⟨Nat.le_trans hS.1 (by omega), fun x h1 h2 => (o1 x (Nat.lt_of_lt_of_le h1 hS.1)).trans (hS.2.1 x h1 h2), hS.2.2⟩ z1
  rcases hz with ⟨rfl, rfl⟩ | ⟨rfl, rfl⟩
  · refine va_newaK (atype := .int) hx hb harr rfl hdg rfl hn hN hbytes hcells hslots rfl fun H1 cA e1 z1 o1 hAr hNm => ?_
    have hc : cA = E.2.1 0 := Option.some.inj (hNm.symm.trans (hK.2 0 (E.2.1 0, .int) rfl).2)
    subst hc
    have := key H1 e1 z1 o1
    rw [ha] at this
    exact this
  · refine va_newaK (atype := .boolean) hx hb harr rfl hdg rfl hn hN (by show N * 1 ≤ _; omega) hcells hslots rfl fun H1 cA e1 z1 o1 hAr hNm => ?_
    have hc : cA = E.2.1 1 := Option.some.inj (hNm.symm.trans (hK.2 1 (E.2.1 1, .boolean) rfl).2)
    subst hc
    have := key H1 e1 z1 o1
    rw [ha] at this
    exact this
/-- a fresh object -/
theorem nNewO (hx : p.tables.exec = Jvm.exec) (hb : c.code = cc) {C : String} {T : u_T} {N ci index : Nat} (hts : ∀ w ∈ Ts, w.before args s = true) (hin : ∀ w ∈ u_ws C T N, w ∈ Ts) (ty : Nat → FieldType) (hty : ∀ k, k < N → parseFieldDescriptor (T k).2.2.1 = some (ty k)) (hown : s.vm.findClass own = some m.cls) (hcl : (Cond.classLink own index C).before args s = true) (hinst : (Cond.instantiable C N).before args s = true) (hini : (Cond.initialized C).before args s = true)
    (hK : va_K E.1 vwCl (nTys E) s) (hP : nP E ad st H) (hD : nD A ad st) (hS : va_S A H0 H locs) (hA : ∀ q, H0.size ≤ q → A q) (hc : vwCl[ci]? = some (C, T, N)) {fs : List Value} (hfs : ∀ j, j < N → defaultValue (ty j) = vp_V fs j) {h : Nat} (ha : ad h = H.size) (hcells : cells + 1 ≤ R.cells) (hslots : slots + N ≤ R.slots) (hdg : decode cc pc = .ok (.new index, 3))
    (kk : ∀ (st1 : NW) (H1 : Heap), st1 h = some (.inr (ci, fs)) → one h st st1 → nP E ad st1 H1 → nD A ad st1 → va_S A H0 H1 locs → H1.size = H.size + 1 → W p l e R s m args below meth c H1 locs (cells + 1) (slots + N) Q (F0 m (pc + 3) ls (.ref (ad h) :: rest))) : W p l e R s m args below meth c H locs cells slots Q (F0 m pc ls rest) := by
  have hKn := hK.1 ci _ hc
  refine W.newcK hx hb hown hcl hinst hini rfl hdg hcells hslots hKn.2.1 rfl fun H1 kC hkC e1 z1 o1 => ?_
  have he : va_at E.1 vwCl (ad h, .inr (ci, fs)) H1 := by rw [ha]; exact ⟨_, hc, (u_born ty hts hin hKn hkC e1 hty).to hfs⟩
  have := kk _ H1 su_s (fun j hj => su_n hj) (hP.grow o1 he) (hD.grow hP ha (hA _ (by rw [ha]; exact hS.1))) ⟨Nat.le_trans hS.1 (by omega), fun x h1 h2 => (o1 x (Nat.lt_of_lt_of_le h1 hS.1)).trans (hS.2.1 x h1 h2), hS.2.2⟩ z1
  rw [ha] at this
  exact this
/-- a final field, in a constructor -/
theorem nPutF (hx : p.tables.exec = Jvm.exec) (hb : c.code = cc) {C : String} {T : u_T} {N ci index : Nat} (hts : ∀ w ∈ Ts, w.before args s = true) (hin : ∀ w ∈ u_ws C T N, w ∈ Ts) (ty0 : Nat → FieldType) (hty : ∀ k, k < N → parseFieldDescriptor (T k).2.2.1 = some (ty0 k)) (hnm : ∀ a, a < N → ∀ b, b < N → a ≠ b → (T a).2.1 ≠ (T b).2.1) (hown : s.vm.findClass own = some m.cls) (hK : va_K E.1 vwCl (nTys E) s) (hP : nP E ad st H) (hD : nD A ad st) (hS : va_S A H0 H locs) {b : Nat} {fs : List Value} (he : st b = some (.inr (ci, fs))) (hc : vwCl[ci]? = some (C, T, N)) (k : Nat) (hk : k < N) (hlink : (Cond.fieldLink own index (T k).1 (T k).2.1 (T k).2.2.1).before args s = true) (hfin : (T k).2.2.2 = true) (hin2 : meth.name = "<init>") (hdecl : (T k).1 = own) {v : Value} (hn : narrow (ty0 k) v = v) (hfit : fits (ty0 k) v = true) (hl : k < fs.length) (hdg : decode cc pc = .ok (.putfield index, 3))
    (kk : ∀ (st1 : NW) (H1 : Heap) (locs1 : List Loc), st1 b = some (.inr (ci, fs.set k v)) → one b st st1 → nP E ad st1 H1 → nD A ad st1 → va_S A H0 H1 locs1 → H1.size = H.size → W p l e R s m args below meth c H1 locs1 cells slots Q (F0 m (pc + 3) ls rest)) : W p l e R s m args below meth c H locs cells slots Q (F0 m pc ls (v :: .ref (ad b) :: rest)) := by
  have hap := va_apart (own := own) hts hin ty0 hty hnm hK hc
  obtain ⟨r, h1, cell, q1, q2, q3, q4⟩ := hP b _ he
  have hr : r = (C, T, N) := Option.some.inj (h1.symm.trans hc)
  subst hr
  obtain ⟨hSl, hfc, kC, hkC, hkind⟩ := hK.1 ci _ hc
  obtain ⟨cf, kf, fi, f, hi, hsl⟩ := hSl k hk
  have hlay := hts _ (hin _ (u_in_lay hk))
  unfold u_lay at hlay
  rw [if_pos hfin] at hlay
  have hst := (u_facts hfc hkC (u_lays hts hin hk) hi).1
  have hcf : m.cls = cf := by
    obtain ⟨_, _, c', _, _, _, -, -, hf', -, -, -, hown2, -⟩ := Cond.laysFinal_spec hlay
    have e1 : c' = cf := by have := hi.symm.trans hf'; simp at this; exact this.1.symm
    rw [hdecl] at hown2
    rw [← e1]; exact Option.some.inj (hown.symm.trans hown2)
  have h6 := u_fits hfc hkC hkind (Or.inr hlay) hi (hty k hk) hn hfit
  refine W.putFinK hx hb hown hlink hi hst hcf hin2 (by rw [q2]; exact h6) q1 q3 (by rw [hsl]; exact k2_hasslot (q4 k hk)) rfl rfl hdg fun H' e1 e2 e3 => ?_
  rw [hsl] at e1 ⊢
  exact kk _ H' _ su_s (fun j hj => su_n hj) (hP.set hD he ⟨_, hc, t_OB.to (V := updV (vp_V fs) k v) ⟨_, e1, q2, q3, t_set q4 hap hk v⟩ (fun j _ => vp_updV_set hl v j)⟩ e3) (hD.set he) (hS.put e2 e3 (hD.2 b (nn he))) e2
end NCT

/-! an object under way: its fields' values, and the arrays that are made already -/
def pR (E : NE) (ad : Nat → Nat) (st : NW) (b ci : Nat) (fs : List Value) (keys : List (Nat × Nat × Nat)) (F : Nat → Nat → Int32) : Prop := st b = some (.inr (ci, fs)) ∧ ∀ q ∈ keys, st (b + 1 + q.1) = some (.inl (E.2.1 q.2.1, q.2.2, .inl (F q.1)))
theorem pR.isR {E : NE} {ad : Nat → Nat} {st : NW} {b : Nat} {S : NSc} {keys : List (Nat × Nat × Nat)} {F : Nat → Nat → Int32} (h : pR E ad st b S.1 (rV ad b F 0 S.2) keys F) (hk : ∀ k z n : Nat, S.2[k]? = some (some (z, n)) → z ≠ 9 → (k, z, n) ∈ keys) : isR E ad st b S F := ⟨h.1, fun k z n h1 h2 => h.2 (k, z, n) (hk k z n h1 h2)⟩
theorem pR.cong {E : NE} {ad : Nat → Nat} {st : NW} {b ci : Nat} {fs : List Value} {keys : List (Nat × Nat × Nat)} {F G : Nat → Nat → Int32} (h : pR E ad st b ci fs keys F) (e : ∀ q ∈ keys, F q.1 = G q.1) : pR E ad st b ci fs keys G := ⟨h.1, fun q hq => by rw [← e q hq]; exact h.2 q hq⟩
section NFI
variable {p : Program} {l : Launch} {e : Env} {R : Room} {s : State} {m : MethodId} {args : Array Value} {below : List Frame} {meth : Method} {c : Code} {H : Heap} {locs : List Loc} {cells slots : Nat} {Q : State → Prop}
variable {cc : ByteArray} {pc nL : Nat} {ls : Array Slot} {rest stk : List Value} {A : Nat → Prop} {E : NE} {ad : Nat → Nat} {st st0 : NW} {Ts : List Cond} {own : String}
/-- the size is known -/
theorem wSz {g : JFrame} (hge : s.heap.size + cells ≤ H.size) (kk : H.size = s.heap.size + cells → W p l e R s m args below meth c H locs cells slots Q g) : W p l e R s m args below meth c H locs cells slots Q g := wSize fun hle => kk (Nat.le_antisymm hle hge)
theorem pR.new {b ci k z n : Nat} {fs : List Value} {keys : List (Nat × Nat × Nat)} {F : Nat → Nat → Int32} {st1 : NW} (h : pR E ad st b ci fs keys F) (h1 : one (b + 1 + k) st st1) (hn : st1 (b + 1 + k) = some (.inl (E.2.1 z, n, .inl (F k)))) (hnk : ∀ q ∈ keys, q.1 ≠ k) : pR E ad st1 b ci fs ((k, z, n) :: keys) F :=
  ⟨(h1 _ ne_b).trans h.1, fun q hq => by
    rcases List.mem_cons.mp hq with rfl | hq
    · exact hn
    · exact (h1 _ (ne_h (hnk q hq))).trans (h.2 q hq)⟩
theorem pR.put {b ci k : Nat} {fs : List Value} {keys : List (Nat × Nat × Nat)} {F : Nat → Nat → Int32} {st1 : NW} {v : Value} (h : pR E ad st b ci fs keys F) (h1 : one b st st1) (hn : st1 b = some (.inr (ci, fs.set k v))) : pR E ad st1 b ci (fs.set k v) keys F :=
  ⟨hn, fun q hq => (h1 _ ne_c).trans (h.2 q hq)⟩
/-- a fresh array into a final field -/
theorem nField (hx : p.tables.exec = Jvm.exec) (hb : c.code = cc) {atype : ArrayType} {z : Nat} (hz : (atype = .int ∧ z = 0) ∨ (atype = .boolean ∧ z = 1)) (harr : (Cond.arrayClass (newarray.typeOf atype)).before args s = true) (hK : va_K E.1 vwCl (nTys E) s) (hP : nP E ad st H) (hD : nD A ad st) (hS : va_S A s.heap H locs) (hA : ∀ q, s.heap.size ≤ q → A q)
    {C : String} {T : u_T} {N ci index : Nat} (hts : ∀ w ∈ Ts, w.before args s = true) (hin : ∀ w ∈ u_ws C T N, w ∈ Ts) (ty0 : Nat → FieldType) (hty : ∀ k, k < N → parseFieldDescriptor (T k).2.2.1 = some (ty0 k)) (hnm : ∀ a, a < N → ∀ b, b < N → a ≠ b → (T a).2.1 ≠ (T b).2.1) (hown : s.vm.findClass own = some m.cls) {b k ln : Nat} {fs : List Value} {keys : List (Nat × Nat × Nat)} {F : Nat → Nat → Int32} (hp : pR E ad st b ci fs keys F) (hf : fr b st0 st) (hge : s.heap.size + cells ≤ H.size) (ha : ad (b + 1 + k) = s.heap.size + cells) (hk15 : k < 15) (hF : F k = fun _ => 0) (hnk : ∀ q ∈ keys, q.1 ≠ k)
    {n : Int32} (hn : ¬ n < 0) (hN : n.toNatClampNeg = ln) (hbytes : ln * 4 ≤ 536870912) (hcells : cells + 1 ≤ R.cells) (hslots : slots + ln ≤ R.slots) (hdg : decode cc pc = .ok (.newarray atype, 2))
    (hc : vwCl[ci]? = some (C, T, N)) (hk : k < N) (hlink : (Cond.fieldLink own index (T k).1 (T k).2.1 (T k).2.2.1).before args s = true) (hfin : (T k).2.2.2 = true) (hin2 : meth.name = "<init>") (hdecl : (T k).1 = own) (hnar : narrow (ty0 k) (.ref (ad (b + 1 + k))) = .ref (ad (b + 1 + k))) (hfit : fits (ty0 k) (.ref (ad (b + 1 + k))) = true) (hl : k < fs.length) (hdg2 : decode cc (pc + 2) = .ok (.putfield index, 3))
    (kk : ∀ (st1 : NW) (H1 : Heap) (locs1 : List Loc), pR E ad st1 b ci (fs.set k (.ref (ad (b + 1 + k)))) ((k, z, ln) :: keys) F → fr b st0 st1 → nP E ad st1 H1 → nD A ad st1 → va_S A s.heap H1 locs1 → s.heap.size + (cells + 1) ≤ H1.size → W p l e R s m args below meth c H1 locs1 (cells + 1) (slots + ln) Q (F0 m (pc + 5) ls rest)) : W p l e R s m args below meth c H locs cells slots Q (F0 m pc ls (.int n :: .ref (ad b) :: rest)) := by
  refine wSz hge fun hsz => ?_
  refine nNewA (h := b + 1 + k) hx hb hz harr hK hP hD hS hA (ha.trans hsz.symm) hn hN hbytes hcells hslots hdg fun st1 H1 hn1 h1 hP hD hS hz1 => ?_
  have hp := hp.new h1 (by rw [hF]; exact hn1) hnk
  have hf := hf.oneA h1 hk15
  refine nPutF hx hb hts hin ty0 hty hnm hown hK hP hD hS hp.1 hc k hk hlink hfin hin2 hdecl hnar hfit hl hdg2 fun st2 H2 locs2 hn2 h2 hP hD hS hz2 => ?_
  exact kk st2 H2 locs2 (hp.put h2 hn2) (hf.oneB h2) hP hD hS (by rw [hz2, hz1, hsz]; exact Nat.le_refl _)
end NFI

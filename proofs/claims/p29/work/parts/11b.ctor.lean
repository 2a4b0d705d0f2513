/-! the heap has no more cells than were made; a ring; a fresh grid -/
section NSZ
variable {p : Program} {l : Launch} {e : Env} {R : Room} {s : State} {m : MethodId} {args : Array Value} {below : List Frame} {meth : Method} {c : Code} {H : Heap} {locs : List Loc} {cells slots : Nat} {Q : State → Prop}
variable {cc : ByteArray} {pc nL : Nat} {ls : Array Slot} {rest stk : List Value} {A : Nat → Prop} {E : NE} {ad : Nat → Nat} {st : NW} {H0 : Heap} {Ts : List Cond} {own : String}
theorem wSize {g : JFrame} (kk : H.size ≤ s.heap.size + cells → W p l e R s m args below meth c H locs cells slots Q g) : W p l e R s m args below meth c H locs cells slots Q g := fun T hT X => kk (by rw [← hT]; exact X.heapSize) T hT X
theorem wNum {g : JFrame} {c2 s2 : Nat} (h1 : cells = c2) (h2 : slots = s2) (kk : W p l e R s m args below meth c H locs c2 s2 Q g) : W p l e R s m args below meth c H locs cells slots Q g := by subst h1; subst h2; exact kk
/-- a call of a constructor -/
theorem nIc (hx : p.tables.exec = Jvm.exec) (hb : c.code = cc) (hml : c.maxLocals = nL) (hown : s.vm.findClass own = some m.cls) (hts : ∀ w ∈ Ts, w.before args s = true) (hP : nP E ad st H) (hK : va_K E.1 vwCl (nTys E) s) (hD : nD A ad st) (hZ : nZ E A s s.heap) (hAO : va_AO RX2 s) (hA : ∀ q, s.heap.size ≤ q → A q) (hS : va_S A s.heap H locs) {sz mc ms : Nat} (hsz : H.size = sz) (hcs : cells + mc ≤ R.cells ∧ slots + ms ≤ R.slots) {y : MethodName} {bytes : ByteArray} {maxL index fr lo : Nat} {ws : List Cond} {k : Nat} {post : NW → Prop}
    (hM : nCt l y ws (nRc fr mc ms lo) E ad st sz mc ms [.ref (ad k)] post) (cw : CallB R s args own index y bytes maxL none ws (nRc fr mc ms lo) mc ms 0 ∧ y.name = "<init>" ∧ (Cond.instanceMethod y).before args s = true)
    (hls : ls.size = nL) (hW : (rest.map fun v => v.category).sum ≤ 8) (hdg : decode cc pc = .ok (.invokespecial index, 3))
    (kk : ∀ (st1 : NW) (H1 : Heap) (locs1 : List Loc), post st1 → nP E ad st1 H1 → nD A ad st1 → va_S A s.heap H1 locs1 → H1.size = sz + mc → W p l e R s m args below meth c H1 locs1 (cells + mc) (slots + ms) Q (F0 m (pc + 3) ls rest)) : W p l e R s m args below meth c H locs cells slots Q (F0 m pc ls (.ref (ad k) :: rest)) := by
  subst hsz
  refine va_callv (va_runI (As := []) (rest := rest) ⟨hx, hb, hml, hown, hts⟩ hM cw ⟨nPreC.blind, fun U hU hW => ⟨rfl, by rw [hU], by rw [hU]; exact hP, va_K.moved hW.alike hK, hD.self _, hZ.pass hW hS hU (nA.sub hD hS hA), va_AO.moved hW.alike hAO⟩⟩ rfl rfl hls rfl (lv_room hW) hdg hcs) hS (fun q _ h => nA.sub hD hS hA q h) (nA.sub hD hS hA) (fun u t H1 locs1 ht hvm hp hB hz hk1 hS1 => ?_)
  obtain ⟨⟨hP1, hK1, hD1⟩, hz1⟩ := hB
  exact kk u H1 locs1 hp (by rw [← ht]; exact hP1) (hD1.weaken (nA.sub hD hS hA)) hS1 (by rw [← ht]; exact hz1)
/-- .. of a nest mate's private one -/
theorem nIN (hx : p.tables.exec = Jvm.exec) (hb : c.code = cc) (hml : c.maxLocals = nL) (hown : s.vm.findClass own = some m.cls) (hts : ∀ w ∈ Ts, w.before args s = true) (hP : nP E ad st H) (hK : va_K E.1 vwCl (nTys E) s) (hD : nD A ad st) (hZ : nZ E A s s.heap) (hAO : va_AO RX2 s) (hA : ∀ q, s.heap.size ≤ q → A q) (hS : va_S A s.heap H locs) {sz mc ms : Nat} (hsz : H.size = sz) (hcs : cells + mc ≤ R.cells ∧ slots + ms ≤ R.slots) {y : MethodName} {bytes : ByteArray} {maxL index fr lo : Nat} {ws : List Cond} {k : Nat} {post : NW → Prop}
    (hM : nCt l y ws (nRc fr mc ms lo) E ad st sz mc ms [.ref (ad k)] post) (cw : va_CN R s args own index y "NeedleGrid" bytes maxL none ws (nRc fr mc ms lo) mc ms 0 ∧ y.name = "<init>" ∧ (Cond.instanceMethod y).before args s = true)
    (hls : ls.size = nL) (hW : (rest.map fun v => v.category).sum ≤ 8) (hdg : decode cc pc = .ok (.invokespecial index, 3))
    (kk : ∀ (st1 : NW) (H1 : Heap) (locs1 : List Loc), post st1 → nP E ad st1 H1 → nD A ad st1 → va_S A s.heap H1 locs1 → H1.size = sz + mc → W p l e R s m args below meth c H1 locs1 (cells + mc) (slots + ms) Q (F0 m (pc + 3) ls rest)) : W p l e R s m args below meth c H locs cells slots Q (F0 m pc ls (.ref (ad k) :: rest)) := by
  subst hsz
  refine va_callv (va_runIN (As := []) (rest := rest) ⟨hx, hb, hml, hown, hts⟩ hM cw ⟨nPreC.blind, fun U hU hW => ⟨rfl, by rw [hU], by rw [hU]; exact hP, va_K.moved hW.alike hK, hD.self _, hZ.pass hW hS hU (nA.sub hD hS hA), va_AO.moved hW.alike hAO⟩⟩ rfl rfl hls rfl (lv_room hW) hdg hcs) hS (fun q _ h => nA.sub hD hS hA q h) (nA.sub hD hS hA) (fun u t H1 locs1 ht hvm hp hB hz hk1 hS1 => ?_)
  obtain ⟨⟨hP1, hK1, hD1⟩, hz1⟩ := hB
  exact kk u H1 locs1 hp (by rw [← ht]; exact hP1) (hD1.weaken (nA.sub hD hS hA)) hS1 (by rw [← ht]; exact hz1)
/-- a store into a raw int array -/
theorem nastC (hx : p.tables.exec = Jvm.exec) (hb : c.code = cc) (hK : va_K E.1 vwCl (nTys E) s) (hP : nP E ad st H) (hD : nD A ad st) (hS : va_S A H0 H locs) {k n : Nat} {f : Nat → Int32} (hk : st k = some (.inl (E.2.1 0, n, .inl f))) {j : Nat} {x : Int32} (hj : j < n) (hn : n < 2 ^ 31) (hdg : decode cc pc = .ok (.iastore, 1))
    (kk : ∀ (st1 : NW) (H1 : Heap) (locs1 : List Loc), st1 k = some (.inl (E.2.1 0, n, .inl (upd f j x))) → one k st st1 → nP E ad st1 H1 → nD A ad st1 → va_S A H0 H1 locs1 → W p l e R s m args below meth c H1 locs1 cells slots Q (F0 m (pc + 1) ls rest)) : W p l e R s m args below meth c H locs cells slots Q (F0 m pc ls (.int x :: .int (nI j) :: .ref (ad k) :: rest)) := by
  refine nast hx hb hK hP hD hS hk (vp_in_nI hj hn) hdg fun H1 locs1 hP1 hD1 hS1 => ?_
  rw [nI_clamp (by omega)] at hP1 hD1
  exact kk _ H1 locs1 su_s (fun j hj => su_n hj) hP1 hD1 hS1
/-- a fresh ring -/
theorem nNewQ (hx : p.tables.exec = Jvm.exec) (hb : c.code = cc) {index : Nat} (hown : s.vm.findClass own = some m.cls) (hclink : (Cond.classLink own index RX2).before args s = true) (hover : va_AO RX2 s) (hK : va_K E.1 vwCl (nTys E) s) (hP : nP E ad st H) (hD : nD A ad st) (hS : va_S A H0 H locs) (hA : ∀ q, H0.size ≤ q → A q) {h : Nat} (ha : ad h = H.size) (hcells : cells + 1 ≤ R.cells) (hslots : slots + 6 ≤ R.slots) (hdg : decode cc pc = .ok (.anewarray index, 3))
    (kk : ∀ (st1 : NW) (H1 : Heap), st1 h = some (.inl (E.2.1 2, 6, .inr (.inr (.inr (.inr (fun _ => none)))))) → one h st st1 → nP E ad st1 H1 → nD A ad st1 → va_S A H0 H1 locs → W p l e R s m args below meth c H1 locs (cells + 1) (slots + 6) Q (F0 m (pc + 3) ls (.ref (ad h) :: rest))) : W p l e R s m args below meth c H locs cells slots Q (F0 m pc ls (.int 6 :: rest)) := by
  refine W.anew hx hb hown hclink (va_AO.use hover) rfl hdg rfl (n := 6) (by decide) (by decide) hcells (by show slots + 6 ≤ _; exact hslots) fun cA kA comp f1 f2 f3 f4 => ?_
  have hc : cA = E.2.1 2 := by
    obtain ⟨kB, cB, g2, g3, g4, g1⟩ := (hK.2 2 (E.2.1 2, .object RX2) rfl).2
    exact Option.some.inj (f1.symm.trans g1)
  subst hc
  have hN : ((6 : Int32).toNatClampNeg) = 6 := by decide
  rw [hN]
  generalize hH1 : H.push ({ cls := E.2.1 2, slots := Array.replicate 6 .null, vm := .none } : Cell) = H1
  have z1 : H1.size = H.size + 1 := by rw [← hH1, Array.size_push]
  have e1 : H1[H.size]? = some (arrV (E.2.1 2) 6 (fun _ => .null)) := by rw [← hH1, Array.getElem?_push_size, ← arrV_new]
  have o1 : ∀ q : Nat, q < H.size → H1[q]? = H[q]? := fun q hq => by rw [← hH1, Array.getElem?_push, if_neg (Nat.ne_of_lt hq)]
  have := kk _ H1 su_s (fun j hj => su_n hj) (hP.grow o1 (by rw [ha]; exact e1)) (hD.grow hP ha (hA _ (by rw [ha]; exact hS.1))) ⟨Nat.le_trans hS.1 (by omega), fun x h1 h2 => (o1 x (Nat.lt_of_lt_of_le h1 hS.1)).trans (hS.2.1 x h1 h2), hS.2.2⟩
  rw [ha] at this
  exact this
/-- a grid into the ring -/
theorem nAstq (hx : p.tables.exec = Jvm.exec) (hb : c.code = cc) (hK : va_K E.1 vwCl (nTys E) s) (hP : nP E ad st H) (hD : nD A ad st) (hS : va_S A H0 H locs) {k hv j : Nat} {f : Nat → Option Nat} {vs : List Value} (hk : st k = some (.inl (E.2.1 2, 6, .inr (.inr (.inr (.inr f)))))) (hvv : st hv = some (.inr (2, vs))) (hj : j < 6) (hdg : decode cc pc = .ok (.aastore, 1))
    (kk : ∀ (st1 : NW) (H1 : Heap) (locs1 : List Loc), st1 k = some (.inl (E.2.1 2, 6, .inr (.inr (.inr (.inr (va_up f j (some (ad hv)))))))) → one k st st1 → nP E ad st1 H1 → nD A ad st1 → va_S A H0 H1 locs1 → W p l e R s m args below meth c H1 locs1 cells slots Q (F0 m (pc + 1) ls rest)) : W p l e R s m args below meth c H locs cells slots Q (F0 m pc ls (.ref (ad hv) :: .int (nI j) :: .ref (ad k) :: rest)) := by
  have hin : vp_in (nI j) 6 := vp_in_nI hj (by decide)
  have hlt : (nI j).toNatClampNeg < 6 := Nat.not_le.mp fun q => hin (Or.inr q)
  have h0 : ¬ nI j < 0 := fun q => hin (Or.inl q)
  obtain ⟨r', hr', cellV, g1, g2, g3, -⟩ := hP hv _ hvv
  have hcls := (hK.1 2 (RX2, TX2, 13) rfl).2
  obtain ⟨kA, comp, k1, k2, k3, -⟩ := (hK.2 2 (E.2.1 2, .object RX2) rfl).2
  have hcomp : comp = E.1.1 2 := Option.some.inj (k3.symm.trans hcls.1)
  subst hcomp
  obtain ⟨kC, hkC, -⟩ := hcls.2
  refine W.aast hx hb (hP k _ hk) (fun q h => by cases h) (fun h => by cases h) k1 k2 rfl hkC ⟨h0, by show _ < (arrV _ _ _).slots.size; rw [arrV_size]; exact hlt⟩ g1 (fun q h => by rw [g3] at h; cases h) (by rw [g2]; exact hkC) (by rw [g2]; exact va_assign hcls) rfl rfl hdg fun H1 e z oq => ?_
  refine kk _ H1 _ su_s (fun j hj => su_n hj) (hP.set hD hk ?_ oq) (hD.set hk) (hS.put z oq (hD.2 k (nn hk)))
  show H1[ad k]? = some (vp_cell _ _)
  rw [e]
  rw [vp_cell_q, vp_cell_q, arrV_store, nI_clamp (by omega)]
  congr 2
  funext q
  by_cases hq : q = j
  · subst hq
    simp [updV, va_up, va_rf]
  · simp [updV, va_up, hq]
end NSZ
def gArr (ad : Nat → Nat) (b a : Nat) : Prop := ad (b + 1 + 0) = a ∧ ad (b + 1 + 1) = a + 1 ∧ ad (b + 1 + 2) = a + 2 ∧ ad (b + 1 + 3) = a + 3 ∧ ad (b + 1 + 4) = a + 4 ∧ ad (b + 1 + 5) = a + 5 ∧ ad (b + 1 + 9) = a + 6 ∧ ad (b + 1 + 10) = a + 7 ∧ ad (b + 1 + 11) = a + 8 ∧ ad (b + 1 + 12) = a + 9
def N0 : Nat → Int32 := fun i => if i = 0 then 20 else if i = 1 then 2 else if i = 2 then 3 else if 6 ≤ i ∧ i < 42 then 6 else if 42 ≤ i ∧ i < 78 then 10 else 0
def G0 : Nat → Nat → Int32 := fun k => if k = 5 then upd (upd (upd (fun _ => 0) 0 20) 1 2) 2 3 else fun _ => 0
theorem G0_N : maG (gu (gu G0 1 (fil (fun _ => 10) (G0 1) 36)) 0 (fil (fun _ => 6) (G0 0) 36)) = gN N0 := by
  refine maG_eq fun k hk => ?_
  have z : ∀ o, 78 ≤ o → (fun _ => 0 : Nat → Int32) = mk 36 (fun j => N0 (o + j)) := fun o ho => by
    funext j
    unfold mk N0
    split
    · dsimp only
      rw [if_neg (by omega), if_neg (by omega), if_neg (by omega), if_neg (by omega), if_neg (by omega)]
    · rfl
  match k, hk with
  | 0, _ =>
    funext j
    show (if j < 36 then (6 : Int32) else 0) = mk 36 (fun j => N0 (6 + j)) j
    unfold mk N0
    split
    · dsimp only
      rw [if_neg (by omega), if_neg (by omega), if_neg (by omega), if_pos (by omega)]
    · rfl
  | 1, _ =>
    funext j
    show (if j < 36 then (10 : Int32) else 0) = mk 36 (fun j => N0 (42 + j)) j
    unfold mk N0
    split
    · dsimp only
      rw [if_neg (by omega), if_neg (by omega), if_neg (by omega), if_neg (by omega), if_pos (by omega)]
    · rfl
  | 2, _ => exact z 78 (by omega)
  | 3, _ => exact z 114 (by omega)
  | 4, _ => exact z 150 (by omega)
  | 5, _ =>
    funext j
    show upd (upd (upd (fun _ => 0) 0 20) 1 2) 2 3 j = mk 3 N0 j
    match j with
    | 0 => rfl
    | 1 => rfl
    | 2 => rfl
    | j + 3 =>
      rw [upd_n (by omega), upd_n (by omega), upd_n (by omega)]
      unfold mk
      rw [if_neg (by omega)]
  | 6, _ => rfl
  | 7, _ => rfl
  | 8, _ => rfl
  | k + 9, h => exact (gB_hi N0 (by omega)).symm
theorem ne_h {b i j : Nat} (h : i ≠ j) : b + 1 + i ≠ b + 1 + j := fun q => h (Nat.add_left_cancel q)
theorem ne_b {b i : Nat} : b ≠ b + 1 + i := by omega
theorem ne_c {b i : Nat} : b + 1 + i ≠ b := by omega
theorem fr.oneB {b : Nat} {st s1 s2 : NW} (h : fr b st s1) (h1 : one b s1 s2) : fr b st s2 := fun j hj => (h1 j (by omega)).trans (h j hj)
theorem fr.oneA {b k : Nat} {st s1 s2 : NW} (h : fr b st s1) (h1 : one (b + 1 + k) s1 s2) (hk : k < 15) : fr b st s2 := fun j hj => (h1 j (by omega)).trans (h j hj)


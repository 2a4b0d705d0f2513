/-! WORLDS BY HANDLES: a handle's address is 'ad', what it holds is 'st'; E: the class ids, the array class ids by kind (0 int, 1 boolean, 2 Grid, 3 long), the statics' arrays (0 ACROSS, 1 DOWN, 2 MOST_OF_SETTING) -/
abbrev NE : Type := va_G × (Nat → ClassId) × (Nat → Nat)
abbrev NW : Type := Nat → Option va_E
def nTys (E : NE) : List (ClassId × FieldType) := [(E.2.1 0, .int), (E.2.1 1, .boolean), (E.2.1 2, .object RX2)]
def nP (E : NE) (ad : Nat → Nat) (st : NW) (H : Heap) : Prop := ∀ (h : Nat) (e : va_E), st h = some e → va_at E.1 vwCl (ad h, e) H
def nD (A : Nat → Prop) (ad : Nat → Nat) (st : NW) : Prop := (∀ i j : Nat, st i ≠ none → st j ≠ none → ad i = ad j → i = j) ∧ ∀ h : Nat, st h ≠ none → A (ad h)
def nA (ad : Nat → Nat) (st : NW) (sz : Nat) : Nat → Prop := fun q => (∃ h : Nat, st h ≠ none ∧ ad h = q) ∨ sz ≤ q
def su (st : NW) (h : Nat) (e : va_E) : NW := fun j => if j = h then some e else st j
theorem su_s {st : NW} {h : Nat} {e : va_E} : su st h e h = some e := by simp [su]
theorem su_n {st : NW} {h j : Nat} {e : va_E} (hj : j ≠ h) : su st h e j = st j := by simp [su, hj]
theorem su_dom {st : NW} {h j : Nat} {e e0 : va_E} (hk : st h = some e0) : su st h e j ≠ none ↔ st j ≠ none := by
  by_cases hj : j = h
  · subst hj; simp [su, hk]
  · simp [su, hj]
theorem nn {st : NW} {h : Nat} {e : va_E} (hk : st h = some e) : st h ≠ none := by rw [hk]; exact fun z => by cases z
theorem nP.one {E : NE} {ad : Nat → Nat} {st : NW} {H : Heap} (h : nP E ad st H) {k : Nat} {e : va_E} (hk : st k = some e) : va_P E.1 vwCl [(ad k, e)] H := by
  intro j q hj
  have hz : j < 1 := (List.getElem?_eq_some_iff.mp hj).1
  rw [show j = 0 by omega] at hj
  cases hj
  exact h k e hk
theorem nP.lt {E : NE} {ad : Nat → Nat} {st : NW} {H : Heap} (h : nP E ad st H) {k : Nat} (hk : st k ≠ none) : ad k < H.size := by
  cases hs : st k with
  | none => exact absurd hs hk
  | some e => exact (h k e hs).lt
theorem nP.kept {E : NE} {ad : Nat → Nat} {st : NW} {H H1 : Heap} (h : nP E ad st H) (hq : ∀ q, q < H.size → H1[q]? = H[q]?) : nP E ad st H1 := fun k e hk => (h k e hk).kept (hq _ (h k e hk).lt)
theorem nP.set {E : NE} {ad : Nat → Nat} {st : NW} {A : Nat → Prop} {H H1 : Heap} (h : nP E ad st H) (hD : nD A ad st) {k : Nat} {e0 e : va_E} (hk : st k = some e0) (he : va_at E.1 vwCl (ad k, e) H1) (oq : ∀ q : Nat, q ≠ ad k → H1[q]? = H[q]?) : nP E ad (su st k e) H1 := by
  intro j f hj
  by_cases hjk : j = k
  · subst hjk
    rw [su_s] at hj
    cases hj
    exact he
  · rw [su_n hjk] at hj
    exact (h j f hj).kept (oq _ (fun z => hjk (hD.1 j k (nn hj) (nn hk) z)))
theorem nD.set {A : Nat → Prop} {ad : Nat → Nat} {st : NW} (hD : nD A ad st) {k : Nat} {e0 e : va_E} (hk : st k = some e0) : nD A ad (su st k e) :=
  ⟨fun i j hi hj => hD.1 i j ((su_dom hk).mp hi) ((su_dom hk).mp hj), fun h hh => hD.2 h ((su_dom hk).mp hh)⟩
theorem nD.self {A : Nat → Prop} {ad : Nat → Nat} {st : NW} (hD : nD A ad st) (sz : Nat) : nD (nA ad st sz) ad st := ⟨hD.1, fun h hh => Or.inl ⟨h, hh, rfl⟩⟩
theorem nD.weaken {A B : Nat → Prop} {ad : Nat → Nat} {st : NW} (hD : nD A ad st) (h : ∀ q, A q → B q) : nD B ad st := ⟨hD.1, fun k hk => h _ (hD.2 k hk)⟩
theorem nA.sub {A0 : Nat → Prop} {ad : Nat → Nat} {st : NW} {H0 H : Heap} {locs : List Loc} (hD : nD A0 ad st) (hS : va_S A0 H0 H locs) (hA : ∀ q, H0.size ≤ q → A0 q) : ∀ q, nA ad st H.size q → A0 q := by
  intro q h
  rcases h with ⟨k, hk, rfl⟩ | h
  · exact hD.2 k hk
  · exact hA q (Nat.le_trans hS.1 h)
/-- contents that agree within the length may stand for each other -/
theorem va_at.cong {E : NE} {a n : Nat} {cA : ClassId} {f g : Nat → Int32} {H : Heap} (h : va_at E.1 vwCl (a, .inl (cA, n, .inl f)) H) (hfg : ∀ j, j < n → f j = g j) : va_at E.1 vwCl (a, .inl (cA, n, .inl g)) H := by
  refine Eq.trans h ?_
  show some (arrV cA n (fun j => .int (f j))) = some (arrV cA n (fun j => .int (g j)))
  congr 1
  unfold arrV
  congr 1
  apply Array.ext
  · simp
  · intro i h1 h2
    simp at h1
    simp [hfg i h1]
theorem nP.cong {E : NE} {ad : Nat → Nat} {st : NW} {A : Nat → Prop} {H : Heap} (h : nP E ad st H) (hD : nD A ad st) {k n : Nat} {cA : ClassId} {f g : Nat → Int32} (hk : st k = some (.inl (cA, n, .inl f))) (hfg : ∀ j, j < n → f j = g j) : nP E ad (su st k (.inl (cA, n, .inl g))) H :=
  h.set hD hk ((h k _ hk).cong hfg) (fun _ _ => rfl)
/-! statics, nest mates' links, texts: what no call changes -/
def nNF : List (String × Nat × String × String × String) := [("NeedleGrid", 44, "NeedleGrid$Grid", "directions", "[I"), ("NeedleGrid", 55, "NeedleGrid$Grid", "frictions", "[I"), ("NeedleGrid", 58, "NeedleGrid$Grid", "held", "[Z"), ("NeedleGrid", 169, "NeedleGrid$Grid", "barDirections", "[I"), ("NeedleGrid", 172, "NeedleGrid$Grid", "barStrengths", "[I"), ("NeedleGrid", 105, "NeedleGrid$Grid", "settings", "[I"), ("NeedleGrid", 92, "NeedleGrid$Grid", "turns", "I"), ("NeedleGrid", 96, "NeedleGrid$Grid", "coilDirection", "I"), ("NeedleGrid", 175, "NeedleGrid$Grid", "stepsSoFar", "I"), ("NeedleGrid", 146, "NeedleGrid$Grid", "fieldX", "[I"), ("NeedleGrid", 150, "NeedleGrid$Grid", "fieldY", "[I"), ("NeedleGrid", 138, "NeedleGrid$History", "amount", "I")]
def nNM : List (String × Nat × MethodName) := [("NeedleGrid$Grid", 56, yX4_across), ("NeedleGrid$Grid", 60, yX4_down), ("NeedleGrid$Grid", 74, yX4_pull), ("NeedleGrid", 28, yX1_init), ("NeedleGrid$BarText", 17, yX0_init), ("NeedleGrid$Grid", 85, yX4_aimOf), ("NeedleGrid$Grid", 92, yX4_ahead)]
def nNS : List (Nat × String) := [(190, "what is not 0 to 8"), (280, "there is no such setting"), (277, "there is no such cell"), (162, "what is not 0 to 7"), (164, "place is below 0"), (282, "a number is out of range"), (76, "there are 6 bars"), (87, "no bar lies there"), (141, "there is no saved state")]
def tX : Nat → Int32 := fun k => match k with
  | 0 => 1
  | 1 => 1
  | 2 => 0
  | 3 => -1
  | 4 => -1
  | 5 => -1
  | 6 => 0
  | _ => 1
def tY : Nat → Int32 := fun k => match k with
  | 0 => 0
  | 1 => 1
  | 2 => 1
  | 3 => 1
  | 4 => 0
  | 5 => -1
  | 6 => -1
  | _ => -1
def tM : Nat → Int32 := fun k => match k with
  | 0 => 200
  | 1 => 20
  | _ => 50
/-- a static of NeedleGrid that holds an int array of n values f at the address t -/
def nZa (nm : String) (t n : Nat) (f : Nat → Int32) (A : Nat → Prop) (U : State) (H : Heap) : Prop := va_Z "NeedleGrid" nm "[I" (.ref t) A U H ∧ va_T .int t n (fun j => .int (f j)) A U H
/-- what a throw asks of the tables and what may change with them -/
def nNX (U : State) : Prop := (va_Nw (.castable "java/lang/IndexOutOfBoundsException" "java/lang/IndexOutOfBoundsException") U ∧ va_Nw (.castable "java/lang/IllegalArgumentException" "java/lang/IllegalArgumentException") U ∧ va_Nw (.castable "java/lang/IllegalStateException" "java/lang/IllegalStateException") U) ∧ va_Nw (.declares (Bundle.initS "java/lang/RuntimeException")) U ∧ va_Nw (.declares (Bundle.initS "java/lang/Exception")) U ∧ va_Nw (.declares (Bundle.initS "java/lang/Throwable")) U
theorem nNw_warmD {x : MethodName} {s U : State} (hW : s.WarmedH U.vm) (hZ : va_Nw (.declares x) s) : va_Nw (.declares x) U := va_tabs rfl (rfl : (s.setVm U.vm).vm = U.vm) (by rw [Cond.declares_setVm hW.alike]; exact hZ)
theorem nNX.warm {s U : State} (hW : s.WarmedH U.vm) (h : nNX s) : nNX U := ⟨⟨va_Nw.warmC hW h.1.1, va_Nw.warmC hW h.1.2.1, va_Nw.warmC hW h.1.2.2⟩, nNw_warmD hW h.2.1, nNw_warmD hW h.2.2.1, nNw_warmD hW h.2.2.2⟩
theorem nNX.same {u U : State} (hv : u.vm = U.vm) (h : nNX u) : nNX U := ⟨⟨va_Nw.same rfl hv h.1.1, va_Nw.same rfl hv h.1.2.1, va_Nw.same rfl hv h.1.2.2⟩, va_Nw.same rfl hv h.2.1, va_Nw.same rfl hv h.2.2.1, va_Nw.same rfl hv h.2.2.2⟩
/-- the script's numbers, kept as bits behind the statics' places -/
def scr (E : NE) : Nat → Int32 := fun j => (UInt32.ofNat (E.2.2 (5 + j))).toInt32
theorem scr_bits (x : Int32) : (UInt32.ofNat x.toUInt32.toNat).toInt32 = x := by simp
def nZ (E : NE) (A : Nat → Prop) (U : State) (H : Heap) : Prop := (nZa "ACROSS" (E.2.2 0) 8 tX A U H ∧ nZa "DOWN" (E.2.2 1) 8 tY A U H ∧ nZa "MOST_OF_SETTING" (E.2.2 2) 3 tM A U H) ∧ (vx_Zq Bundle.tN "UNASSIGNED_STACK" Bundle.steD A U H ∧ vx_Zq Bundle.tN "SUPPRESSED_SENTINEL" Bundle.listD A U H ∧ va_T .int (E.2.2 3) (E.2.2 4) (fun j => .int (scr E j)) A U H) ∧ (∀ q ∈ nNF, va_Nw (.fieldLinkNest q.1 q.2.1 q.2.2.1 q.2.2.2.1 q.2.2.2.2 "NeedleGrid") U) ∧ (∀ q ∈ nNM, va_Nw (.methodLinkNest q.1 q.2.1 q.2.2 "NeedleGrid") U) ∧ (∀ q ∈ nNS, ∃ sa, vk_R "NeedleGrid" q.1 q.2 sa U) ∧ nNX U
theorem nZa.moved {nm : String} {t n : Nat} {f : Nat → Int32} {A : Nat → Prop} {u U : State} {H : Heap} (hvm : u.vm.Alike U.vm) (h : nZa nm t n f A u H) : nZa nm t n f A U H := ⟨va_Z.moved hvm h.1, va_T.moved hvm h.2⟩
theorem nZa.kept {nm : String} {t n : Nat} {f : Nat → Int32} {A : Nat → Prop} {U : State} {H H1 : Heap} (h : nZa nm t n f A U H) (hq : ∀ a : Nat, a < H.size → ¬ A a → H1[a]? = H[a]?) : nZa nm t n f A U H1 := ⟨h.1.kept hq, h.2.kept hq⟩
theorem nZa.narrow {nm : String} {t n : Nat} {f : Nat → Int32} {A B : Nat → Prop} {U : State} {H : Heap} (h : nZa nm t n f A U H) (hAB : ∀ q, B q → A q) : nZa nm t n f B U H := ⟨h.1.narrow hAB, h.2.narrow hAB⟩
/-- from the start of a method to the start of what it calls -/
theorem nZ.pass {E : NE} {A B : Nat → Prop} {s U : State} {H : Heap} {locs : List Loc} (h : nZ E A s s.heap) (hW : s.WarmedH U.vm) (hS : va_S A s.heap H locs) (hU : U.heap = H) (hAB : ∀ q, B q → A q) : nZ E B U U.heap := by
  obtain ⟨⟨h1, h2, h3⟩, ⟨h4, h5, hsc⟩, h6, h7, h8, hX⟩ := h
  have hk : ∀ a : Nat, a < s.heap.size → ¬ A a → U.heap[a]? = s.heap[a]? := fun a h1 h2 => by rw [hU]; exact hS.2.1 a h1 h2
  refine ⟨⟨((h1.kept hk).narrow hAB).moved hW.alike, ((h2.kept hk).narrow hAB).moved hW.alike, ((h3.kept hk).narrow hAB).moved hW.alike⟩, ⟨((h4.kept hk).narrow hAB).moved hW.alike, ((h5.kept hk).narrow hAB).moved hW.alike, ((hsc.kept hk).narrow hAB).moved hW.alike⟩, fun q hq => va_Nw.warmF hW (h6 q hq), fun q hq => va_Nw.warmM hW (h7 q hq), fun q hq => ?_, hX.warm hW⟩
  obtain ⟨sa, hs⟩ := h8 q hq
  exact ⟨sa, vk_R.warm hW hs⟩
/-- .. with the same tables (the frames alone differ) -/
theorem nZ.same {E : NE} {A : Nat → Prop} {u U : State} (h : nZ E A u u.heap) (hv : u.vm = U.vm) (hh : U.heap = u.heap) : nZ E A U U.heap := by
  obtain ⟨⟨h1, h2, h3⟩, ⟨h4, h5, hsc⟩, h6, h7, h8, hX⟩ := h
  have al : u.vm.Alike U.vm := hv ▸ Vm.Alike.refl u.vm
  rw [hh]
  exact ⟨⟨h1.moved al, h2.moved al, h3.moved al⟩, ⟨h4.moved al, h5.moved al, hsc.moved al⟩, fun q hq => va_Nw.same rfl hv (h6 q hq), fun q hq => va_Nw.same rfl hv (h7 q hq), fun q hq => (h8 q hq).imp fun sa hs => vk_R.same hv.symm hs, hX.same hv⟩
/-! contracts over such a world -/
def nPre (E : NE) (ad : Nat → Nat) (st : NW) (sz : Nat) (av : List Value) : Array Value → State → Prop := va_Pc av (fun U => U.heap.size = sz ∧ nP E ad st U.heap ∧ va_K E.1 vwCl (nTys E) U ∧ nD (nA ad st sz) ad st ∧ nZ E (nA ad st sz) U U.heap)
def nB (E : NE) (ad : Nat → Nat) (A : Nat → Prop) : NW → State → Prop := fun st' t => nP E ad st' t.heap ∧ va_K E.1 vwCl (nTys E) t ∧ nD A ad st'
theorem nPre.blind {E : NE} {ad : Nat → Nat} {st : NW} {sz : Nat} {av : List Value} : FrameBlind (nPre E ad st sz av) := by
  intro a U g mk h
  obtain ⟨h1, h2, h3, h4, h5, h6⟩ := h
  exact ⟨h1, h2, h3, va_K.moved (u := U) (U := U.calling g mk a) (Vm.Alike.refl U.vm) h4, h5, h6.same (u := U) (U := U.calling g mk a) rfl rfl⟩
def nMi (l : Launch) (y : MethodName) (ws : List Cond) (rm : Room) (E : NE) (ad : Nat → Nat) (st : NW) (av : List Value) (post : Int32 → NW → Prop) : Prop := ∀ sz, Met l y ws rm (nPre E ad st sz av) (va_Qi post (nB E ad (nA ad st sz)) (nA ad st sz)) 0 0 (nA ad st sz)
def nMv (l : Launch) (y : MethodName) (ws : List Cond) (rm : Room) (E : NE) (ad : Nat → Nat) (st : NW) (av : List Value) (post : NW → Prop) : Prop := ∀ sz, Met l y ws rm (nPre E ad st sz av) (va_Qv post (nB E ad (nA ad st sz)) (nA ad st sz)) 0 0 (nA ad st sz)
def nMd (l : Launch) (y : MethodName) (ws : List Cond) (rm : Room) (E : NE) (ad : Nat → Nat) (st : NW) (av : List Value) (post : UInt64 → NW → Prop) : Prop := ∀ sz, Met l y ws rm (nPre E ad st sz av) (va_Qd post (nB E ad (nA ad st sz)) (nA ad st sz)) 0 0 (nA ad st sz)
def nRm (f n : Nat) : Room := { frames := f, cells := 0, slots := 0, locals := n }


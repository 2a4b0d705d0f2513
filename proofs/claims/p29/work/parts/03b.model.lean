/-! the reader of texts: 0 due, 1 parts, 2 column, 3 row, 4 direction, 5 strength -/
def sB : NSc := (0, [none, none, none, none, none, none])
def rB (R : Nat → Int32) : Nat → Nat → Int32 := fun k _ => R k
/-! the text: 0 codes, 1 length, 2 reader -/
def sT : NSc := (1, [some (0, 60), none, some (9, 48)])
/-! the saved states: 0 ring, 1 amount, 2 next -/
def sH : NSc := (3, [some (9, 12), none, none])
/-! the object: 0 now, 1 trial, 2 history, 3 text -/
def sN : NSc := (4, [some (9, 64), some (9, 80), some (9, 16), some (9, 32)])
def nRing (E : NE) (ad : Nat → Nat) : va_E := .inl (E.2.1 2, 6, .inr (.inr (.inr (.inr (fun i => some (ad (96 + 16 * i)))))))
theorem isR.keepP {E : NE} {ad : Nat → Nat} {st st1 : NW} {b2 : Nat} {S : NSc} {G : Nat → Nat → Int32} (h : isR E ad st b2 S G) (hf : ∀ k, b2 ≤ k → k < b2 + 16 → st1 k = st k) (hl : S.2.length ≤ 15) : isR E ad st1 b2 S G := by
  refine ⟨by rw [hf b2 (Nat.le_refl _) (by omega)]; exact h.1, fun k z n hk hz => ?_⟩
  have hk2 : k < S.2.length := (List.getElem?_eq_some_iff.mp hk).1
  rw [hf _ (by omega) (by omega)]
  exact h.2 k z n hk hz
section NREC2
variable {p : Program} {l : Launch} {e : Env} {R : Room} {s : State} {m : MethodId} {args : Array Value} {below : List Frame} {meth : Method} {c : Code} {H : Heap} {locs : List Loc} {cells slots : Nat} {Q : State → Prop}
variable {cc : ByteArray} {pc : Nat} {ls : Array Slot} {rest : List Value} {A : Nat → Prop} {E : NE} {ad : Nat → Nat} {st : NW}
/-- a place of the ring -/
theorem raq (hx : p.tables.exec = Jvm.exec) (hb : c.code = cc) (hK : va_K E.1 vwCl (nTys E) s) (hP : nP E ad st H) {k j : Nat} (hk : st k = some (nRing E ad)) (hj : j < 6) (hdg : decode cc pc = .ok (.aaload, 1))
    (kk : W p l e R s m args below meth c H locs cells slots Q (F0 m (pc + 1) ls (.ref (ad (96 + 16 * j)) :: rest))) : W p l e R s m args below meth c H locs cells slots Q (F0 m pc ls (.int (nI j) :: .ref (ad k) :: rest)) := by
  refine va_aldq (D := E.1) hx hb hK (hP.one hk) 0 2 rfl rfl (vp_in_nI hj (by decide)) hdg ?_
  rw [nI_clamp (by omega)]
  exact kk
/-- a grid whose cells are as another's may stand for it -/
theorem isG_can {b : Nat} {X Y : Nat → Nat → Int32} (hP : nP E ad st H) (hD : nD A ad st) (hR : isR E ad st b sG X) (h0 : ∀ j, j < 36 → X 0 j = Y 0 j) (h1 : ∀ j, j < 36 → X 1 j = Y 1 j) (h2 : ∀ j, j < 36 → X 2 j = Y 2 j) (h3 : ∀ j, j < 36 → X 3 j = Y 3 j) (h4 : ∀ j, j < 36 → X 4 j = Y 4 j) (h5 : ∀ j, j < 3 → X 5 j = Y 5 j) (h6 : X 6 0 = Y 6 0) (h7 : X 7 0 = Y 7 0) (h8 : X 8 0 = Y 8 0) (h9 : ∀ j, j < 36 → X 9 j = Y 9 j) (h10 : ∀ j, j < 36 → X 10 j = Y 10 j) (h11 : ∀ j, j < 36 → X 11 j = Y 11 j) (h12 : ∀ j, j < 36 → X 12 j = Y 12 j) :
    ∃ st1, isR E ad st1 b sG Y ∧ fr b st st1 ∧ nP E ad st1 H ∧ nD A ad st1 := by
  obtain ⟨s0, hR, f0, hP, hD⟩ := hR.can hP hD 0 (n := 36) (z := 0) rfl (by decide) (by decide) (g := Y 0) h0
  obtain ⟨s1, hR, f1, hP, hD⟩ := hR.can hP hD 1 (n := 36) (z := 0) rfl (by decide) (by decide) (g := Y 1) h1
  obtain ⟨s2, hR, f2, hP, hD⟩ := hR.can hP hD 2 (n := 36) (z := 1) rfl (by decide) (by decide) (g := Y 2) h2
  obtain ⟨s3, hR, f3, hP, hD⟩ := hR.can hP hD 3 (n := 36) (z := 0) rfl (by decide) (by decide) (g := Y 3) h3
  obtain ⟨s4, hR, f4, hP, hD⟩ := hR.can hP hD 4 (n := 36) (z := 0) rfl (by decide) (by decide) (g := Y 4) h4
  obtain ⟨s5, hR, f5, hP, hD⟩ := hR.can hP hD 5 (n := 3) (z := 0) rfl (by decide) (by decide) (g := Y 5) h5
  obtain ⟨s9, hR, f9, hP, hD⟩ := hR.can hP hD 9 (n := 36) (z := 0) rfl (by decide) (by decide) (g := Y 9) h9
  obtain ⟨s10, hR, f10, hP, hD⟩ := hR.can hP hD 10 (n := 36) (z := 0) rfl (by decide) (by decide) (g := Y 10) h10
  obtain ⟨s11, hR, f11, hP, hD⟩ := hR.can hP hD 11 (n := 36) (z := 0) rfl (by decide) (by decide) (g := Y 11) h11
  obtain ⟨s12, hR, f12, hP, hD⟩ := hR.can hP hD 12 (n := 36) (z := 0) rfl (by decide) (by decide) (g := Y 12) h12
  exact ⟨s12, hR.eq0 (all13 (Or.inl rfl) (Or.inl rfl) (Or.inl rfl) (Or.inl rfl) (Or.inl rfl) (Or.inl rfl) (Or.inr ⟨rfl, h6⟩) (Or.inr ⟨rfl, h7⟩) (Or.inr ⟨rfl, h8⟩) (Or.inl rfl) (Or.inl rfl) (Or.inl rfl) (Or.inl rfl)), f0.tr (f1.tr (f2.tr (f3.tr (f4.tr (f5.tr (f9.tr (f10.tr (f11.tr f12)))))))), hP, hD⟩
end NREC2
/-- the history's numbers -/
def hst (a x : Nat) : Nat → Nat → Int32 := fun k _ => if k = 1 then nI a else if k = 2 then nI x else 0
/-- outside the history and its grids -/
def frH (st st1 : NW) : Prop := ∀ h : Nat, (h < 16 ∨ (32 ≤ h ∧ h < 96) ∨ 192 ≤ h) → st1 h = st h

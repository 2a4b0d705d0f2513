section NGROW
variable {p : Program} {l : Launch} {e : Env} {R : Room} {s : State} {m : MethodId} {args : Array Value} {below : List Frame} {meth : Method} {c : Code} {H : Heap} {locs : List Loc} {cells slots : Nat} {Q : State → Prop}
variable {cc : ByteArray} {pc : Nat} {ls : Array Slot} {rest : List Value} {A : Nat → Prop} {E : NE} {ad : Nat → Nat} {st : NW} {H0 : Heap}
/-- a fresh int array at the handle h -/
theorem nNewI (hx : p.tables.exec = Jvm.exec) (hb : c.code = cc) (harr : (Cond.arrayClass (.int)).before args s = true) (hK : va_K E.1 vwCl (nTys E) s) (hP : nP E ad st H) (hD : nD A ad st) (hS : va_S A H0 H locs) (hA : ∀ q, H0.size ≤ q → A q) {h N : Nat} (ha : ad h = H.size) {n : Int32} (hn : ¬ n < 0) (hN : n.toNatClampNeg = N) (hbytes : N * 4 ≤ 536870912) (hcells : cells + 1 ≤ R.cells) (hslots : slots + N ≤ R.slots) (hdg : decode cc pc = .ok (.newarray .int, 2))
    (kk : ∀ H1 : Heap, nP E ad (su st h (.inl (E.2.1 0, N, .inl (fun _ => 0)))) H1 → nD A ad (su st h (.inl (E.2.1 0, N, .inl (fun _ => 0)))) → va_S A H0 H1 locs → H1.size = H.size + 1 → W p l e R s m args below meth c H1 locs (cells + 1) (slots + N) Q (F0 m (pc + 2) ls (.ref (ad h) :: rest))) : W p l e R s m args below meth c H locs cells slots Q (F0 m pc ls (.int n :: rest)) := by
  refine va_newaK (atype := .int) hx hb harr rfl hdg rfl hn hN hbytes hcells hslots rfl fun H1 cA e1 z1 o1 hAr hNm => ?_
  have hc : cA = E.2.1 0 := Option.some.inj (hNm.symm.trans (hK.2 0 (E.2.1 0, .int) rfl).2)
  subst hc
  rw [← ha]
  exact kk H1 (hP.grow o1 (by rw [ha]; exact e1)) (hD.grow hP ha (hA _ (by rw [ha]; exact hS.1))) ⟨Nat.le_trans hS.1 (by omega), fun x h1 h2 => (o1 x (Nat.lt_of_lt_of_le h1 hS.1)).trans (hS.2.1 x h1 h2), hS.2.2⟩ z1
end NGROW

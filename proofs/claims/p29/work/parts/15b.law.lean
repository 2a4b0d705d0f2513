def lwA (s : State) : Nat → Prop := fun q => s.heap.size ≤ q

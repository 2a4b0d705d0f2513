section
-- ===== PART A: goes FIRST, ahead of the names: the tables' words, and 'selects' of the private methods out of them =====
/-- a private method of a class that the tables say can be made, by its rows of tables_1 -/
def lw_okq (q : MethodName × Nat) : Prop := (q.1.cls ≠ "java/lang/invoke/MethodHandle" ∧ q.1.cls ≠ "java/lang/invoke/VarHandle") ∧ Cond.instantiable q.1.cls q.2 ∈ tables_1 ∧ Cond.privateMethod q.1 ∈ tables_1 ∧ Cond.instanceMethod q.1 ∈ tables_1
theorem lw_p0 : lw_okq (⟨"NeedleGrid$Grid", "addBarToStill", "(I)V"⟩, 13) := ⟨⟨by decide +kernel, by decide +kernel⟩, List.mem_of_getElem? (i := 23) (by decide +kernel), List.mem_of_getElem? (i := 47) (by decide +kernel), List.mem_of_getElem? (i := 48) (by decide +kernel)⟩
theorem lw_p1 : lw_okq (⟨"NeedleGrid$Grid", "addNeedleToNeighbours", "(I)V"⟩, 13) := ⟨⟨by decide +kernel, by decide +kernel⟩, List.mem_of_getElem? (i := 23) (by decide +kernel), List.mem_of_getElem? (i := 60) (by decide +kernel), List.mem_of_getElem? (i := 61) (by decide +kernel)⟩
theorem lw_p2 : lw_okq (⟨"NeedleGrid$Grid", "addToField", "(III)V"⟩, 13) := ⟨⟨by decide +kernel, by decide +kernel⟩, List.mem_of_getElem? (i := 23) (by decide +kernel), List.mem_of_getElem? (i := 64) (by decide +kernel), List.mem_of_getElem? (i := 65) (by decide +kernel)⟩
theorem lw_p3 : lw_okq (⟨"NeedleGrid$BarReader", "goOn", "(IZ)Z"⟩, 6) := ⟨⟨by decide +kernel, by decide +kernel⟩, List.mem_of_getElem? (i := 147) (by decide +kernel), List.mem_of_getElem? (i := 217) (by decide +kernel), List.mem_of_getElem? (i := 218) (by decide +kernel)⟩
theorem lw_p4 : lw_okq (⟨"NeedleGrid$BarReader", "takeBehindStrength", "(I)Z"⟩, 6) := ⟨⟨by decide +kernel, by decide +kernel⟩, List.mem_of_getElem? (i := 147) (by decide +kernel), List.mem_of_getElem? (i := 221) (by decide +kernel), List.mem_of_getElem? (i := 222) (by decide +kernel)⟩
theorem lw_p5 : lw_okq (⟨"NeedleGrid$Grid", "turnAll", "()I"⟩, 13) := ⟨⟨by decide +kernel, by decide +kernel⟩, List.mem_of_getElem? (i := 23) (by decide +kernel), List.mem_of_getElem? (i := 237) (by decide +kernel), List.mem_of_getElem? (i := 238) (by decide +kernel)⟩
theorem lw_p6 : lw_okq (⟨"NeedleGrid$Grid", "directionAfterStep", "(I)I"⟩, 13) := ⟨⟨by decide +kernel, by decide +kernel⟩, List.mem_of_getElem? (i := 23) (by decide +kernel), List.mem_of_getElem? (i := 241) (by decide +kernel), List.mem_of_getElem? (i := 242) (by decide +kernel)⟩
theorem lw_p7 : lw_okq (⟨"java/lang/Throwable", "fillInStackTrace", "(I)Ljava/lang/Throwable;"⟩, 6) := ⟨⟨by decide +kernel, by decide +kernel⟩, List.mem_of_getElem? (i := 338) (by decide +kernel), List.mem_of_getElem? (i := 336) (by decide +kernel), List.mem_of_getElem? (i := 337) (by decide +kernel)⟩
theorem lw_p8 : lw_okq (⟨"NeedleGrid", "withCells", "(J)J"⟩, 4) := ⟨⟨by decide +kernel, by decide +kernel⟩, List.mem_of_getElem? (i := 15) (by decide +kernel), List.mem_of_getElem? (i := 395) (by decide +kernel), List.mem_of_getElem? (i := 396) (by decide +kernel)⟩
theorem lw_p9 : lw_okq (⟨"NeedleGrid", "withBars", "(J)J"⟩, 4) := ⟨⟨by decide +kernel, by decide +kernel⟩, List.mem_of_getElem? (i := 15) (by decide +kernel), List.mem_of_getElem? (i := 412) (by decide +kernel), List.mem_of_getElem? (i := 413) (by decide +kernel)⟩
theorem lw_p10 : lw_okq (⟨"NeedleGrid", "withBuffer", "(J)J"⟩, 4) := ⟨⟨by decide +kernel, by decide +kernel⟩, List.mem_of_getElem? (i := 15) (by decide +kernel), List.mem_of_getElem? (i := 472) (by decide +kernel), List.mem_of_getElem? (i := 473) (by decide +kernel)⟩
theorem lw_p11 : lw_okq (⟨"NeedleGridModel", "fails", "(I)I"⟩, 14) := ⟨⟨by decide +kernel, by decide +kernel⟩, List.mem_of_getElem? (i := 672) (by decide +kernel), List.mem_of_getElem? (i := 729) (by decide +kernel), List.mem_of_getElem? (i := 730) (by decide +kernel)⟩
theorem lw_p12 : lw_okq (⟨"NeedleGridModel", "saves", "()V"⟩, 14) := ⟨⟨by decide +kernel, by decide +kernel⟩, List.mem_of_getElem? (i := 672) (by decide +kernel), List.mem_of_getElem? (i := 749) (by decide +kernel), List.mem_of_getElem? (i := 750) (by decide +kernel)⟩
theorem lw_p13 : lw_okq (⟨"NeedleGridModel", "changes", "(II)I"⟩, 14) := ⟨⟨by decide +kernel, by decide +kernel⟩, List.mem_of_getElem? (i := 672) (by decide +kernel), List.mem_of_getElem? (i := 753) (by decide +kernel), List.mem_of_getElem? (i := 754) (by decide +kernel)⟩
theorem lw_p14 : lw_okq (⟨"NeedleGridModel", "allTurn", "([I)I"⟩, 14) := ⟨⟨by decide +kernel, by decide +kernel⟩, List.mem_of_getElem? (i := 672) (by decide +kernel), List.mem_of_getElem? (i := 798) (by decide +kernel), List.mem_of_getElem? (i := 799) (by decide +kernel)⟩
theorem lw_p15 : lw_okq (⟨"NeedleGridModel", "turned", "([II)I"⟩, 14) := ⟨⟨by decide +kernel, by decide +kernel⟩, List.mem_of_getElem? (i := 672) (by decide +kernel), List.mem_of_getElem? (i := 802) (by decide +kernel), List.mem_of_getElem? (i := 803) (by decide +kernel)⟩
def lw_privs_1 : List (MethodName × Nat) := [(⟨"NeedleGrid$Grid", "addBarToStill", "(I)V"⟩, 13), (⟨"NeedleGrid$Grid", "addNeedleToNeighbours", "(I)V"⟩, 13), (⟨"NeedleGrid$Grid", "addToField", "(III)V"⟩, 13), (⟨"NeedleGrid$BarReader", "goOn", "(IZ)Z"⟩, 6), (⟨"NeedleGrid$BarReader", "takeBehindStrength", "(I)Z"⟩, 6), (⟨"NeedleGrid$Grid", "turnAll", "()I"⟩, 13), (⟨"NeedleGrid$Grid", "directionAfterStep", "(I)I"⟩, 13), (⟨"java/lang/Throwable", "fillInStackTrace", "(I)Ljava/lang/Throwable;"⟩, 6), (⟨"NeedleGrid", "withCells", "(J)J"⟩, 4), (⟨"NeedleGrid", "withBars", "(J)J"⟩, 4), (⟨"NeedleGrid", "withBuffer", "(J)J"⟩, 4), (⟨"NeedleGridModel", "fails", "(I)I"⟩, 14), (⟨"NeedleGridModel", "saves", "()V"⟩, 14), (⟨"NeedleGridModel", "changes", "(II)I"⟩, 14), (⟨"NeedleGridModel", "allTurn", "([I)I"⟩, 14), (⟨"NeedleGridModel", "turned", "([II)I"⟩, 14)]
theorem lw_r1 : ∀ q ∈ lw_privs_1, lw_okq q := List.forall_mem_cons.mpr ⟨lw_p0, List.forall_mem_cons.mpr ⟨lw_p1, List.forall_mem_cons.mpr ⟨lw_p2, List.forall_mem_cons.mpr ⟨lw_p3, List.forall_mem_cons.mpr ⟨lw_p4, List.forall_mem_cons.mpr ⟨lw_p5, List.forall_mem_cons.mpr ⟨lw_p6, List.forall_mem_cons.mpr ⟨lw_p7, List.forall_mem_cons.mpr ⟨lw_p8, List.forall_mem_cons.mpr ⟨lw_p9, List.forall_mem_cons.mpr ⟨lw_p10, List.forall_mem_cons.mpr ⟨lw_p11, List.forall_mem_cons.mpr ⟨lw_p12, List.forall_mem_cons.mpr ⟨lw_p13, List.forall_mem_cons.mpr ⟨lw_p14, List.forall_mem_cons.mpr ⟨lw_p15, fun _ h => absurd h List.not_mem_nil⟩⟩⟩⟩⟩⟩⟩⟩⟩⟩⟩⟩⟩⟩⟩⟩
theorem lw_p16 : lw_okq (⟨"NeedleGridModel", "aim", "([II)I"⟩, 14) := ⟨⟨by decide +kernel, by decide +kernel⟩, List.mem_of_getElem? (i := 672) (by decide +kernel), List.mem_of_getElem? (i := 806) (by decide +kernel), List.mem_of_getElem? (i := 807) (by decide +kernel)⟩
theorem lw_p17 : lw_okq (⟨"NeedleGridModel", "lays", "([II)V"⟩, 14) := ⟨⟨by decide +kernel, by decide +kernel⟩, List.mem_of_getElem? (i := 672) (by decide +kernel), List.mem_of_getElem? (i := 810) (by decide +kernel), List.mem_of_getElem? (i := 811) (by decide +kernel)⟩
theorem lw_p18 : lw_okq (⟨"NeedleGridModel", "adds", "(II)V"⟩, 14) := ⟨⟨by decide +kernel, by decide +kernel⟩, List.mem_of_getElem? (i := 672) (by decide +kernel), List.mem_of_getElem? (i := 814) (by decide +kernel), List.mem_of_getElem? (i := 815) (by decide +kernel)⟩
theorem lw_p19 : lw_okq (⟨"NeedleGridModel", "addsBar", "([III)V"⟩, 14) := ⟨⟨by decide +kernel, by decide +kernel⟩, List.mem_of_getElem? (i := 672) (by decide +kernel), List.mem_of_getElem? (i := 824) (by decide +kernel), List.mem_of_getElem? (i := 825) (by decide +kernel)⟩
theorem lw_p20 : lw_okq (⟨"NeedleGridModel", "isText", "()Z"⟩, 14) := ⟨⟨by decide +kernel, by decide +kernel⟩, List.mem_of_getElem? (i := 672) (by decide +kernel), List.mem_of_getElem? (i := 843) (by decide +kernel), List.mem_of_getElem? (i := 844) (by decide +kernel)⟩
theorem lw_p21 : lw_okq (⟨"NeedleGridModel", "isPart", "()Z"⟩, 14) := ⟨⟨by decide +kernel, by decide +kernel⟩, List.mem_of_getElem? (i := 672) (by decide +kernel), List.mem_of_getElem? (i := 847) (by decide +kernel), List.mem_of_getElem? (i := 848) (by decide +kernel)⟩
theorem lw_p22 : lw_okq (⟨"NeedleGridModel", "isAt", "(II)Z"⟩, 14) := ⟨⟨by decide +kernel, by decide +kernel⟩, List.mem_of_getElem? (i := 672) (by decide +kernel), List.mem_of_getElem? (i := 851) (by decide +kernel), List.mem_of_getElem? (i := 852) (by decide +kernel)⟩
theorem lw_p23 : lw_okq (⟨"NeedleGridModel", "stops", "()Z"⟩, 14) := ⟨⟨by decide +kernel, by decide +kernel⟩, List.mem_of_getElem? (i := 672) (by decide +kernel), List.mem_of_getElem? (i := 855) (by decide +kernel), List.mem_of_getElem? (i := 856) (by decide +kernel)⟩
theorem lw_p24 : lw_okq (⟨"NeedleGridModel", "ofCell", "(II)I"⟩, 14) := ⟨⟨by decide +kernel, by decide +kernel⟩, List.mem_of_getElem? (i := 672) (by decide +kernel), List.mem_of_getElem? (i := 867) (by decide +kernel), List.mem_of_getElem? (i := 868) (by decide +kernel)⟩
theorem lw_p25 : lw_okq (⟨"NeedleGridModel", "away", "([II)I"⟩, 14) := ⟨⟨by decide +kernel, by decide +kernel⟩, List.mem_of_getElem? (i := 672) (by decide +kernel), List.mem_of_getElem? (i := 872) (by decide +kernel), List.mem_of_getElem? (i := 873) (by decide +kernel)⟩
theorem lw_p26 : lw_okq (⟨"NeedleGridModel", "ofBar", "(II)I"⟩, 14) := ⟨⟨by decide +kernel, by decide +kernel⟩, List.mem_of_getElem? (i := 672) (by decide +kernel), List.mem_of_getElem? (i := 880) (by decide +kernel), List.mem_of_getElem? (i := 881) (by decide +kernel)⟩
theorem lw_p27 : lw_okq (⟨"NeedleGridModel", "counted", "(I)I"⟩, 14) := ⟨⟨by decide +kernel, by decide +kernel⟩, List.mem_of_getElem? (i := 672) (by decide +kernel), List.mem_of_getElem? (i := 888) (by decide +kernel), List.mem_of_getElem? (i := 889) (by decide +kernel)⟩
theorem lw_p28 : lw_okq (⟨"NeedleGridModel", "towards", "(I)I"⟩, 14) := ⟨⟨by decide +kernel, by decide +kernel⟩, List.mem_of_getElem? (i := 672) (by decide +kernel), List.mem_of_getElem? (i := 896) (by decide +kernel), List.mem_of_getElem? (i := 897) (by decide +kernel)⟩
theorem lw_p29 : lw_okq (⟨"NeedleGridModel", "rests", "()I"⟩, 14) := ⟨⟨by decide +kernel, by decide +kernel⟩, List.mem_of_getElem? (i := 672) (by decide +kernel), List.mem_of_getElem? (i := 908) (by decide +kernel), List.mem_of_getElem? (i := 909) (by decide +kernel)⟩
theorem lw_p30 : lw_okq (⟨"NeedleGridModel", "pointed", "(II)I"⟩, 14) := ⟨⟨by decide +kernel, by decide +kernel⟩, List.mem_of_getElem? (i := 672) (by decide +kernel), List.mem_of_getElem? (i := 916) (by decide +kernel), List.mem_of_getElem? (i := 917) (by decide +kernel)⟩
theorem lw_p31 : lw_okq (⟨"NeedleGridModel", "byBar", "(III)I"⟩, 14) := ⟨⟨by decide +kernel, by decide +kernel⟩, List.mem_of_getElem? (i := 672) (by decide +kernel), List.mem_of_getElem? (i := 924) (by decide +kernel), List.mem_of_getElem? (i := 925) (by decide +kernel)⟩
def lw_privs_2 : List (MethodName × Nat) := [(⟨"NeedleGridModel", "aim", "([II)I"⟩, 14), (⟨"NeedleGridModel", "lays", "([II)V"⟩, 14), (⟨"NeedleGridModel", "adds", "(II)V"⟩, 14), (⟨"NeedleGridModel", "addsBar", "([III)V"⟩, 14), (⟨"NeedleGridModel", "isText", "()Z"⟩, 14), (⟨"NeedleGridModel", "isPart", "()Z"⟩, 14), (⟨"NeedleGridModel", "isAt", "(II)Z"⟩, 14), (⟨"NeedleGridModel", "stops", "()Z"⟩, 14), (⟨"NeedleGridModel", "ofCell", "(II)I"⟩, 14), (⟨"NeedleGridModel", "away", "([II)I"⟩, 14), (⟨"NeedleGridModel", "ofBar", "(II)I"⟩, 14), (⟨"NeedleGridModel", "counted", "(I)I"⟩, 14), (⟨"NeedleGridModel", "towards", "(I)I"⟩, 14), (⟨"NeedleGridModel", "rests", "()I"⟩, 14), (⟨"NeedleGridModel", "pointed", "(II)I"⟩, 14), (⟨"NeedleGridModel", "byBar", "(III)I"⟩, 14)]
theorem lw_r2 : ∀ q ∈ lw_privs_2, lw_okq q := List.forall_mem_cons.mpr ⟨lw_p16, List.forall_mem_cons.mpr ⟨lw_p17, List.forall_mem_cons.mpr ⟨lw_p18, List.forall_mem_cons.mpr ⟨lw_p19, List.forall_mem_cons.mpr ⟨lw_p20, List.forall_mem_cons.mpr ⟨lw_p21, List.forall_mem_cons.mpr ⟨lw_p22, List.forall_mem_cons.mpr ⟨lw_p23, List.forall_mem_cons.mpr ⟨lw_p24, List.forall_mem_cons.mpr ⟨lw_p25, List.forall_mem_cons.mpr ⟨lw_p26, List.forall_mem_cons.mpr ⟨lw_p27, List.forall_mem_cons.mpr ⟨lw_p28, List.forall_mem_cons.mpr ⟨lw_p29, List.forall_mem_cons.mpr ⟨lw_p30, List.forall_mem_cons.mpr ⟨lw_p31, fun _ h => absurd h List.not_mem_nil⟩⟩⟩⟩⟩⟩⟩⟩⟩⟩⟩⟩⟩⟩⟩⟩
theorem lw_p32 : lw_okq (⟨"NeedleGridModel", "best", "(III)I"⟩, 14) := ⟨⟨by decide +kernel, by decide +kernel⟩, List.mem_of_getElem? (i := 672) (by decide +kernel), List.mem_of_getElem? (i := 932) (by decide +kernel), List.mem_of_getElem? (i := 933) (by decide +kernel)⟩
theorem lw_p33 : lw_okq (⟨"NeedleGridModel", "least", "(I)I"⟩, 14) := ⟨⟨by decide +kernel, by decide +kernel⟩, List.mem_of_getElem? (i := 672) (by decide +kernel), List.mem_of_getElem? (i := 940) (by decide +kernel), List.mem_of_getElem? (i := 941) (by decide +kernel)⟩
theorem lw_p34 : lw_okq (⟨"NeedleGridModel", "share", "()D"⟩, 14) := ⟨⟨by decide +kernel, by decide +kernel⟩, List.mem_of_getElem? (i := 672) (by decide +kernel), List.mem_of_getElem? (i := 948) (by decide +kernel), List.mem_of_getElem? (i := 949) (by decide +kernel)⟩
def lw_privs_3 : List (MethodName × Nat) := [(⟨"NeedleGridModel", "best", "(III)I"⟩, 14), (⟨"NeedleGridModel", "least", "(I)I"⟩, 14), (⟨"NeedleGridModel", "share", "()D"⟩, 14)]
theorem lw_r3 : ∀ q ∈ lw_privs_3, lw_okq q := List.forall_mem_cons.mpr ⟨lw_p32, List.forall_mem_cons.mpr ⟨lw_p33, List.forall_mem_cons.mpr ⟨lw_p34, fun _ h => absurd h List.not_mem_nil⟩⟩⟩
def lw_privs : List (MethodName × Nat) := lw_privs_1 ++ (lw_privs_2 ++ (lw_privs_3))
def lw_tbl : List Cond := k2_sels lw_privs ++ tables_1
theorem lw_privs_ok : ∀ q ∈ lw_privs, lw_okq q := by
  show ∀ q ∈ lw_privs_1 ++ (lw_privs_2 ++ (lw_privs_3)), lw_okq q
  exact List.forall_mem_append.mpr ⟨lw_r1, List.forall_mem_append.mpr ⟨lw_r2, lw_r3⟩⟩
/-- the streams that the claim lets the run draw from -/
abbrev lw_cs : List Choice := [Jvm.Choice.named "NaN.bits"]
theorem lw_bits : nanBits ∈ lw_cs := by first | decide | exact List.mem_cons_self | simp [lw_cs, nanBits]

/-! ===== BEGIN words of one list among another's, by their places ===== -/
theorem goodIn_r {big : List Cond} (ws : List Cond) (ps : List Nat) (hp : ws = ps.filterMap (fun i => big[i]?)) (h : ws.all goodWord = true) : GoodIn big ws := by
  intro w hw
  have h1 := List.all_eq_true.mp h w hw
  rw [hp] at hw
  obtain ⟨i, -, hi⟩ := List.mem_filterMap.mp hw
  have hm : w ∈ big := by first | exact List.mem_of_getElem? hi | exact List.getElem?_mem hi
  exact ⟨hm, good_of_word h1⟩
theorem goodIn_app {big a b : List Cond} (ha : GoodIn big a) (hb : GoodIn big b) : GoodIn big (a ++ b) := fun w h => (List.mem_append.mp h).elim (ha w) (hb w)
theorem goodIn_ca {big a b : List Cond} {c : Cond} (ha : GoodIn big (c :: a)) (hb : GoodIn big b) : GoodIn big (c :: (a ++ b)) := fun w h => (List.mem_cons.mp h).elim (fun e => ha w (List.mem_cons.mpr (Or.inl e))) (fun h => (List.mem_append.mp h).elim (fun h => ha w (List.mem_cons.mpr (Or.inr h))) (hb w))
theorem goodIn_sub {big ws : List Cond} (hm : ∀ w ∈ ws, w ∈ big) (h : ws.all goodWord = true) : GoodIn big ws := fun w hw => ⟨hm w hw, good_of_word (List.all_eq_true.mp h w hw)⟩
/-! ===== END ===== -/

/-! ===== BEGIN exceptions that leave a method, and their catching by the caller (launches without stack traces) ===== -/
section VXA
/-! The laws vx_back, vx_callV, vx_callS, vx_callSW, vx_throw0, vx_throwS follow proofs of the library, with one case more: JvmDerived/Free/Laws.lean (Back.of_free), Shelf42/LK1.lean (callV, callS), Shelf/KitTraced.lean (throwNew0V, throwNewS). -/
/-- where a method has thrown q: the class by its name, the cell, what was written, the world -/
def vx_T (XC : String → State → State → Prop) (st : State) (q : Addr) (t : State) (mc ms : Nat) (free : Addr → Prop) : Prop :=
  ∃ (E : String) (ce : Cell) (L : List Loc), XC E st t ∧ t.heap[q]? = some ce ∧ ce.vm = .none ∧ st.vm.findClass E = some ce.cls ∧ st.WarmedH t.vm ∧ st.sameButNew ({ t with vm := st.vm } : State) L mc ms ∧ ∀ z ∈ L, free z.base
def vx_Q (Qc : Array Value → State → Outcome → State → Prop) (XC : String → State → State → Prop) (mc ms : Nat) (free : Addr → Prop) : Array Value → State → Outcome → State → Prop := fun a st o t =>
  (Qc a st o t ∧ ∃ L, FrameEnd st o t L mc ms ∧ ∀ q ∈ L, free q.base) ∨ ∃ q, o = .threw q ∧ vx_T XC st q t mc ms free
/-- a callee that returns or throws -/
def vx_Met (l : Launch) (y : MethodName) (ws : List Cond) (rm : Room) (Pc : Array Value → State → Prop) (Qc : Array Value → State → Outcome → State → Prop) (XC : String → State → State → Prop) (mc ms : Nat) (free : Addr → Prop) : Prop :=
  MetFree l y (headSpec ws rm) Pc (fun _ _ _ _ _ => True) (vx_Q Qc XC mc ms free)
def vx_Post (XC : String → State → State → Prop) (mc ms : Nat) (free : Addr → Prop) : Pt → Array Value → Addr → Pt → Prop := fun A a q B =>
  ∃ (g : JFrame) (mk : MethodId) (t : State) (L : List Loc) (E : String) (ce : Cell), B.U.heap = t.heap ∧ B.U.vm = t.vm ∧ XC E (A.U.calling g mk a) t ∧ t.heap[q]? = some ce ∧ ce.vm = .none ∧ A.U.vm.findClass E = some ce.cls ∧ B.locs = A.locs ++ L ∧ (∀ z ∈ L, free z.base) ∧ B.cells = A.cells + mc ∧ B.slots = A.slots + ms
def vx_Back (l : Launch) (R : Room) (p : Program) (e : Env) (below : List Frame) (s : State) (sargs : Array Value) (y : MethodName) (len W9 : Nat)
    (Pre : Pt → Array Value → Prop) (Post : Pt → Array Value → Option Value → Pt → Prop) (PostX : Pt → Array Value → Addr → Pt → Prop) : Prop :=
  ∀ (m : MethodId) (meth : Method) (c : Code) (A : Pt) (g : JFrame) (ig : Instr) (mk : MethodId) (a : Array Value),
    Stand p l e R s m sargs below meth c A.U A.locs A.cells A.slots → g.method = m → g.locals.size = c.maxLocals → decode c.code g.pc = .ok (ig, len) →
    2 * g.monitorRoom + (g.stack.map fun v => v.category).sum ≤ W9 → A.U.methodNamed? y = some mk → Pre A a →
    (∃ (v : Option Value) (B : Pt), Stand p l e R s m sargs below meth c B.U B.locs B.cells B.slots ∧ Post A a v B ∧
      Steps p.tables e below (doInvoke e (A.U.setTop g) [] mk a).1 (B.U.setTop { g with pc := g.pc + len, stack := v.toList ++ g.stack })) ∨
    (∃ (q : Addr) (B : Pt), Stand p l e R s m sargs below meth c B.U B.locs B.cells B.slots ∧ PostX A a q B ∧
      Steps p.tables e below (doInvoke e (A.U.setTop g) [] mk a).1 ((B.U.setTop g).pushFrame (.throwing q)))
section Payer
variable {l : Launch} {R : Room} {p : Program} {e : Env} {below : List Frame} {s : State} {sargs : Array Value} {y : MethodName} {len W9 : Nat}
theorem vx_back {ws : List Cond} {rm : Room} {Pc : Array Value → State → Prop} {Qc : Array Value → State → Outcome → State → Prop} {XC : String → State → State → Prop} {mc ms : Nat} {free : Addr → Prop} {bytes : ByteArray} {maxL : Nat} {ret : Option FieldType}
    (hM : vx_Met l y ws rm Pc Qc XC mc ms free) (hblind : FrameBlind Pc) (hrc : rm.cells = mc) (hrs : rm.slots = ms)
    (hframes : rm.frames + 1 ≤ R.frames) (hlocals : W9 + (maxL + 11) + rm.locals ≤ R.locals)
    (hws : ∀ w ∈ ws, ∀ a' U, s.WarmedH U.vm → w.before a' U = true) (hcode : Cond.code y bytes maxL ret ∈ ws) (hinit : ∀ a' U, s.WarmedH U.vm → (Cond.initialized y.cls).before a' U = true) :
    vx_Back l R p e below s sargs y len W9 (PreOf R mc ms Pc) (PostOf Qc mc ms free) (vx_Post XC mc ms free) := by
  intro m meth c A g ig mk a X hg hsize hdg hW hn hp
  have h1 : (headSpec ws rm).pre.before a A.U = true := atoms_intro fun w hw => hws w hw _ _ X.warmed
  have h2 : (Cond.code y bytes maxL ret).before a A.U = true := hws _ hcode _ _ X.warmed
  have h3 : (Cond.initialized y.cls).before a A.U = true := hinit _ _ X.warmed
  have h4 : A.cells + (headSpec ws rm).room.cells ≤ R.cells := by rw [show (headSpec ws rm).room.cells = mc from hrc]; exact hp.1
  have h5 : A.slots + (headSpec ws rm).room.slots ≤ R.slots := by rw [show (headSpec ws rm).room.slots = ms from hrs]; exact hp.2.1
  have hPc : Pc a (A.U.calling g mk a) := hblind _ _ _ _ hp.2.2
  obtain ⟨U, Ls, c0, s0⟩ := A
  dsimp only [Pt.U, Pt.locs, Pt.cells, Pt.slots] at h1 h2 h3 h4 h5 X hn hPc ⊢
  obtain ⟨methY, cY, hmY, hcY, -, hlY, -, -, -, -⟩ := Cond.code_spec hn h2
  obtain ⟨kY, hkY, -⟩ := className_of_methodNamed hn
  have hinitY : kY.init = .initialized := Cond.initialized_spec (findClass_of_methodNamed hn) hkY h3
  have h : At U g.method c below := by rw [hg]; exact X.here
  have hlocals9 : W9 + (maxL + 11) + (headSpec ws rm).room.locals ≤ R.locals := hlocals
  have happ : (headSpec ws rm).appliesLoose y e.platform (U.calling g mk a) = true :=
    Spec.appliesLoose_calling (g := g) h hdg hn hkY hinitY
      (X.room_calling (g := g) (R' := (headSpec ws rm).room) hsize hmY hcY hframes (by rw [hlY]; omega) h4 h5) h1
  obtain ⟨mid, hmid⟩ := h.above
  have hfr : (U.setTop g).frames = (.java g :: mid) ++ below := by rw [State.frames_setTop' g h.top, hmid]; rfl
  obtain ⟨o, s₂, hsteps, -, hend, hq⟩ := Steps.callFree hM p X.admits X.cas X.clock (acts := []) hfr happ hPc trivial
  have hq' : vx_Q Qc XC mc ms free a (U.calling g mk a) o s₂ := hq
  rw [State.frames_setTop' g h.top] at hend
  obtain ⟨g₀, hg0⟩ := Option.isSome_iff_exists.mp h.top
  obtain ⟨r, hr⟩ := State.topJava?_eq_some.mp hg0
  have hr' : (({ U with heap := s₂.heap, slotsUsed := s₂.slotsUsed } : State).setVm s₂.vm).frames = .java g₀ :: r := hr
  rcases hq' with ⟨hqc, L, hfe, hL⟩ | ⟨q, rfl, E, ce, L, hx, hce, hcv, hcl, hW₂, hsm, hL⟩
  · obtain ⟨⟨v, rfl⟩, hW₂, e2, q2, q3, q4, q5, q6⟩ := id hfe
    have e3 : s₂ = ({ (U.calling g mk a).setFrames s₂.frames with heap := s₂.heap, slotsUsed := s₂.slotsUsed } : State).setVm s₂.vm := by
      have : s₂ = ({ s₂ with vm := (U.calling g mk a).vm } : State).setVm s₂.vm := rfl
      rw [e2] at this
      exact this
    obtain ⟨c₂, i₂, len₂, hc₂, hd₂, hf₂⟩ := hend
    have hW' : U.WarmedH s₂.vm := hW₂
    have hcc : c₂ = c := by
      have h1 : s₂.code? g.method = U.code? g.method := by
        rw [State.code?_eq, State.code?_eq, hW'.alike.method?]
      exact Option.some.inj (hc₂.symm.trans (h1.trans h.code))
    subst hcc
    have hlen : len₂ = len := by rw [hdg] at hd₂; cases hd₂; rfl
    subst hlen
    have hs₂ : s₂ = (({ U with heap := s₂.heap, slotsUsed := s₂.slotsUsed } : State).setVm s₂.vm).setTop { g with pc := g.pc + len₂, stack := v.toList ++ g.stack } := by
      refine e3.trans ?_
      rw [hf₂, State.calling_eq h.top, State.setFrames_setFrames, State.setTop_of_frames _ hr', hr]
      rfl
    have hsame : U.sameButNew ({ U with heap := s₂.heap, slotsUsed := s₂.slotsUsed } : State) L mc ms := by
      refine ⟨?_, q2, q3, q4, q5, q6⟩
      obtain ⟨t, ht, -⟩ := State.frames_cons hr
      show ({ U with heap := s₂.heap, slotsUsed := s₂.slotsUsed } : State) = { U.setFrames U.frames with heap := s₂.heap, slotsUsed := s₂.slotsUsed }
      rw [State.setFrames_self ht]
    subst hg
    refine Or.inl ⟨v, ⟨(({ U with heap := s₂.heap, slotsUsed := s₂.slotsUsed } : State).setVm s₂.vm), Ls ++ L, c0 + mc, s0 + ms⟩,
      ⟨X.admits, X.cas, X.clock, X.frames, X.room, X.hears, X.method, X.code, (X.here.setHeapUsed s₂.heap s₂.slotsUsed).setVm hW'.alike, X.tail, State.WarmedH.trans X.warmed hW', X.limits, X.bytes, X.same.trans (hsame.setVm s.vm)⟩,
      ⟨g, mk, s₂, L, rfl, rfl, hqc, rfl, hL, rfl, rfl⟩, ?_⟩
    show Steps p.tables e below _ ((({ U with heap := s₂.heap, slotsUsed := s₂.slotsUsed } : State).setVm s₂.vm).setTop { g with pc := g.pc + len₂, stack := v.toList ++ g.stack })
    rw [← hs₂]
    exact hsteps
  · obtain ⟨e2, q2, q3, q4, q5, q6⟩ := id hsm
    have e3 : s₂ = ({ (U.calling g mk a).setFrames s₂.frames with heap := s₂.heap, slotsUsed := s₂.slotsUsed } : State).setVm s₂.vm := by
      have : s₂ = ({ s₂ with vm := (U.calling g mk a).vm } : State).setVm s₂.vm := rfl
      rw [e2] at this
      exact this
    have hf₂ : s₂.frames = .throwing q :: .java g :: U.frames.tail := hend
    have hW' : U.WarmedH s₂.vm := hW₂
    have hs₂ : s₂ = ((({ U with heap := s₂.heap, slotsUsed := s₂.slotsUsed } : State).setVm s₂.vm).setTop g).pushFrame (.throwing q) := by
      refine e3.trans ?_
      rw [hf₂, State.calling_eq h.top, State.setFrames_setFrames, State.pushFrame, State.frames_setTop _ hr', State.setTop_of_frames _ hr', State.setFrames_setFrames, hr]
      rfl
    have hsame : U.sameButNew ({ U with heap := s₂.heap, slotsUsed := s₂.slotsUsed } : State) L mc ms := by
      refine ⟨?_, q2, q3, q4, q5, q6⟩
      obtain ⟨t, ht, -⟩ := State.frames_cons hr
      show ({ U with heap := s₂.heap, slotsUsed := s₂.slotsUsed } : State) = { U.setFrames U.frames with heap := s₂.heap, slotsUsed := s₂.slotsUsed }
      rw [State.setFrames_self ht]
    subst hg
    refine Or.inr ⟨q, ⟨(({ U with heap := s₂.heap, slotsUsed := s₂.slotsUsed } : State).setVm s₂.vm), Ls ++ L, c0 + mc, s0 + ms⟩,
      ⟨X.admits, X.cas, X.clock, X.frames, X.room, X.hears, X.method, X.code, (X.here.setHeapUsed s₂.heap s₂.slotsUsed).setVm hW'.alike, X.tail, State.WarmedH.trans X.warmed hW', X.limits, X.bytes, X.same.trans (hsame.setVm s.vm)⟩,
      ⟨g, mk, s₂, L, E, ce, rfl, rfl, hx, hce, hcv, hcl, rfl, hL, rfl, rfl⟩, ?_⟩
    show Steps p.tables e below _ (((({ U with heap := s₂.heap, slotsUsed := s₂.slotsUsed } : State).setVm s₂.vm).setTop g).pushFrame (.throwing q))
    rw [← hs₂]
    exact hsteps
end Payer
section Calls
variable {p : Program} {l : Launch} {e : Env} {R : Room} {s : State} {m : MethodId} {args : Array Value} {below : List Frame} {meth : Method} {c : Code} {T : State} {locs : List Loc} {cells slots : Nat}
theorem vx_callV (X : Stand p l e R s m args below meth c T locs cells slots) (hexec : p.tables.exec = Jvm.exec) {own C : String} {index : Nat} {y : MethodName} {bytes : ByteArray} {maxL : Nat} {ret : Option FieldType}
    (hown : s.vm.findClass own = some m.cls) (hlink : (Cond.methodLink own index y).before args s = true) (hinst : (Cond.instanceMethod y).before args s = true) (hsel : (Cond.selects C y y).before args s = true)
    (hcode : (Cond.code y bytes maxL ret).before args s = true) (hy : y.cls ≠ "java/lang/invoke/MethodHandle" ∧ y.cls ≠ "java/lang/invoke/VarHandle")
    {W9 : Nat} {Pre : Pt → Array Value → Prop} {Post : Pt → Array Value → Option Value → Pt → Prop} {PostX : Pt → Array Value → Addr → Pt → Prop} (hK : vx_Back l R p e below s args y 3 W9 Pre Post PostX)
    {b : Addr} {cellB : Cell} (hcell : T.heap[b]? = some cellB) (hobj : cellB.vm.isStatics = false) (hcls : s.vm.findClass C = some cellB.cls)
    {g : JFrame} (hg : g.method = m) (hsize : g.locals.size = c.maxLocals) {argsL rest : List Value} (hlen : ∀ sig, parseMethodDescriptor y.desc = some sig → argsL.length = sig.parameters.length)
    (hstack : g.stack = argsL.reverse ++ .ref b :: rest) (hW : 2 * g.monitorRoom + (rest.map fun v => v.category).sum ≤ W9) (hdg : decode c.code g.pc = .ok (.invokevirtual index, 3))
    (hpre : ∀ vm₁, s.WarmedH vm₁ → Pre ⟨T.setVm vm₁, locs, cells, slots⟩ (Value.ref b :: argsL).toArray) :
    (∃ (v : Option Value) (vm₁ : Vm) (B : Pt), s.WarmedH vm₁ ∧ Stand p l e R s m args below meth c B.U B.locs B.cells B.slots ∧ Post ⟨T.setVm vm₁, locs, cells, slots⟩ (Value.ref b :: argsL).toArray v B ∧
      ∀ target, Steps p.tables e below (B.U.setTop { g with pc := g.pc + 3, stack := v.toList ++ rest }) target → Steps p.tables e below (T.setTop g) target) ∨
    (∃ (q : Addr) (vm₁ : Vm) (B : Pt), s.WarmedH vm₁ ∧ Stand p l e R s m args below meth c B.U B.locs B.cells B.slots ∧ PostX ⟨T.setVm vm₁, locs, cells, slots⟩ (Value.ref b :: argsL).toArray q B ∧
      Steps p.tables e below (T.setTop g) ((B.U.setTop { g with stack := rest }).pushFrame (.throwing q))) := by
  obtain ⟨mk, methM, hnamed, hmethM, hstM, habM⟩ := Cond.instanceMethod_spec hinst
  obtain ⟨methM', cM, hmethM', -, -, -, -, -, -, hsigM⟩ := Cond.code_spec hnamed hcode
  cases hmethM.symm.trans hmethM'
  obtain ⟨c2, r2, m2, q1, q2, q3, q4, kP, hkP, hkPi⟩ := Cond.selects_spec hsel
  cases hcls.symm.trans q1
  cases (State.methodFound?_of_named hnamed hy).symm.trans q2
  cases hnamed.symm.trans q3
  have hselP : selectMethod e.platform s.vm cellB.cls mk = .method mk := by rw [Launch.admits_selectMethod X.admits]; exact q4
  obtain ⟨vm₁, X₁, hstep₁⟩ := X.invokevirtual hexec hown hlink hnamed hmethM hstM hkP hkPi hy (a := b) (cell := cellB) hcell
    (fun z h => by rw [h] at hobj; cases hobj) hselP hmethM habM hkP hkPi (g := g) hg (argsL := argsL) (rest := rest) (hlen _ hsigM) hstack hdg
  rcases hK m meth c ⟨T.setVm vm₁, locs, cells, slots⟩ { g with stack := rest } (.invokevirtual index) mk (Value.ref b :: argsL).toArray X₁ hg hsize hdg hW (X₁.named hnamed) (hpre vm₁ X₁.warmed) with ⟨v, B, X', hpost, hsteps⟩ | ⟨q, B, X', hpost, hsteps⟩
  · exact Or.inl ⟨v, vm₁, B, X₁.warmed, X', hpost, fun target h => hstep₁ _ fun acts => by rw [doInvoke_state]; exact hsteps.trans h⟩
  · exact Or.inr ⟨q, vm₁, B, X₁.warmed, X', hpost, hstep₁ _ fun acts => by rw [doInvoke_state]; exact hsteps⟩
theorem vx_callS (X : Stand p l e R s m args below meth c T locs cells slots) (hexec : p.tables.exec = Jvm.exec) {own : String} {index : Nat} {y : MethodName} {bytes : ByteArray} {maxL : Nat} {ret : Option FieldType}
    (hown : s.vm.findClass own = some m.cls) (hlink : (Cond.methodLink own index y).before args s = true) (hstat : (Cond.static y).before args s = true) (hinit : (Cond.initialized y.cls).before args s = true)
    (hcode : (Cond.code y bytes maxL ret).before args s = true) (hy : y.cls ≠ "java/lang/invoke/MethodHandle" ∧ y.cls ≠ "java/lang/invoke/VarHandle")
    {W9 : Nat} {Pre : Pt → Array Value → Prop} {Post : Pt → Array Value → Option Value → Pt → Prop} {PostX : Pt → Array Value → Addr → Pt → Prop} (hK : vx_Back l R p e below s args y 3 W9 Pre Post PostX)
    {g : JFrame} (hg : g.method = m) (hsize : g.locals.size = c.maxLocals) {argsL rest : List Value} (hlen : ∀ sig, parseMethodDescriptor y.desc = some sig → argsL.length = sig.parameters.length)
    (hstack : g.stack = argsL.reverse ++ rest) (hW : 2 * g.monitorRoom + (rest.map fun v => v.category).sum ≤ W9) (hdg : decode c.code g.pc = .ok (.invokestatic index, 3))
    (hpre : ∀ vm₁, s.WarmedH vm₁ → Pre ⟨T.setVm vm₁, locs, cells, slots⟩ argsL.toArray) :
    (∃ (v : Option Value) (vm₁ : Vm) (B : Pt), s.WarmedH vm₁ ∧ Stand p l e R s m args below meth c B.U B.locs B.cells B.slots ∧ Post ⟨T.setVm vm₁, locs, cells, slots⟩ argsL.toArray v B ∧
      ∀ target, Steps p.tables e below (B.U.setTop { g with pc := g.pc + 3, stack := v.toList ++ rest }) target → Steps p.tables e below (T.setTop g) target) ∨
    (∃ (q : Addr) (vm₁ : Vm) (B : Pt), s.WarmedH vm₁ ∧ Stand p l e R s m args below meth c B.U B.locs B.cells B.slots ∧ PostX ⟨T.setVm vm₁, locs, cells, slots⟩ argsL.toArray q B ∧
      Steps p.tables e below (T.setTop g) ((B.U.setTop { g with stack := rest }).pushFrame (.throwing q))) := by
  obtain ⟨mk, hnamed⟩ := Cond.code_named hcode
  obtain ⟨methM, cM, hmethM, -, -, -, -, -, -, hsigM⟩ := Cond.code_spec hnamed hcode
  have hstatic : methM.isStatic = true := Cond.static_spec hnamed hmethM hstat
  obtain ⟨kP, hkP, -⟩ := className_of_methodNamed hnamed
  have hinitP : kP.init = .initialized := Cond.initialized_spec (findClass_of_methodNamed hnamed) hkP hinit
  obtain ⟨vm₁, X₁, hstep₁⟩ := X.invokestatic hexec hown hlink hnamed hmethM hstatic hkP hinitP hy (g := g) hg (argsL := argsL) (rest := rest) (hlen _ hsigM) hstack hdg
  rcases hK m meth c ⟨T.setVm vm₁, locs, cells, slots⟩ { g with stack := rest } (.invokestatic index) mk argsL.toArray X₁ hg hsize hdg hW (X₁.named hnamed) (hpre vm₁ X₁.warmed) with ⟨v, B, X', hpost, hsteps⟩ | ⟨q, B, X', hpost, hsteps⟩
  · exact Or.inl ⟨v, vm₁, B, X₁.warmed, X', hpost, fun target h => hstep₁ _ fun acts => by rw [doInvoke_state]; exact hsteps.trans h⟩
  · exact Or.inr ⟨q, vm₁, B, X₁.warmed, X', hpost, hstep₁ _ fun acts => by rw [doInvoke_state]; exact hsteps⟩
end Calls
theorem vx_cls {s : State} {T : State} {vm₁ : Vm} {E : String} {k : ClassId} (hW : s.WarmedH vm₁) (h : (T.setVm vm₁).vm.findClass E = some k) : s.vm.findClass E = some k := by
  have h1 : vm₁.findClass E = some k := h
  rw [hW.alike.findClass] at h1
  exact h1
/-- the method's frame g, with q thrown over it -/
def vx_W (p : Program) (l : Launch) (e : Env) (R : Room) (s : State) (m : MethodId) (args : Array Value) (below : List Frame) (meth : Method) (c : Code) (H : Heap) (locs : List Loc) (cells slots : Nat) (Q : State → Prop) (g : JFrame) (q : Addr) : Prop :=
  ∀ T : State, T.heap = H → Stand p l e R s m args below meth c T locs cells slots → ∃ t, Steps p.tables e below ((T.setTop g).pushFrame (.throwing q)) t ∧ Q t
def vx_Run (p : Program) (l : Launch) (e : Env) (R : Room) (s : State) (m : MethodId) (args : Array Value) (below : List Frame) (meth : Method) (c : Code) (H : Heap) (locs : List Loc) (cells slots mc ms : Nat) (g : JFrame) (rest : List Value) (Qa : State → Outcome → State → Prop) (XC : String → State → State → Prop) (free : Addr → Prop) : Prop :=
  ∀ T : State, T.heap = H → Stand p l e R s m args below meth c T locs cells slots →
    (∃ (v : Option Value) (st₀ t T' : State) (L : List Loc), st₀.heap = H ∧ Stand p l e R s m args below meth c T' (locs ++ L) (cells + mc) (slots + ms) ∧ (∀ q ∈ L, free q.base) ∧ T'.heap = t.heap ∧ T'.vm = t.vm ∧ Qa st₀ (.returned v) t ∧
      Goes p e below T g T' { g with pc := g.pc + 3, stack := v.toList ++ rest }) ∨
    (∃ (q : Addr) (st₀ t T' : State) (L : List Loc) (E : String) (ce : Cell), st₀.heap = H ∧ Stand p l e R s m args below meth c T' (locs ++ L) (cells + mc) (slots + ms) ∧ (∀ z ∈ L, free z.base) ∧ T'.heap = t.heap ∧ T'.vm = t.vm ∧ XC E st₀ t ∧ t.heap[q]? = some ce ∧ ce.vm = .none ∧ s.vm.findClass E = some ce.cls ∧
      Steps p.tables e below (T.setTop g) ((T'.setTop { g with stack := rest }).pushFrame (.throwing q)))
def vx_X {S : Type} (px : S → Prop) (B : String → S → State → Prop) (A : Nat → Prop) : String → State → State → Prop := fun E st t => ∃ u : S, px u ∧ B E u t ∧ va_F A st t
section Runs
variable {p : Program} {l : Launch} {e : Env} {R : Room} {s : State} {m : MethodId} {args : Array Value} {below : List Frame} {meth : Method} {c : Code} {H : Heap} {locs : List Loc} {cells slots : Nat}
variable {y : MethodName} {bytes cc : ByteArray} {maxL nL mc ms n index : Nat} {ret : Option FieldType} {ws : List Cond} {rm : Room} {Pc : Array Value → State → Prop} {Qc : Array Value → State → Outcome → State → Prop} {XC : String → State → State → Prop} {free : Addr → Prop} {Ts : List Cond} {own C : String} {b : Addr} {As rest : List Value} {g : JFrame}
theorem vx_callBack (cb : CallB R s args own index y bytes maxL ret ws rm mc ms n) (hM : vx_Met l y ws rm Pc Qc XC mc ms free) (hbl : FrameBlind Pc) : vx_Back l R p e below s args y 3 8 (PreOf R mc ms Pc) (PostOf Qc mc ms free) (vx_Post XC mc ms free) := by
  obtain ⟨hrc, hrs, hfr, hlo, hws, hcw, -, hini, -⟩ := cb
  exact vx_back (bytes := bytes) (maxL := maxL) (ret := ret) hM hbl hrc hrs hfr hlo hws hcw (fun a' U hW => word_at hW (Or.inl (by first | rfl | simp [Cond.onTables, Cond.keeps, Cond.steady])) hini)
theorem vx_runV (S : CallFix p m c cc nL s args Ts own) (hM : vx_Met l y ws rm Pc Qc XC mc ms free) (cw : CallW R s args own C index y bytes maxL ret ws rm mc ms n) (hp : PreV s H C b Pc As)
    (hg : g.method = m) (hn : As.length = n) (hsize : g.locals.size = nL) (hstack : g.stack = As.reverse ++ .ref b :: rest) (hW : 2 * g.monitorRoom + (rest.map fun v => v.category).sum ≤ 8) (hdg : decode cc g.pc = .ok (.invokevirtual index, 3)) (hf : cells + mc ≤ R.cells ∧ slots + ms ≤ R.slots) :
    vx_Run p l e R s m args below meth c H locs cells slots mc ms g rest (Qc (Value.ref b :: As).toArray) XC free := by
  have hK : vx_Back l R p e below s args y 3 8 (PreOf R mc ms Pc) (PostOf Qc mc ms free) (vx_Post XC mc ms free) := vx_callBack cw.1 hM hp.1
  obtain ⟨⟨-, -, -, -, -, -, hcode, -, hy, hlen, hl⟩, hin, hse⟩ := cw
  obtain ⟨hx, hb, hml, ho, -⟩ := S
  obtain ⟨-, ⟨cellB, hcB, hoB, hclB⟩, hPc⟩ := hp
  intro T hT X
  rcases vx_callV X hx (C := C) (bytes := bytes) (maxL := maxL) (ret := ret) ho hl hin hse hcode hy hK (by rw [hT]; exact hcB) hoB hclB hg (hsize.trans hml.symm) (argsL := As) (rest := rest) (fun sig h => hn.trans (hlen sig h)) hstack hW (by rw [hb]; exact hdg)
    (fun vm₁ hW₁ => ⟨hf.1, hf.2, hPc (T.setVm vm₁) hT hW₁⟩) with ⟨v, vm₁, ⟨U', l2, c2, s2⟩, hW₁, X', ⟨g', mk, t, L, e1, e2, hq, h1, hL, h2, h3⟩, st⟩ | ⟨q, vm₁, ⟨U', l2, c2, s2⟩, hW₁, X', ⟨g', mk, t, L, E, ce, e1, e2, hq, hce, hcv, hcl, h1, hL, h2, h3⟩, st⟩
  · dsimp only [Pt.U, Pt.locs, Pt.cells, Pt.slots] at X' e1 e2 h1 h2 h3 st
    subst h1; subst h2; subst h3
    exact Or.inl ⟨v, (T.setVm vm₁).calling g' mk (Value.ref b :: As).toArray, t, U', L, hT, X', hL, e1, e2, hq, st⟩
  · dsimp only [Pt.U, Pt.locs, Pt.cells, Pt.slots] at X' e1 e2 h1 h2 h3 st hcl
    subst h1; subst h2; subst h3
    exact Or.inr ⟨q, (T.setVm vm₁).calling g' mk (Value.ref b :: As).toArray, t, U', L, E, ce, hT, X', hL, e1, e2, hq, hce, hcv, vx_cls hW₁ hcl, st⟩
theorem vx_runS (S : CallFix p m c cc nL s args Ts own) (hM : vx_Met l y ws rm Pc Qc XC mc ms free) (cw : CallB R s args own index y bytes maxL ret ws rm mc ms n ∧ (Cond.static y).before args s = true) (hp : PreS s H Pc As)
    (hg : g.method = m) (hn : As.length = n) (hsize : g.locals.size = nL) (hstack : g.stack = As.reverse ++ rest) (hW : 2 * g.monitorRoom + (rest.map fun v => v.category).sum ≤ 8) (hdg : decode cc g.pc = .ok (.invokestatic index, 3)) (hf : cells + mc ≤ R.cells ∧ slots + ms ≤ R.slots) :
    vx_Run p l e R s m args below meth c H locs cells slots mc ms g rest (Qc As.toArray) XC free := by
  have hK : vx_Back l R p e below s args y 3 8 (PreOf R mc ms Pc) (PostOf Qc mc ms free) (vx_Post XC mc ms free) := vx_callBack cw.1 hM hp.1
  obtain ⟨⟨-, -, -, -, -, -, hcode, hini, hy, hlen, hl⟩, hstt⟩ := cw
  obtain ⟨hx, hb, hml, ho, -⟩ := S
  intro T hT X
  rcases vx_callS X hx (bytes := bytes) (maxL := maxL) (ret := ret) ho hl hstt hini hcode hy hK hg (hsize.trans hml.symm) (argsL := As) (rest := rest) (fun sig h => hn.trans (hlen sig h)) hstack hW (by rw [hb]; exact hdg)
    (fun vm₁ hW₁ => ⟨hf.1, hf.2, hp.2 (T.setVm vm₁) hT hW₁⟩) with ⟨v, vm₁, ⟨U', l2, c2, s2⟩, hW₁, X', ⟨g', mk, t, L, e1, e2, hq, h1, hL, h2, h3⟩, st⟩ | ⟨q, vm₁, ⟨U', l2, c2, s2⟩, hW₁, X', ⟨g', mk, t, L, E, ce, e1, e2, hq, hce, hcv, hcl, h1, hL, h2, h3⟩, st⟩
  · dsimp only [Pt.U, Pt.locs, Pt.cells, Pt.slots] at X' e1 e2 h1 h2 h3 st
    subst h1; subst h2; subst h3
    exact Or.inl ⟨v, (T.setVm vm₁).calling g' mk As.toArray, t, U', L, hT, X', hL, e1, e2, hq, st⟩
  · dsimp only [Pt.U, Pt.locs, Pt.cells, Pt.slots] at X' e1 e2 h1 h2 h3 st hcl
    subst h1; subst h2; subst h3
    exact Or.inr ⟨q, (T.setVm vm₁).calling g' mk As.toArray, t, U', L, E, ce, hT, X', hL, e1, e2, hq, hce, hcv, vx_cls hW₁ hcl, st⟩
end Runs
section Rows
variable {p : Program} {l : Launch} {e : Env} {R : Room} {s : State} {m : MethodId} {args : Array Value} {below : List Frame} {meth : Method} {c : Code} {H : Heap} {locs : List Loc} {cells slots : Nat} {Q : State → Prop}
variable {mc ms : Nat} {free : Addr → Prop} {A0 A1 : Nat → Prop} {H0 : Heap} {a : Array Value} {pc : Nat} {ls : Array Slot} {st0 rest : List Value}
theorem vx_keep {st₀ t T' : State} {L : List Loc} (h0 : st₀.heap = H) (e1 : T'.heap = t.heap) (hS : va_S A0 H0 H locs) (hA : ∀ q, q < H.size → A1 q → A0 q) (hf : ∀ q, free q → A0 q) (hL : ∀ q ∈ L, free q.base) (hF : va_F A1 st₀ t) :
    H.size ≤ T'.heap.size ∧ (∀ q : Nat, q < H.size → ¬ A1 q → T'.heap[q]? = H[q]?) ∧ va_S A0 H0 T'.heap (locs ++ L) := by
  obtain ⟨hz, hk⟩ := hF
  rw [h0] at hz hk
  exact ⟨by rw [e1]; exact hz, fun q h1 h2 => by rw [e1]; exact hk q h1 h2,
    ⟨Nat.le_trans hS.1 (by rw [e1]; exact hz), fun q h1 h2 => by rw [e1, hk q (Nat.lt_of_lt_of_le h1 hS.1) (fun z => h2 (hA q (Nat.lt_of_lt_of_le h1 hS.1) z))]; exact hS.2.1 q h1 h2, fun q hq => by
      rcases List.mem_append.mp hq with h | h
      · exact hS.2.2 q h
      · exact hf _ (hL q h)⟩⟩
theorem vx_calli {S SX : Type} {post : Int32 → S → Prop} {px : SX → Prop} {B : S → State → Prop} {BX : String → SX → State → Prop} {AX : Nat → Prop} (hr : vx_Run p l e R s m args below meth c H locs cells slots mc ms (F0 m pc ls st0) rest (va_Qi post B A1 a) (vx_X px BX AX) free) (hS : va_S A0 H0 H locs) (hA : ∀ q, q < H.size → A1 q → A0 q) (hf : ∀ q, free q → A0 q) (hAX : ∀ q, q < H.size → AX q → A0 q)
    (kx : ∀ (E : String) (ce : Cell) (q9 : Addr) (u : SX) (t : State) (H1 : Heap) (locs1 : List Loc), t.heap = H1 → s.vm.Alike t.vm → px u → BX E u t → H.size ≤ H1.size → (∀ q : Nat, q < H.size → ¬ AX q → H1[q]? = H[q]?) → va_S A0 H0 H1 locs1 → H1[q9]? = some ce → ce.vm = .none → s.vm.findClass E = some ce.cls → vx_W p l e R s m args below meth c H1 locs1 (cells + mc) (slots + ms) Q (F0 m pc ls rest) q9)
    (kk : ∀ (r : Int32) (u : S) (t : State) (H1 : Heap) (locs1 : List Loc), t.heap = H1 → s.vm.Alike t.vm → post r u → B u t → H.size ≤ H1.size → (∀ q : Nat, q < H.size → ¬ A1 q → H1[q]? = H[q]?) → va_S A0 H0 H1 locs1 → W p l e R s m args below meth c H1 locs1 (cells + mc) (slots + ms) Q (F0 m (pc + 3) ls (.int r :: rest))) : W p l e R s m args below meth c H locs cells slots Q (F0 m pc ls st0) := by
  intro T hT X
  rcases hr T hT X with ⟨v, st₀, t, T', L, h0, X', hL, e1, e2, ⟨⟨r, u, hv, hp, hb⟩, hF⟩, st⟩ | ⟨q, st₀, t, T', L, E, ce, h0, X', hL, e1, e2, ⟨u, hp, hb, hF⟩, hce, hcv, hcl, st⟩
  · cases hv
    obtain ⟨k1, k2, k3⟩ := vx_keep h0 e1 hS hA hf hL hF
    obtain ⟨t2, a1, b1⟩ := kk r u t T'.heap (locs ++ L) e1.symm (by rw [← e2]; exact X'.warmed.alike) hp hb k1 k2 k3 T' rfl X'
    exact ⟨t2, st t2 a1, b1⟩
  · obtain ⟨k1, k2, k3⟩ := vx_keep h0 e1 hS hAX hf hL hF
    obtain ⟨t2, a1, b1⟩ := kx E ce q u t T'.heap (locs ++ L) e1.symm (by rw [← e2]; exact X'.warmed.alike) hp hb k1 k2 k3 (by rw [e1]; exact hce) hcv hcl T' rfl X'
    exact ⟨t2, st.trans a1, b1⟩
theorem vx_calll {S SX : Type} {post : Int64 → S → Prop} {px : SX → Prop} {B : S → State → Prop} {BX : String → SX → State → Prop} {AX : Nat → Prop} (hr : vx_Run p l e R s m args below meth c H locs cells slots mc ms (F0 m pc ls st0) rest (va_Ql post B A1 a) (vx_X px BX AX) free) (hS : va_S A0 H0 H locs) (hA : ∀ q, q < H.size → A1 q → A0 q) (hf : ∀ q, free q → A0 q) (hAX : ∀ q, q < H.size → AX q → A0 q)
    (kx : ∀ (E : String) (ce : Cell) (q9 : Addr) (u : SX) (t : State) (H1 : Heap) (locs1 : List Loc), t.heap = H1 → s.vm.Alike t.vm → px u → BX E u t → H.size ≤ H1.size → (∀ q : Nat, q < H.size → ¬ AX q → H1[q]? = H[q]?) → va_S A0 H0 H1 locs1 → H1[q9]? = some ce → ce.vm = .none → s.vm.findClass E = some ce.cls → vx_W p l e R s m args below meth c H1 locs1 (cells + mc) (slots + ms) Q (F0 m pc ls rest) q9)
    (kk : ∀ (r : Int64) (u : S) (t : State) (H1 : Heap) (locs1 : List Loc), t.heap = H1 → s.vm.Alike t.vm → post r u → B u t → H.size ≤ H1.size → (∀ q : Nat, q < H.size → ¬ A1 q → H1[q]? = H[q]?) → va_S A0 H0 H1 locs1 → W p l e R s m args below meth c H1 locs1 (cells + mc) (slots + ms) Q (F0 m (pc + 3) ls (.long r :: rest))) : W p l e R s m args below meth c H locs cells slots Q (F0 m pc ls st0) := by
  intro T hT X
  rcases hr T hT X with ⟨v, st₀, t, T', L, h0, X', hL, e1, e2, ⟨⟨r, u, hv, hp, hb⟩, hF⟩, st⟩ | ⟨q, st₀, t, T', L, E, ce, h0, X', hL, e1, e2, ⟨u, hp, hb, hF⟩, hce, hcv, hcl, st⟩
  · cases hv
    obtain ⟨k1, k2, k3⟩ := vx_keep h0 e1 hS hA hf hL hF
    obtain ⟨t2, a1, b1⟩ := kk r u t T'.heap (locs ++ L) e1.symm (by rw [← e2]; exact X'.warmed.alike) hp hb k1 k2 k3 T' rfl X'
    exact ⟨t2, st t2 a1, b1⟩
  · obtain ⟨k1, k2, k3⟩ := vx_keep h0 e1 hS hAX hf hL hF
    obtain ⟨t2, a1, b1⟩ := kx E ce q u t T'.heap (locs ++ L) e1.symm (by rw [← e2]; exact X'.warmed.alike) hp hb k1 k2 k3 (by rw [e1]; exact hce) hcv hcl T' rfl X'
    exact ⟨t2, st.trans a1, b1⟩
theorem vx_callf {S SX : Type} {post : UInt32 → S → Prop} {px : SX → Prop} {B : S → State → Prop} {BX : String → SX → State → Prop} {AX : Nat → Prop} (hr : vx_Run p l e R s m args below meth c H locs cells slots mc ms (F0 m pc ls st0) rest (va_Qf post B A1 a) (vx_X px BX AX) free) (hS : va_S A0 H0 H locs) (hA : ∀ q, q < H.size → A1 q → A0 q) (hf : ∀ q, free q → A0 q) (hAX : ∀ q, q < H.size → AX q → A0 q)
    (kx : ∀ (E : String) (ce : Cell) (q9 : Addr) (u : SX) (t : State) (H1 : Heap) (locs1 : List Loc), t.heap = H1 → s.vm.Alike t.vm → px u → BX E u t → H.size ≤ H1.size → (∀ q : Nat, q < H.size → ¬ AX q → H1[q]? = H[q]?) → va_S A0 H0 H1 locs1 → H1[q9]? = some ce → ce.vm = .none → s.vm.findClass E = some ce.cls → vx_W p l e R s m args below meth c H1 locs1 (cells + mc) (slots + ms) Q (F0 m pc ls rest) q9)
    (kk : ∀ (r : UInt32) (u : S) (t : State) (H1 : Heap) (locs1 : List Loc), t.heap = H1 → s.vm.Alike t.vm → post r u → B u t → H.size ≤ H1.size → (∀ q : Nat, q < H.size → ¬ A1 q → H1[q]? = H[q]?) → va_S A0 H0 H1 locs1 → W p l e R s m args below meth c H1 locs1 (cells + mc) (slots + ms) Q (F0 m (pc + 3) ls (.float r :: rest))) : W p l e R s m args below meth c H locs cells slots Q (F0 m pc ls st0) := by
  intro T hT X
  rcases hr T hT X with ⟨v, st₀, t, T', L, h0, X', hL, e1, e2, ⟨⟨r, u, hv, hp, hb⟩, hF⟩, st⟩ | ⟨q, st₀, t, T', L, E, ce, h0, X', hL, e1, e2, ⟨u, hp, hb, hF⟩, hce, hcv, hcl, st⟩
  · cases hv
    obtain ⟨k1, k2, k3⟩ := vx_keep h0 e1 hS hA hf hL hF
    obtain ⟨t2, a1, b1⟩ := kk r u t T'.heap (locs ++ L) e1.symm (by rw [← e2]; exact X'.warmed.alike) hp hb k1 k2 k3 T' rfl X'
    exact ⟨t2, st t2 a1, b1⟩
  · obtain ⟨k1, k2, k3⟩ := vx_keep h0 e1 hS hAX hf hL hF
    obtain ⟨t2, a1, b1⟩ := kx E ce q u t T'.heap (locs ++ L) e1.symm (by rw [← e2]; exact X'.warmed.alike) hp hb k1 k2 k3 (by rw [e1]; exact hce) hcv hcl T' rfl X'
    exact ⟨t2, st.trans a1, b1⟩
theorem vx_calld {S SX : Type} {post : UInt64 → S → Prop} {px : SX → Prop} {B : S → State → Prop} {BX : String → SX → State → Prop} {AX : Nat → Prop} (hr : vx_Run p l e R s m args below meth c H locs cells slots mc ms (F0 m pc ls st0) rest (va_Qd post B A1 a) (vx_X px BX AX) free) (hS : va_S A0 H0 H locs) (hA : ∀ q, q < H.size → A1 q → A0 q) (hf : ∀ q, free q → A0 q) (hAX : ∀ q, q < H.size → AX q → A0 q)
    (kx : ∀ (E : String) (ce : Cell) (q9 : Addr) (u : SX) (t : State) (H1 : Heap) (locs1 : List Loc), t.heap = H1 → s.vm.Alike t.vm → px u → BX E u t → H.size ≤ H1.size → (∀ q : Nat, q < H.size → ¬ AX q → H1[q]? = H[q]?) → va_S A0 H0 H1 locs1 → H1[q9]? = some ce → ce.vm = .none → s.vm.findClass E = some ce.cls → vx_W p l e R s m args below meth c H1 locs1 (cells + mc) (slots + ms) Q (F0 m pc ls rest) q9)
    (kk : ∀ (r : UInt64) (u : S) (t : State) (H1 : Heap) (locs1 : List Loc), t.heap = H1 → s.vm.Alike t.vm → post r u → B u t → H.size ≤ H1.size → (∀ q : Nat, q < H.size → ¬ A1 q → H1[q]? = H[q]?) → va_S A0 H0 H1 locs1 → W p l e R s m args below meth c H1 locs1 (cells + mc) (slots + ms) Q (F0 m (pc + 3) ls (.double r :: rest))) : W p l e R s m args below meth c H locs cells slots Q (F0 m pc ls st0) := by
  intro T hT X
  rcases hr T hT X with ⟨v, st₀, t, T', L, h0, X', hL, e1, e2, ⟨⟨r, u, hv, hp, hb⟩, hF⟩, st⟩ | ⟨q, st₀, t, T', L, E, ce, h0, X', hL, e1, e2, ⟨u, hp, hb, hF⟩, hce, hcv, hcl, st⟩
  · cases hv
    obtain ⟨k1, k2, k3⟩ := vx_keep h0 e1 hS hA hf hL hF
    obtain ⟨t2, a1, b1⟩ := kk r u t T'.heap (locs ++ L) e1.symm (by rw [← e2]; exact X'.warmed.alike) hp hb k1 k2 k3 T' rfl X'
    exact ⟨t2, st t2 a1, b1⟩
  · obtain ⟨k1, k2, k3⟩ := vx_keep h0 e1 hS hAX hf hL hF
    obtain ⟨t2, a1, b1⟩ := kx E ce q u t T'.heap (locs ++ L) e1.symm (by rw [← e2]; exact X'.warmed.alike) hp hb k1 k2 k3 (by rw [e1]; exact hce) hcv hcl T' rfl X'
    exact ⟨t2, st.trans a1, b1⟩
theorem vx_callv {S SX : Type} {post : S → Prop} {px : SX → Prop} {B : S → State → Prop} {BX : String → SX → State → Prop} {AX : Nat → Prop} (hr : vx_Run p l e R s m args below meth c H locs cells slots mc ms (F0 m pc ls st0) rest (va_Qv post B A1 a) (vx_X px BX AX) free) (hS : va_S A0 H0 H locs) (hA : ∀ q, q < H.size → A1 q → A0 q) (hf : ∀ q, free q → A0 q) (hAX : ∀ q, q < H.size → AX q → A0 q)
    (kx : ∀ (E : String) (ce : Cell) (q9 : Addr) (u : SX) (t : State) (H1 : Heap) (locs1 : List Loc), t.heap = H1 → s.vm.Alike t.vm → px u → BX E u t → H.size ≤ H1.size → (∀ q : Nat, q < H.size → ¬ AX q → H1[q]? = H[q]?) → va_S A0 H0 H1 locs1 → H1[q9]? = some ce → ce.vm = .none → s.vm.findClass E = some ce.cls → vx_W p l e R s m args below meth c H1 locs1 (cells + mc) (slots + ms) Q (F0 m pc ls rest) q9)
    (kk : ∀ (u : S) (t : State) (H1 : Heap) (locs1 : List Loc), t.heap = H1 → s.vm.Alike t.vm → post u → B u t → H.size ≤ H1.size → (∀ q : Nat, q < H.size → ¬ A1 q → H1[q]? = H[q]?) → va_S A0 H0 H1 locs1 → W p l e R s m args below meth c H1 locs1 (cells + mc) (slots + ms) Q (F0 m (pc + 3) ls (rest))) : W p l e R s m args below meth c H locs cells slots Q (F0 m pc ls st0) := by
  intro T hT X
  rcases hr T hT X with ⟨v, st₀, t, T', L, h0, X', hL, e1, e2, ⟨⟨u, hv, hp, hb⟩, hF⟩, st⟩ | ⟨q, st₀, t, T', L, E, ce, h0, X', hL, e1, e2, ⟨u, hp, hb, hF⟩, hce, hcv, hcl, st⟩
  · cases hv
    obtain ⟨k1, k2, k3⟩ := vx_keep h0 e1 hS hA hf hL hF
    obtain ⟨t2, a1, b1⟩ := kk u t T'.heap (locs ++ L) e1.symm (by rw [← e2]; exact X'.warmed.alike) hp hb k1 k2 k3 T' rfl X'
    exact ⟨t2, st t2 a1, b1⟩
  · obtain ⟨k1, k2, k3⟩ := vx_keep h0 e1 hS hAX hf hL hF
    obtain ⟨t2, a1, b1⟩ := kx E ce q u t T'.heap (locs ++ L) e1.symm (by rw [← e2]; exact X'.warmed.alike) hp hb k1 k2 k3 (by rw [e1]; exact hce) hcv hcl T' rfl X'
    exact ⟨t2, st.trans a1, b1⟩
/-- caught by the row x of this method's table; the rows ahead don't take it -/
theorem vx_catch {own name : String} {E : String} {ce : Cell} {q : Addr} (hown : s.vm.findClass own = some m.cls) (pre : List ExceptionTableEntry) (x : ExceptionTableEntry) (suf : List ExceptionTableEntry) (hsplit : c.exceptionTable.toList = pre ++ x :: suf)
    (hpass : ∀ z ∈ pre, covers z pc = false ∨ (z.catchType ≠ 0 ∧ ∃ nm : String, (Cond.classLink own z.catchType nm).before args s = true ∧ va_Nc E nm s)) (hx : covers x pc = true) (h0 : x.catchType ≠ 0)
    (hlink : (Cond.classLink own x.catchType name).before args s = true) (hcast : (Cond.castable E name).before args s = true) (hcell : H[q]? = some ce) (hv : ce.vm = .none) (hcl : s.vm.findClass E = some ce.cls)
    (kk : W p l e R s m args below meth c H locs cells slots Q (F0 m x.handlerPc ls [.ref q])) : vx_W p l e R s m args below meth c H locs cells slots Q (F0 m pc ls rest) q := by
  intro T hT X
  have hpl : e.platform.magicAccessors = ({} : Platform).magicAccessors := by rw [X.admits.platform]
  obtain ⟨c3, c4, hc3, hc4, hasg⟩ := Cond.castable_spec hcast
  cases Option.some.inj (hc3.symm.trans hcl)
  obtain ⟨c5, hc5, hcl5⟩ := Cond.classLink_spec hown hlink e.platform hpl
  cases Option.some.inj (hc4.symm.trans hc5)
  obtain ⟨vm', X', st⟩ := X.thenCaughtThrough q (g := F0 m pc ls rest) rfl (Steps.refl _) (by rw [hT]; exact hcell) (by rw [hv]; rfl) (by obtain ⟨k9, h9, -⟩ := Vm.findClass_spec hcl; exact ⟨k9, h9⟩) pre x suf hsplit
    (fun z hz => by
      rcases hpass z hz with h | ⟨hz0, nm, hl1, hn1⟩
      · exact Or.inl h
      · obtain ⟨c6, hc6, hcl6⟩ := Cond.classLink_spec hown hl1 e.platform hpl
        obtain ⟨a8, b8, h1, h2, h3⟩ := hn1
        cases Option.some.inj (h1.symm.trans hcl)
        cases Option.some.inj (h2.symm.trans hc6)
        exact Or.inr ⟨hz0, _, hcl6, h3⟩) hx (Or.inr ⟨h0, c4, hcl5, hasg⟩)
  obtain ⟨t, a1, b1⟩ := kk (T.setVm vm') hT X'
  exact ⟨t, st.trans a1, b1⟩
end Rows
section Ends
variable {p : Program} {l : Launch} {e : Env} {R : Room} {s : State} {m : MethodId} {args : Array Value} {below : List Frame} {meth : Method} {c : Code} {H : Heap} {locs : List Loc} {cells slots : Nat} {Q : State → Prop}
variable {mc ms : Nat} {free : Addr → Prop} {A0 A1 : Nat → Prop} {H0 : Heap} {a : Array Value} {ls : Array Slot} {st0 rest : List Value}
variable {Qc : Array Value → State → Outcome → State → Prop} {XC : String → State → State → Prop}
/-- what a body that may throw owes at its end -/
def vx_MQ (below : List Frame) (Qc : Array Value → State → Outcome → State → Prop) (XC : String → State → State → Prop) (a : Array Value) (s : State) (mc ms : Nat) (free : Addr → Prop) : State → Prop := fun t =>
  ∃ o, t.status = .running ∧ Ended t below o ∧ vx_Q Qc XC mc ms free a s o t
theorem vx_ret {g : JFrame} {mc ms : Nat} (k : W p l e R s m args below meth c H locs cells slots (MQ below Qc args s mc ms free) g) : W p l e R s m args below meth c H locs cells slots (vx_MQ below Qc XC args s mc ms free) g := by
  intro T hT X
  obtain ⟨t, a1, o, b1, b2, b3, b4⟩ := k T hT X
  exact ⟨t, a1, o, b1, b2, Or.inl ⟨b3, b4⟩⟩
/-- not caught here: it goes on to the caller -/
theorem vx_widen {g : JFrame} {q : Addr} {k n : Nat} (h1 : cells ≤ k) (h2 : slots ≤ n) (kk : vx_W p l e R s m args below meth c H locs k n Q g q) : vx_W p l e R s m args below meth c H locs cells slots Q g q := fun T hT X => kk T hT (stand_widen X h1 h2)
theorem vx_out {pc : Nat} {E : String} {ce : Cell} {q : Addr} {mc ms : Nat} (hout : ∀ x ∈ c.exceptionTable.toList, covers x pc = false) (hlocks : meth.locks = false) (hcell : H[q]? = some ce) (hv : ce.vm = .none) (hcl : s.vm.findClass E = some ce.cls)
    (hx : ∀ t : State, t.heap = H → s.vm.Alike t.vm → XC E s t) (hf : ∀ z ∈ locs, free z.base) (hc : cells ≤ mc) (hs : slots ≤ ms) :
    vx_W p l e R s m args below meth c H locs cells slots (vx_MQ below Qc XC args s mc ms free) (F0 m pc ls rest) q := by
  intro T hT X
  obtain ⟨st1, hrun, hend, hW, hsm⟩ := X.leaveThrown q (g := F0 m pc ls rest) rfl rfl rfl hout hlocks
  have hcell9 : (T.setFrames (.throwing q :: below)).heap[q]? = some ce := by
    show T.heap[q]? = some ce
    rw [hT]; exact hcell
  exact ⟨_, st1, .threw q, hrun, hend, Or.inr ⟨q, rfl, E, ce, locs, hx _ hT hW.alike, hcell9, hv, hcl, hW, hsm.mono hc hs, hf⟩⟩
theorem vx_frame {U : State} {k n : Nat} (h : s.sameButNew ({ U with vm := s.vm } : State) locs k n) : s.heap.size ≤ U.heap.size ∧ ∀ q : Nat, q < s.heap.size → (∀ z ∈ locs, z.base ≠ q) → U.heap[q]? = s.heap[q]? := by
  obtain ⟨-, h2, -, -, -, h6⟩ := h
  refine ⟨h2, fun q hq hz => ?_⟩
  obtain ⟨c9, e1, e2, e3, e4⟩ := h6 q _ (Array.getElem?_eq_getElem hq)
  have hs : c9.slots = (s.heap[q]).slots := Array.ext_getElem? fun i => e4 i fun hm => hz _ hm rfl
  have h9 : c9 = s.heap[q] := by
    rw [hs] at e2
    exact e2
  have e5 : U.heap[q]? = some c9 := e1
  rw [e5, h9, Array.getElem?_eq_getElem hq]
/-- the words of a throw but the four that speak of the heap -/
def vx_no (w : Cond) : Bool := decide (w ≠ .isRef (.static Bundle.tN "UNASSIGNED_STACK" Bundle.steD)) && decide (w ≠ .isRef (.static Bundle.tN "SUPPRESSED_SENTINEL" Bundle.listD)) && decide (w ≠ .laysStatic Bundle.tN "UNASSIGNED_STACK" Bundle.steD) && decide (w ≠ .laysStatic Bundle.tN "SUPPRESSED_SENTINEL" Bundle.listD)
def vx_at0 (own : String) (ic : Nat) (X : String) (names : List String) : List Cond := (Bundle.ownAtoms0 own ic X names).filter vx_no
def vx_atS (own : String) (ic : Nat) (X : String) (names : List String) : List Cond := (Bundle.ownAtoms own ic X names).filter vx_no
/-- a word that the tables alone decide, or a good one -/
def vx_ot (w : Cond) : Bool := w.onTables || goodWord w
theorem vx_ot_at {args a' : Array Value} {s U : State} {w : Cond} (hW : s.WarmedH U.vm) (hvm : s.vm = U.vm) (hg : vx_ot w = true) (h : w.before args s = true) : w.before a' U = true := by
  simp only [vx_ot, Bool.or_eq_true] at hg
  rcases hg with hg | hg
  · exact va_tabs hg hvm h
  · exact word_at hW (good_of_word hg) h
/-- a list's words: the good ones out of the method's own list, the others by premises of their own -/
theorem vx_hat {args : Array Value} {s : State} {L B : List Cond} (h1 : ∀ w ∈ L.filter goodWord, w.before args s = true) (h2 : ∀ w ∈ L.filter (fun w => !goodWord w), w ∈ B) (h3 : ∀ w ∈ B, w.before args s = true) : ∀ w ∈ L, w.before args s = true := by
  intro w hw
  by_cases g : goodWord w = true
  · exact h1 w (List.mem_filter.mpr ⟨hw, g⟩)
  · refine h3 w (h2 w (List.mem_filter.mpr ⟨hw, ?_⟩))
    show (!goodWord w) = true
    cases hgw : goodWord w
    · rfl
    · exact absurd hgw g
theorem vx_c {args : Array Value} {s : State} {w : Cond} {B : List Cond} (h : w.before args s = true) (t : ∀ w ∈ B, w.before args s = true) : ∀ w' ∈ w :: B, w'.before args s = true := fun w' h' => (List.mem_cons.mp h').elim (fun e => by rw [e]; exact h) (t w')
theorem vx_n {args : Array Value} {s : State} : ∀ w ∈ ([] : List Cond), w.before args s = true := fun _ h => nomatch h
theorem vx_own {args : Array Value} {s : State} {L : List Cond} (h1 : ∀ w ∈ L.filter vx_no, w.before args s = true)
    (hU : (Cond.isRef (.static Bundle.tN "UNASSIGNED_STACK" Bundle.steD)).before args s = true) (hN : (Cond.isRef (.static Bundle.tN "SUPPRESSED_SENTINEL" Bundle.listD)).before args s = true)
    (lU : (Cond.laysStatic Bundle.tN "UNASSIGNED_STACK" Bundle.steD).before args s = true) (lN : (Cond.laysStatic Bundle.tN "SUPPRESSED_SENTINEL" Bundle.listD).before args s = true) : ∀ w ∈ L, w.before args s = true := by
  intro w hw
  by_cases e1 : w = .isRef (.static Bundle.tN "UNASSIGNED_STACK" Bundle.steD)
  · rw [e1]; exact hU
  · by_cases e2 : w = .isRef (.static Bundle.tN "SUPPRESSED_SENTINEL" Bundle.listD)
    · rw [e2]; exact hN
    · by_cases e3 : w = .laysStatic Bundle.tN "UNASSIGNED_STACK" Bundle.steD
      · rw [e3]; exact lU
      · by_cases e4 : w = .laysStatic Bundle.tN "SUPPRESSED_SENTINEL" Bundle.listD
        · rw [e4]; exact lN
        · exact h1 w (List.mem_filter.mpr ⟨hw, by unfold vx_no; rw [decide_eq_true e1, decide_eq_true e2, decide_eq_true e3, decide_eq_true e4]; rfl⟩)
/-- where a static field lies, its class's statics cell in H -/
def vx_L (C n d : String) (A : Nat → Prop) (U : State) (H : Heap) : Prop := ∃ (c : ClassId) (k : Class) (i : Nat) (f : Field) (a : Nat) (cell : Cell), U.vm.findClass C = some c ∧ U.fieldFound? C n d = some (c, k, i, f) ∧ f.isStatic = true ∧ k.statics = some a ∧ H[a]? = some cell ∧ cell.vm.isStatics = true ∧ cell.cls = c ∧ f.slot < cell.slots.size ∧ k.staticTypes[f.slot]? = some f.type ∧ ¬ A a
theorem vx_L.moved {C n d : String} {A : Nat → Prop} {u U : State} {H : Heap} (hvm : u.vm.Alike U.vm) (h : vx_L C n d A u H) : vx_L C n d A U H := by
  obtain ⟨c, k, i, f, a, cell, h1, h2, h3, h4, h5, h6, h7, h8, h9, h10⟩ := h
  obtain ⟨k', hi', he⟩ := State.fieldFound?_setVm hvm h2
  exact ⟨c, k', i, f, a, cell, by rw [hvm.findClass]; exact h1, hi', h3, by rw [he]; exact h4, h5, h6, h7, h8, by rw [he]; exact h9, h10⟩
theorem vx_L.kept {C n d : String} {A : Nat → Prop} {U : State} {H H1 : Heap} (h : vx_L C n d A U H) (hq : ∀ a : Nat, a < H.size → ¬ A a → H1[a]? = H[a]?) : vx_L C n d A U H1 := by
  obtain ⟨c, k, i, f, a, cell, h1, h2, h3, h4, h5, h6, h7, h8, h9, h10⟩ := h
  exact ⟨c, k, i, f, a, cell, h1, h2, h3, h4, by rw [hq a (Array.getElem?_eq_some_iff.mp h5).1 h10]; exact h5, h6, h7, h8, h9, h10⟩
theorem vx_L.narrow {C n d : String} {A B : Nat → Prop} {U : State} {H : Heap} (h : vx_L C n d A U H) (hAB : ∀ q, B q → A q) : vx_L C n d B U H := by
  obtain ⟨c, k, i, f, a, cell, h1, h2, h3, h4, h5, h6, h7, h8, h9, h10⟩ := h
  exact ⟨c, k, i, f, a, cell, h1, h2, h3, h4, h5, h6, h7, h8, h9, fun z => h10 (hAB _ z)⟩
theorem vx_L.word {C n d : String} {A : Nat → Prop} {s : State} {args : Array Value} (h : vx_L C n d A s s.heap) : (Cond.laysStatic C n d).before args s = true := by
  obtain ⟨c, k, i, f, a, cell, h1, h2, h3, h4, h5, h6, h7, h8, h9, -⟩ := h
  show (Cond.laysStatic C n d).holds args s none s [] = true
  exact Cond.laysStatic_of h1 h2 h3 h4 h5 h6 h7 h8 h9
/-- .. and what it holds: null or some reference -/
def vx_Zq (C n d : String) (A : Nat → Prop) (U : State) (H : Heap) : Prop := va_Zq C n d A U H ∧ vx_L C n d A U H
theorem vx_Zq.moved {C n d : String} {A : Nat → Prop} {u U : State} {H : Heap} (hvm : u.vm.Alike U.vm) (h : vx_Zq C n d A u H) : vx_Zq C n d A U H := ⟨va_Zq.moved hvm h.1, vx_L.moved hvm h.2⟩
theorem vx_Zq.kept {C n d : String} {A : Nat → Prop} {U : State} {H H1 : Heap} (h : vx_Zq C n d A U H) (hq : ∀ a : Nat, a < H.size → ¬ A a → H1[a]? = H[a]?) : vx_Zq C n d A U H1 := ⟨va_Zq.kept h.1 hq, vx_L.kept h.2 hq⟩
theorem vx_Zq.narrow {C n d : String} {A B : Nat → Prop} {U : State} {H : Heap} (h : vx_Zq C n d A U H) (hAB : ∀ q, B q → A q) : vx_Zq C n d B U H := ⟨va_Zq.narrow h.1 hAB, vx_L.narrow h.2 hAB⟩
theorem vx_Zqof {args : Array Value} {s : State} {C n d : String} {A : Nat → Prop} (hl : (Cond.laysStatic C n d).before args s = true) (hini : (Cond.initialized C).before args s = true) (h : (Cond.isRef (.static C n d)).before args s = true) (hA : ∀ a : Nat, a < s.heap.size → ¬ A a) : vx_Zq C n d A s s.heap := by
  refine ⟨va_Zqof hl hini h hA, ?_⟩
  obtain ⟨c, k, i, f, a, cell, h1, h2, h3, h4, h5, h6, h7, h8, h9⟩ := Cond.laysStatic_spec hl
  exact ⟨c, k, i, f, a, cell, h1, h2, h3, h4, h5, h6, h7, h8, h9, hA a (Array.getElem?_eq_some_iff.mp h5).1⟩
theorem vx_isRef {C n d : String} {v : Value} {A : Nat → Prop} {s : State} {args : Array Value} (h : va_Z C n d v A s s.heap) (hv : v.isRef = true) : (Cond.isRef (.static C n d)).before args s = true := by
  obtain ⟨cf, kf, fi, f, a, cell, h1, h2, h3, h4, h5, h6, h7, -⟩ := h
  have he : (Term.static C n d).eval args s none [] s = some v := by
    simp [Term.eval, State.fieldNamed?, h1, h2, h4, h5, h6, h7]
  simp only [Cond.before, Cond.holds, Cond.value, he]
  cases v <;> simp_all [Value.isRef]
theorem vx_isRefq {C n d : String} {A : Nat → Prop} {s : State} {args : Array Value} (h : va_Zq C n d A s s.heap) : (Cond.isRef (.static C n d)).before args s = true := by
  rcases h with h | ⟨t, h⟩
  · exact vx_isRef h rfl
  · exact vx_isRef h rfl
/-- the same frame, seen from here: as if the method were called anew in this heap -/
theorem vx_rebase {T : State} (X : Stand p l e R s m args below meth c T locs cells slots) {R' : Room} (hf : R'.frames ≤ R.frames) (hl : R'.locals ≤ R.locals) (hc : cells + R'.cells ≤ R.cells) (hs : slots + R'.slots ≤ R.slots) :
    Stand p l e R' ((T.setVm s.vm).setFrames (.invoking m args :: below)) m args below meth c T [] 0 0 := by
  have htop : (T.setVm s.vm).topJava?.isSome := X.here.top
  have hF : ((T.setVm s.vm).setFrames (.invoking m args :: below)).frames = .invoking m args :: below := State.frames_setFrames _ (State.cur_lt_of_top htop)
  obtain ⟨g₀, hg0⟩ := Option.isSome_iff_exists.mp htop
  obtain ⟨r, hr⟩ := State.topJava?_eq_some.mp hg0
  have hl9 : e.platform.stackLimits (T.setVm s.vm).me = e.platform.stackLimits s.me := X.limits
  have hb9 : (T.setVm s.vm).me.stackBytes = s.me.stackBytes := X.bytes
  refine ⟨X.admits, X.cas, X.clock, hF, ?_, X.hears, X.method, X.code, X.here, X.tail, X.warmed, ?_, ?_, ?_⟩
  · have h := X.room
    have hU : ((T.setVm s.vm).setFrames (.invoking m args :: below)).localsInUse = s.localsInUse := by
      rw [State.localsInUse_invoking hF (meth := meth) (c := c) X.method X.code, State.localsInUse_invoking X.frames X.method X.code]
    simp only [State.hasRoom, Bool.and_eq_true, decide_eq_true_eq] at h ⊢
    obtain ⟨⟨⟨⟨h1, h2, h3, h4, h5, h6⟩, h7⟩, h8⟩, h9⟩ := h
    rw [X.frames, List.length_cons] at h2 h3
    have q1 := X.heapSize
    have q2 := X.used
    simp only [hF, hU, List.length_cons, State.stackLimits_setFrames, State.stackBytes_setFrames, hl9, hb9]
    refine ⟨⟨⟨⟨by omega, by omega, by omega, by omega, by omega, h6⟩, ?_⟩, ?_⟩, X.book⟩
    · show T.heap.size + R'.cells ≤ e.platform.maxCells
      omega
    · show T.slotsUsed + R'.slots ≤ e.platform.maxSlots
      omega
  · rw [State.stackLimits_setFrames]; rfl
  · rw [State.stackBytes_setFrames]; rfl
  · refine ⟨?_, Nat.le_refl _, Nat.le_refl _, ?_, ?_, fun a c9 h9 => ⟨c9, h9, rfl, rfl, fun _ _ => rfl⟩⟩
    · obtain ⟨t, ht, -⟩ := State.frames_cons hr
      show T.setVm s.vm = { ((T.setVm s.vm).setFrames (.invoking m args :: below)).setFrames (T.setVm s.vm).frames with heap := T.heap, slotsUsed := T.slotsUsed }
      rw [State.setFrames_setFrames, State.setFrames_self ht]
      rfl
    · show T.slotsUsed = T.slotsUsed + ((T.heap.toList.drop T.heap.size).map (·.slots.size)).sum
      rw [List.drop_eq_nil_of_le (Nat.le_of_eq Array.length_toList)]
      rfl
    · show ((T.heap.toList.drop T.heap.size).map (·.slots.size)).sum ≤ 0
      rw [List.drop_eq_nil_of_le (Nat.le_of_eq Array.length_toList)]
      exact Nat.le_refl _
/-- 'throw new E()': new; dup; invokespecial; athrow -/
theorem vx_throw0 {cc : ByteArray} {pc : Nat} (hexec : p.tables.exec = Jvm.exec) (hb : c.code = cc) (hl : l.stackTraces = false) {own cls : String} {names : List String} {ik ic mc ms : Nat} {A : Nat → Prop}
    (hown : s.vm.findClass own = some m.cls) (hcls : Bundle.fit cls = true) (hnames : ∀ n ∈ names, Bundle.fit n = true)
    (hk : (Cond.classLink own ik cls).before args s = true) (hini : (Cond.initialized cls).before args s = true) (hat : ∀ w ∈ vx_at0 own ic cls names, w.before args s = true)
    (hgood : ∀ w ∈ Cond.classLink own ik cls :: Cond.initialized cls :: vx_at0 own ic cls names, vx_ot w = true)
    (hU : vx_Zq Bundle.tN "UNASSIGNED_STACK" Bundle.steD A s s.heap) (hN : vx_Zq Bundle.tN "SUPPRESSED_SENTINEL" Bundle.listD A s s.heap) (hS : va_S A s.heap H locs) (hsize : ls.size = c.maxLocals)
    (d0 : decode cc pc = .ok (.new ik, 3)) (d3 : decode cc (pc + 3) = .ok (.dup, 1)) (d4 : decode cc (pc + 4) = .ok (.invokespecial ic, 3)) (d7 : decode cc (pc + 7) = .ok (.athrow, 1))
    (hout : ∀ x ∈ c.exceptionTable.toList, covers x (pc + 7) = false)
    (hRframes : names.length + 3 < R.frames) (hRlocals : (rest.map fun v => v.category).sum + (13 * (names.length + 1) + 42) ≤ R.locals) (hRcells : cells + 1 ≤ R.cells) (hRslots : slots + 6 ≤ R.slots) (hlocks : meth.locks = false)
    (hx : ∀ t : State, s.vm.Alike t.vm → H.size ≤ t.heap.size → (∀ q : Nat, q < H.size → t.heap[q]? = H[q]?) → XC cls s t)
    (hf : ∀ z ∈ locs, free z.base) (hc : cells + 1 ≤ mc) (hs : slots + 6 ≤ ms) :
    W p l e R s m args below meth c H locs cells slots (vx_MQ below Qc XC args s mc ms free) (F0 m pc ls rest) := by
  intro T hT X
  have htr : e.platform.stackTraces = false := (show e.platform.stackTraces = l.stackTraces by rw [X.admits.platform]).trans hl
  have Y := vx_rebase X (R' := { frames := R.frames, locals := R.locals, cells := 1, slots := 6 }) (Nat.le_refl _) (Nat.le_refl _) hRcells hRslots
  obtain ⟨s', hA⟩ : ∃ z, z = (T.setVm s.vm).setFrames (.invoking m args :: below) := ⟨_, rfl⟩
  rw [← hA] at Y
  have hvm : s'.vm = s.vm := by rw [hA]; rfl
  have hhp : s'.heap = H := by rw [hA]; exact hT
  have hW0 : s.WarmedH s'.vm := by rw [hvm]; exact State.WarmedH.refl s
  have hat' : ∀ w ∈ vx_at0 own ic cls names, w.before args s' = true := fun w hw => vx_ot_at hW0 hvm.symm (hgood w (List.mem_cons_of_mem _ (List.mem_cons_of_mem _ hw))) (hat w hw)
  have hk' : (Cond.classLink own ik cls).before args s' = true := vx_ot_at hW0 hvm.symm (hgood _ List.mem_cons_self) hk
  have hini' : (Cond.initialized cls).before args s' = true := vx_ot_at hW0 hvm.symm (hgood _ (List.mem_cons_of_mem _ List.mem_cons_self)) hini
  have hU' : vx_Zq Bundle.tN "UNASSIGNED_STACK" Bundle.steD A s' s'.heap := by rw [hhp]; exact vx_Zq.moved hW0.alike (hU.kept hS.2.1)
  have hN' : vx_Zq Bundle.tN "SUPPRESSED_SENTINEL" Bundle.listD A s' s'.heap := by rw [hhp]; exact vx_Zq.moved hW0.alike (hN.kept hS.2.1)
  have h : ∀ w ∈ Bundle.ownAtoms0 own ic cls names, w.before args s' = true := vx_own hat' (vx_isRefq hU'.1) (vx_isRefq hN'.1) hU'.2.word hN'.2.word
  have hown' : s'.vm.findClass own = some m.cls := by rw [hvm]; exact hown
  have hins : (Cond.instantiable cls 6).before args s' = true := h _ (by simp [Bundle.ownAtoms0])
  obtain ⟨vm₁, cX, kX, hfX, hkX, -, -, X₁, st1⟩ := Y.newCold hexec (own := own) (C := cls) (index := ik) (n := 6) hown' hk' hins hini'
    (g := F0 m pc ls rest) rfl (by rw [hb]; exact d0) (Nat.le_refl _) (Nat.le_refl _)
  generalize hT1 : (T.setVm vm₁).pushCell { cls := cX, slots := kX.instanceTypes.map defaultValue, vm := .none } = T1 at X₁ st1
  have hcat : (Value.ref T.heap.size).category = 1 := rfl
  have hcellA : T1.heap[T.heap.size]? = some (freshCell cX kX) := by rw [← hT1]; exact State.heap_pushCell_size _ _
  have d3' : decode c.code (pc + 3) = .ok (.dup, 1) := by rw [hb]; exact d3
  obtain ⟨U, hsteps, hrun, hend, hW, hsame, ce, hce, hO⟩ := X₁.ctorThrow0 hexec htr (own := own) (cls := cls) (names := names) (ic := ic) hown' hcls hnames h (fun x hx => nomatch hx) hfX hkX hcellA (by rw [hhp, hT]; exact Nat.le_refl _)
    (g := { method := m, pc := pc + 4, locals := ls, stack := .ref T.heap.size :: .ref T.heap.size :: rest, locked := none }) rfl hsize rfl rfl (rest := rest) rfl
    (by rw [hb]; exact d4) (by rw [hb]; exact d7) hout hRframes (by simp only [List.map_cons, List.sum_cons, hcat]; omega) hlocks
  obtain ⟨f1, f2⟩ := vx_frame hsame
  rw [hhp] at f1 f2
  have hWs : s.WarmedH U.vm := State.WarmedH.trans hW0 hW
  have hcl : s.vm.findClass cls = some ce.cls := by
    have h9 := hO.cls
    rw [hvm] at h9
    exact h9
  have hall : s.sameButNew ({ U with vm := s.vm } : State) locs mc ms := by
    subst hA
    obtain ⟨e1, e2⟩ := hsame
    rw [State.setFrames_setFrames] at e1
    have h2 : (T.setVm s.vm).sameButNew ({ U with vm := s.vm } : State) [] (0 + 1) (0 + 6) := ⟨e1, e2⟩
    have h3 := X.same.trans h2
    rw [List.append_nil] at h3
    exact h3.mono hc hs
  refine ⟨U, ?_, .threw T.heap.size, hrun, hend, Or.inr ⟨T.heap.size, rfl, cls, ce, locs, hx U hWs.alike f1 (fun q hq => f2 q hq (fun z hz => nomatch hz)), hce, hO.vm, hcl, hWs, hall, hf⟩⟩
  refine st1 _ ?_
  show Steps p.tables e below (T1.setTop { method := m, pc := pc + 3, locals := ls, stack := .ref T.heap.size :: rest, locked := none }) _
  jvm_step X₁.here [X₁.here.top, hexec, d3', Value.category]
  exact hsteps
/-- 'throw new E("text")': new; dup; ldc; invokespecial; athrow -/
theorem vx_throwS {cc : ByteArray} {pc : Nat} (hexec : p.tables.exec = Jvm.exec) (hb : c.code = cc) (hl : l.stackTraces = false) {own cls text : String} {names : List String} {ik is ic mc ms sa : Nat} {A : Nat → Prop}
    (hown : s.vm.findClass own = some m.cls) (hcls : Bundle.fit cls = true) (hnames : ∀ n ∈ names, Bundle.fit n = true)
    (hk : (Cond.classLink own ik cls).before args s = true) (hini : (Cond.initialized cls).before args s = true) (hstr : vk_R own is text sa s) (hat : ∀ w ∈ vx_atS own ic cls names, w.before args s = true)
    (hgood : ∀ w ∈ Cond.classLink own ik cls :: Cond.initialized cls :: vx_atS own ic cls names, vx_ot w = true)
    (hU : vx_Zq Bundle.tN "UNASSIGNED_STACK" Bundle.steD A s s.heap) (hN : vx_Zq Bundle.tN "SUPPRESSED_SENTINEL" Bundle.listD A s s.heap) (hS : va_S A s.heap H locs) (hsize : ls.size = c.maxLocals)
    (d0 : decode cc pc = .ok (.new ik, 3)) (d3 : decode cc (pc + 3) = .ok (.dup, 1)) (d4 : decode cc (pc + 4) = .ok (.ldc is, 2)) (d6 : decode cc (pc + 6) = .ok (.invokespecial ic, 3)) (d9 : decode cc (pc + 9) = .ok (.athrow, 1))
    (hout : ∀ x ∈ c.exceptionTable.toList, covers x (pc + 9) = false)
    (hRframes : names.length + 3 < R.frames) (hRlocals : (rest.map fun v => v.category).sum + (13 * (names.length + 1) + 43) ≤ R.locals) (hRcells : cells + 1 ≤ R.cells) (hRslots : slots + 6 ≤ R.slots) (hlocks : meth.locks = false)
    (hx : ∀ t : State, s.vm.Alike t.vm → H.size ≤ t.heap.size → (∀ q : Nat, q < H.size → t.heap[q]? = H[q]?) → XC cls s t)
    (hf : ∀ z ∈ locs, free z.base) (hc : cells + 1 ≤ mc) (hs : slots + 6 ≤ ms) :
    W p l e R s m args below meth c H locs cells slots (vx_MQ below Qc XC args s mc ms free) (F0 m pc ls rest) := by
  intro T hT X
  have htr : e.platform.stackTraces = false := (show e.platform.stackTraces = l.stackTraces by rw [X.admits.platform]).trans hl
  have Y := vx_rebase X (R' := { frames := R.frames, locals := R.locals, cells := 1, slots := 6 }) (Nat.le_refl _) (Nat.le_refl _) hRcells hRslots
  obtain ⟨s', hA⟩ : ∃ z, z = (T.setVm s.vm).setFrames (.invoking m args :: below) := ⟨_, rfl⟩
  rw [← hA] at Y
  have hvm : s'.vm = s.vm := by rw [hA]; rfl
  have hhp : s'.heap = H := by rw [hA]; exact hT
  have hW0 : s.WarmedH s'.vm := by rw [hvm]; exact State.WarmedH.refl s
  have hat' : ∀ w ∈ vx_atS own ic cls names, w.before args s' = true := fun w hw => vx_ot_at hW0 hvm.symm (hgood w (List.mem_cons_of_mem _ (List.mem_cons_of_mem _ hw))) (hat w hw)
  have hk' : (Cond.classLink own ik cls).before args s' = true := vx_ot_at hW0 hvm.symm (hgood _ List.mem_cons_self) hk
  have hini' : (Cond.initialized cls).before args s' = true := vx_ot_at hW0 hvm.symm (hgood _ (List.mem_cons_of_mem _ List.mem_cons_self)) hini
  have hU' : vx_Zq Bundle.tN "UNASSIGNED_STACK" Bundle.steD A s' s'.heap := by rw [hhp]; exact vx_Zq.moved hW0.alike (hU.kept hS.2.1)
  have hN' : vx_Zq Bundle.tN "SUPPRESSED_SENTINEL" Bundle.listD A s' s'.heap := by rw [hhp]; exact vx_Zq.moved hW0.alike (hN.kept hS.2.1)
  have h : ∀ w ∈ Bundle.ownAtoms own ic cls names, w.before args s' = true := vx_own hat' (vx_isRefq hU'.1) (vx_isRefq hN'.1) hU'.2.word hN'.2.word
  have hown' : s'.vm.findClass own = some m.cls := by rw [hvm]; exact hown
  have hins : (Cond.instantiable cls 6).before args s' = true := h _ (by simp [Bundle.ownAtoms])
  obtain ⟨vm₁, cX, kX, hfX, hkX, -, -, X₁, st1⟩ := Y.newCold hexec (own := own) (C := cls) (index := ik) (n := 6) hown' hk' hins hini'
    (g := F0 m pc ls rest) rfl (by rw [hb]; exact d0) (Nat.le_refl _) (Nat.le_refl _)
  generalize hT1 : (T.setVm vm₁).pushCell { cls := cX, slots := kX.instanceTypes.map defaultValue, vm := .none } = T1 at X₁ st1
  have hcat : (Value.ref T.heap.size).category = 1 := rfl
  have hcellA : T1.heap[T.heap.size]? = some (freshCell cX kX) := by rw [← hT1]; exact State.heap_pushCell_size _ _
  have d3' : decode c.code (pc + 3) = .ok (.dup, 1) := by rw [hb]; exact d3
  have d4' : decode c.code (pc + 4) = .ok (.ldc is, 2) := by rw [hb]; exact d4
  have hstr' : vk_R own is text sa s' := vk_R.warm hW0 hstr
  obtain ⟨U, hsteps, hrun, hend, hW, hsame, ce, hce, hO⟩ := X₁.ctorThrowS hexec htr (own := own) (cls := cls) (names := names) (ic := ic) hown' hcls hnames h (fun x hx => nomatch hx) hfX hkX hcellA (by rw [hhp, hT]; exact Nat.le_refl _) (msg := .ref sa) rfl
    (g := { method := m, pc := pc + 6, locals := ls, stack := .ref sa :: .ref T.heap.size :: .ref T.heap.size :: rest, locked := none }) rfl hsize rfl rfl (rest := rest) rfl
    (by rw [hb]; exact d6) (by rw [hb]; exact d9) hout hRframes (by simp only [List.map_cons, List.sum_cons, hcat]; omega) hlocks
  obtain ⟨f1, f2⟩ := vx_frame hsame
  rw [hhp] at f1 f2
  have hWs : s.WarmedH U.vm := State.WarmedH.trans hW0 hW
  have hcl : s.vm.findClass cls = some ce.cls := by
    have h9 := hO.cls
    rw [hvm] at h9
    exact h9
  have hall : s.sameButNew ({ U with vm := s.vm } : State) locs mc ms := by
    subst hA
    obtain ⟨e1, e2⟩ := hsame
    rw [State.setFrames_setFrames] at e1
    have h2 : (T.setVm s.vm).sameButNew ({ U with vm := s.vm } : State) [] (0 + 1) (0 + 6) := ⟨e1, e2⟩
    have h3 := X.same.trans h2
    rw [List.append_nil] at h3
    exact h3.mono hc hs
  refine ⟨U, ?_, .threw T.heap.size, hrun, hend, Or.inr ⟨T.heap.size, rfl, cls, ce, locs, hx U hWs.alike f1 (fun q hq => f2 q hq (fun z hz => nomatch hz)), hce, hO.vm, hcl, hWs, hall, hf⟩⟩
  refine st1 _ ?_
  show Steps p.tables e below (T1.setTop { method := m, pc := pc + 3, locals := ls, stack := .ref T.heap.size :: rest, locked := none }) _
  jvm_step X₁.here [X₁.here.top, hexec, d3', Value.category]
  exact X₁.ldcString hexec (own := own) (text := text) (index := is) (a := sa) hown' hstr'.1 hstr'.2
    (g := { method := m, pc := pc + 4, locals := ls, stack := .ref T.heap.size :: .ref T.heap.size :: rest, locked := none }) rfl d4' _ hsteps
/-- 'throw new E("text")', the text by a wide index -/
theorem vx_throwSW {cc : ByteArray} {pc : Nat} (hexec : p.tables.exec = Jvm.exec) (hb : c.code = cc) (hl : l.stackTraces = false) {own cls text : String} {names : List String} {ik is ic mc ms sa : Nat} {A : Nat → Prop}
    (hown : s.vm.findClass own = some m.cls) (hcls : Bundle.fit cls = true) (hnames : ∀ n ∈ names, Bundle.fit n = true)
    (hk : (Cond.classLink own ik cls).before args s = true) (hini : (Cond.initialized cls).before args s = true) (hstr : vk_R own is text sa s) (hat : ∀ w ∈ vx_atS own ic cls names, w.before args s = true)
    (hgood : ∀ w ∈ Cond.classLink own ik cls :: Cond.initialized cls :: vx_atS own ic cls names, vx_ot w = true)
    (hU : vx_Zq Bundle.tN "UNASSIGNED_STACK" Bundle.steD A s s.heap) (hN : vx_Zq Bundle.tN "SUPPRESSED_SENTINEL" Bundle.listD A s s.heap) (hS : va_S A s.heap H locs) (hsize : ls.size = c.maxLocals)
    (d0 : decode cc pc = .ok (.new ik, 3)) (d3 : decode cc (pc + 3) = .ok (.dup, 1)) (d4 : decode cc (pc + 4) = .ok (.ldc_w is, 3)) (d7 : decode cc (pc + 7) = .ok (.invokespecial ic, 3)) (d10 : decode cc (pc + 10) = .ok (.athrow, 1))
    (hout : ∀ x ∈ c.exceptionTable.toList, covers x (pc + 10) = false)
    (hRframes : names.length + 3 < R.frames) (hRlocals : (rest.map fun v => v.category).sum + (13 * (names.length + 1) + 43) ≤ R.locals) (hRcells : cells + 1 ≤ R.cells) (hRslots : slots + 6 ≤ R.slots) (hlocks : meth.locks = false)
    (hx : ∀ t : State, s.vm.Alike t.vm → H.size ≤ t.heap.size → (∀ q : Nat, q < H.size → t.heap[q]? = H[q]?) → XC cls s t)
    (hf : ∀ z ∈ locs, free z.base) (hc : cells + 1 ≤ mc) (hs : slots + 6 ≤ ms) :
    W p l e R s m args below meth c H locs cells slots (vx_MQ below Qc XC args s mc ms free) (F0 m pc ls rest) := by
  intro T hT X
  have htr : e.platform.stackTraces = false := (show e.platform.stackTraces = l.stackTraces by rw [X.admits.platform]).trans hl
  have Y := vx_rebase X (R' := { frames := R.frames, locals := R.locals, cells := 1, slots := 6 }) (Nat.le_refl _) (Nat.le_refl _) hRcells hRslots
  obtain ⟨s', hA⟩ : ∃ z, z = (T.setVm s.vm).setFrames (.invoking m args :: below) := ⟨_, rfl⟩
  rw [← hA] at Y
  have hvm : s'.vm = s.vm := by rw [hA]; rfl
  have hhp : s'.heap = H := by rw [hA]; exact hT
  have hW0 : s.WarmedH s'.vm := by rw [hvm]; exact State.WarmedH.refl s
  have hat' : ∀ w ∈ vx_atS own ic cls names, w.before args s' = true := fun w hw => vx_ot_at hW0 hvm.symm (hgood w (List.mem_cons_of_mem _ (List.mem_cons_of_mem _ hw))) (hat w hw)
  have hk' : (Cond.classLink own ik cls).before args s' = true := vx_ot_at hW0 hvm.symm (hgood _ List.mem_cons_self) hk
  have hini' : (Cond.initialized cls).before args s' = true := vx_ot_at hW0 hvm.symm (hgood _ (List.mem_cons_of_mem _ List.mem_cons_self)) hini
  have hU' : vx_Zq Bundle.tN "UNASSIGNED_STACK" Bundle.steD A s' s'.heap := by rw [hhp]; exact vx_Zq.moved hW0.alike (hU.kept hS.2.1)
  have hN' : vx_Zq Bundle.tN "SUPPRESSED_SENTINEL" Bundle.listD A s' s'.heap := by rw [hhp]; exact vx_Zq.moved hW0.alike (hN.kept hS.2.1)
  have h : ∀ w ∈ Bundle.ownAtoms own ic cls names, w.before args s' = true := vx_own hat' (vx_isRefq hU'.1) (vx_isRefq hN'.1) hU'.2.word hN'.2.word
  have hown' : s'.vm.findClass own = some m.cls := by rw [hvm]; exact hown
  have hins : (Cond.instantiable cls 6).before args s' = true := h _ (by simp [Bundle.ownAtoms])
  obtain ⟨vm₁, cX, kX, hfX, hkX, -, -, X₁, st1⟩ := Y.newCold hexec (own := own) (C := cls) (index := ik) (n := 6) hown' hk' hins hini'
    (g := F0 m pc ls rest) rfl (by rw [hb]; exact d0) (Nat.le_refl _) (Nat.le_refl _)
  generalize hT1 : (T.setVm vm₁).pushCell { cls := cX, slots := kX.instanceTypes.map defaultValue, vm := .none } = T1 at X₁ st1
  have hcat : (Value.ref T.heap.size).category = 1 := rfl
  have hcellA : T1.heap[T.heap.size]? = some (freshCell cX kX) := by rw [← hT1]; exact State.heap_pushCell_size _ _
  have d3' : decode c.code (pc + 3) = .ok (.dup, 1) := by rw [hb]; exact d3
  have d4' : decode c.code (pc + 4) = .ok (.ldc_w is, 3) := by rw [hb]; exact d4
  have hstr' : vk_R own is text sa s' := vk_R.warm hW0 hstr
  obtain ⟨U, hsteps, hrun, hend, hW, hsame, ce, hce, hO⟩ := X₁.ctorThrowS hexec htr (own := own) (cls := cls) (names := names) (ic := ic) hown' hcls hnames h (fun x hx => nomatch hx) hfX hkX hcellA (by rw [hhp, hT]; exact Nat.le_refl _) (msg := .ref sa) rfl
    (g := { method := m, pc := pc + 7, locals := ls, stack := .ref sa :: .ref T.heap.size :: .ref T.heap.size :: rest, locked := none }) rfl hsize rfl rfl (rest := rest) rfl
    (by rw [hb]; exact d7) (by rw [hb]; exact d10) hout hRframes (by simp only [List.map_cons, List.sum_cons, hcat]; omega) hlocks
  obtain ⟨f1, f2⟩ := vx_frame hsame
  rw [hhp] at f1 f2
  have hWs : s.WarmedH U.vm := State.WarmedH.trans hW0 hW
  have hcl : s.vm.findClass cls = some ce.cls := by
    have h9 := hO.cls
    rw [hvm] at h9
    exact h9
  have hall : s.sameButNew ({ U with vm := s.vm } : State) locs mc ms := by
    subst hA
    obtain ⟨e1, e2⟩ := hsame
    rw [State.setFrames_setFrames] at e1
    have h2 : (T.setVm s.vm).sameButNew ({ U with vm := s.vm } : State) [] (0 + 1) (0 + 6) := ⟨e1, e2⟩
    have h3 := X.same.trans h2
    rw [List.append_nil] at h3
    exact h3.mono hc hs
  refine ⟨U, ?_, .threw T.heap.size, hrun, hend, Or.inr ⟨T.heap.size, rfl, cls, ce, locs, hx U hWs.alike f1 (fun q hq => f2 q hq (fun z hz => nomatch hz)), hce, hO.vm, hcl, hWs, hall, hf⟩⟩
  refine st1 _ ?_
  show Steps p.tables e below (T1.setTop { method := m, pc := pc + 3, locals := ls, stack := .ref T.heap.size :: rest, locked := none }) _
  jvm_step X₁.here [X₁.here.top, hexec, d3', Value.category]
  exact X₁.ldcStringW hexec (own := own) (text := text) (index := is) (a := sa) hown' hstr'.1 hstr'.2
    (g := { method := m, pc := pc + 4, locals := ls, stack := .ref T.heap.size :: .ref T.heap.size :: rest, locked := none }) rfl d4' _ hsteps
end Ends
section Bodies
variable {l : Launch}
theorem vx_ofW {y : MethodName} {ws ws' : List Cond} {rm : Room} {Pc : Array Value → State → Prop} {Qc : Array Value → State → Outcome → State → Prop} {XC : String → State → State → Prop} {mc ms : Nat} {free : Addr → Prop} {cc : ByteArray} {maxL : Nat} {ret : Option FieldType}
    (hy : plainName y.cls = true) (hw : ws = Cond.code y cc maxL ret :: ws')
    (body : ∀ p e s m args below meth c s₁, BodyLoose p l y (headSpec ws rm) cc maxL ret e s m args below meth c s₁ → c.maxLocals = maxL → (∀ x ∈ c.exceptionTable.toList, False) → Pc args s →
      W p l e (headSpec ws rm).room s m args below meth c s.heap [] 0 0 (vx_MQ below Qc XC args s mc ms free) (entryFrame m args maxL)) : vx_Met l y ws rm Pc Qc XC mc ms free := by
  refine MetFree.of_bodyS (code := cc) (maxLocals := maxL) (ret := ret) hy ?_ ?_
  · intro args s m h hn
    obtain ⟨meth, c, h1, h2, h3, h4, h5, h6, -, -⟩ := Cond.code_spec hn (atoms_spec (ws := ws) h _ (by rw [hw]; exact List.mem_cons_self))
    exact ⟨meth, c, h1, h2, h3, h4, h5, h6⟩
  · intro p e s m args below meth c s₁ B hml hP _
    have hh0 : s₁.heap = s.heap := by rw [B.state]; rfl
    have ht : ∀ x ∈ c.exceptionTable.toList, False := by
      obtain ⟨meth9, c9, h1, h2, -, -, -, -, h7, -⟩ := Cond.code_spec B.named (atoms_spec (ws := ws) B.pre _ (by rw [hw]; exact List.mem_cons_self))
      cases Option.some.inj (h1.symm.trans B.method)
      cases Option.some.inj (h2.symm.trans (Stand.of_body B).code)
      intro x hx
      rw [Array.isEmpty_iff.mp h7] at hx
      cases hx
    obtain ⟨t, a1, o, b1, b2, b3⟩ := body p e s m args below meth c s₁ B hml ht hP s₁ hh0 (Stand.of_body B)
    exact ⟨t, o, a1, b1, b2, b3⟩
/-- the table of a body with handlers -/
theorem vx_table {p : Program} {x y : MethodName} {S : Spec} {cc bytes : ByteArray} {maxL maxL' : Nat} {ret ret' : Option FieldType} {e : Env} {s s₁ : State} {m : MethodId} {args : Array Value} {below : List Frame} {meth : Method} {c : Code} {hh : List (Nat × Nat × Nat × Nat)}
    (B : BodyLoose p l y S cc maxL ret e s m args below meth c s₁) (h : (Cond.codeWith y bytes maxL' ret' hh).before args s = true) : c.exceptionTable.toList = tableOf hh := by
  obtain ⟨m9, meth9, c9, hn9, h1, h2, -, -, h6, -⟩ := Cond.codeWith_spec h
  cases Option.some.inj (hn9.symm.trans B.named)
  cases Option.some.inj (h1.symm.trans B.method)
  cases Option.some.inj (h2.symm.trans (Stand.of_body B).code)
  rw [← h6, table_eq]
end Bodies
end VXA
/-! ===== END ===== -/
/-! ===== BEGIN a static call of a method with an exception table ===== -/
section VXS
variable {p : Program} {l : Launch} {e : Env} {R : Room} {s : State} {m : MethodId} {args : Array Value} {below : List Frame} {meth : Method} {c : Code} {T : State} {H : Heap} {locs : List Loc} {cells slots : Nat}
abbrev vx_CSW (R : Room) (s : State) (args : Array Value) (own : String) (index : Nat) (y : MethodName) (bytes : ByteArray) (maxL : Nat) (ret : Option FieldType) (hh : List (Nat × Nat × Nat × Nat)) (ws : List Cond) (rm : Room) (mc ms n : Nat) : Prop :=
  (rm.cells = mc ∧ rm.slots = ms ∧ rm.frames + 1 ≤ R.frames ∧ 8 + (maxL + 11) + rm.locals ≤ R.locals ∧ (∀ w ∈ ws, ∀ (a' : Array Value) (U : State), s.WarmedH U.vm → w.before a' U = true) ∧ Cond.codeWith y bytes maxL ret hh ∈ ws) ∧
  (Cond.codeWith y bytes maxL ret hh).before args s = true ∧ (Cond.initialized y.cls).before args s = true ∧ (y.cls ≠ "java/lang/invoke/MethodHandle" ∧ y.cls ≠ "java/lang/invoke/VarHandle") ∧
  (∀ sig, parseMethodDescriptor y.desc = some sig → n = sig.parameters.length) ∧ (Cond.methodLink own index y).before args s = true ∧ (Cond.static y).before args s = true
theorem vx_cwSW {own : String} {index maxL mc ms : Nat} {y : MethodName} {bytes : ByteArray} {ret : Option FieldType} {hh : List (Nat × Nat × Nat × Nat)} {Ts ws ws' : List Cond} {rm : Room} (n : Nat) (ht : ∀ w ∈ Ts, w.before args s = true) (hT : GoodIn Ts (va_wsS own index y ws)) (hw : ws = Cond.codeWith y bytes maxL ret hh :: ws') (hrc : rm.cells = mc) (hrs : rm.slots = ms)
    (hd : y.cls ≠ "java/lang/invoke/MethodHandle" ∧ y.cls ≠ "java/lang/invoke/VarHandle" ∧ (parseMethodDescriptor y.desc).map (fun d => d.parameters.length) = some n) (hR : rm.frames + 1 ≤ R.frames ∧ 8 + (maxL + 11) + rm.locals ≤ R.locals) :
    vx_CSW R s args own index y bytes maxL ret hh ws rm mc ms n := by
  have ok : ∀ w ∈ va_wsS own index y ws, w.before args s = true := fun w h => ht w (hT w h).1
  have hG : GoodIn Ts ws := fun w h => hT w (by unfold va_wsS; exact List.mem_append_right _ h)
  have hc : Cond.codeWith y bytes maxL ret hh ∈ ws := by rw [hw]; exact List.mem_cons_self
  refine ⟨⟨hrc, hrs, hR.1, hR.2, pay_in ht hG, hc⟩, ht _ (hG _ hc).1, ok _ (by simp [va_wsS]), ⟨hd.1, hd.2.1⟩, fun sig h => ?_, ok _ (by simp [va_wsS]), ok _ (by simp [va_wsS])⟩
  have h2 := hd.2.2
  rw [h] at h2
  exact (Option.some.inj h2).symm
theorem vx_callSW (X : Stand p l e R s m args below meth c T locs cells slots) (hexec : p.tables.exec = Jvm.exec) {own : String} {index : Nat} {y : MethodName} {bytes : ByteArray} {maxL : Nat} {ret : Option FieldType} {hh : List (Nat × Nat × Nat × Nat)}
    (hown : s.vm.findClass own = some m.cls) (hlink : (Cond.methodLink own index y).before args s = true) (hstat : (Cond.static y).before args s = true) (hinit : (Cond.initialized y.cls).before args s = true)
    (hcode : (Cond.codeWith y bytes maxL ret hh).before args s = true) (hy : y.cls ≠ "java/lang/invoke/MethodHandle" ∧ y.cls ≠ "java/lang/invoke/VarHandle")
    {W9 : Nat} {Pre : Pt → Array Value → Prop} {Post : Pt → Array Value → Option Value → Pt → Prop} (hK : Back l R p e below s args y 3 W9 Pre Post)
    {g : JFrame} (hg : g.method = m) (hsize : g.locals.size = c.maxLocals) {argsL rest : List Value} (hlen : ∀ sig, parseMethodDescriptor y.desc = some sig → argsL.length = sig.parameters.length)
    (hstack : g.stack = argsL.reverse ++ rest) (hW : 2 * g.monitorRoom + (rest.map fun v => v.category).sum ≤ W9) (hdg : decode c.code g.pc = .ok (.invokestatic index, 3))
    (hpre : ∀ vm₁, s.WarmedH vm₁ → Pre ⟨T.setVm vm₁, locs, cells, slots⟩ argsL.toArray) :
    ∃ (v : Option Value) (vm₁ : Vm) (B : Pt), s.WarmedH vm₁ ∧ Stand p l e R s m args below meth c B.U B.locs B.cells B.slots ∧ Post ⟨T.setVm vm₁, locs, cells, slots⟩ argsL.toArray v B ∧
      ∀ target, Steps p.tables e below (B.U.setTop { g with pc := g.pc + 3, stack := v.toList ++ rest }) target → Steps p.tables e below (T.setTop g) target := by
  obtain ⟨mk, methM, cM, hnamed, hmethM, -, -, -, -, -, -, hsigM⟩ := Cond.codeWith_spec hcode
  have hstatic : methM.isStatic = true := Cond.static_spec hnamed hmethM hstat
  obtain ⟨kP, hkP, -⟩ := className_of_methodNamed hnamed
  have hinitP : kP.init = .initialized := Cond.initialized_spec (findClass_of_methodNamed hnamed) hkP hinit
  obtain ⟨vm₁, X₁, hstep₁⟩ := X.invokestatic hexec hown hlink hnamed hmethM hstatic hkP hinitP hy (g := g) hg (argsL := argsL) (rest := rest) (hlen _ hsigM) hstack hdg
  obtain ⟨v, B, X', hpost, hsteps⟩ := hK m meth c ⟨T.setVm vm₁, locs, cells, slots⟩ { g with stack := rest } (.invokestatic index) mk argsL.toArray X₁ hg hsize hdg hW (X₁.named hnamed) (hpre vm₁ X₁.warmed)
  exact ⟨v, vm₁, B, X₁.warmed, X', hpost, fun target h => hstep₁ _ fun acts => by rw [doInvoke_state]; exact hsteps.trans h⟩
theorem vx_runSW {y : MethodName} {bytes cc : ByteArray} {maxL nL mc ms n index : Nat} {ret : Option FieldType} {hh : List (Nat × Nat × Nat × Nat)} {ws : List Cond} {rm : Room} {Pc : Array Value → State → Prop} {Qc : Array Value → State → Outcome → State → Prop} {free : Addr → Prop} {Ts : List Cond} {own : String} {As rest : List Value} {g : JFrame}
    (S : CallFix p m c cc nL s args Ts own) (hM : Met l y ws rm Pc Qc mc ms free) (cw : vx_CSW R s args own index y bytes maxL ret hh ws rm mc ms n) (hp : PreS s H Pc As)
    (hg : g.method = m) (hn : As.length = n) (hsize : g.locals.size = nL) (hstack : g.stack = As.reverse ++ rest) (hW : 2 * g.monitorRoom + (rest.map fun v => v.category).sum ≤ 8) (hdg : decode cc g.pc = .ok (.invokestatic index, 3)) (hf : cells + mc ≤ R.cells ∧ slots + ms ≤ R.slots) :
    va_Run p l e R s m args below meth c H locs cells slots mc ms g rest (Qc As.toArray) (free) := by
  obtain ⟨⟨hrc, hrs, hfr, hlo, hws, hcw⟩, hcode, hini, hy, hlen, hl, hstt⟩ := cw
  have hK : Back l R p e below s args y 3 8 (PreOf R mc ms Pc) (PostOf Qc mc ms free) := va_backW (hh := hh) (bytes := bytes) (maxL := maxL) (ret := ret) hM hp.1 hrc hrs hfr hlo hws hcw (fun a' U hW => word_at hW (Or.inl (by first | rfl | simp [Cond.onTables, Cond.keeps, Cond.steady])) hini)
  obtain ⟨hx, hb, hml, ho, -⟩ := S
  intro T hT X
  obtain ⟨v, vm₁, ⟨U', l2, c2, s2⟩, hW₁, X', ⟨g', mk, t, L, e1, e2, hq, h1, hL, h2, h3⟩, st⟩ := vx_callSW X hx (hh := hh) (bytes := bytes) (maxL := maxL) (ret := ret) ho hl hstt hini hcode hy hK hg (hsize.trans hml.symm) (argsL := As) (rest := rest) (fun sig h => hn.trans (hlen sig h)) hstack hW (by rw [hb]; exact hdg)
    (fun vm₁ hW₁ => ⟨hf.1, hf.2, hp.2 (T.setVm vm₁) hT hW₁⟩)
  dsimp only [Pt.U, Pt.locs, Pt.cells, Pt.slots] at X' e1 e2 h1 h2 h3 st
  subst h1; subst h2; subst h3
  exact ⟨v, (T.setVm vm₁).calling g' mk As.toArray, t, U', L, hT, X', hL, e1, e2, hq, st⟩
/-- not caught here, past rows that name other classes: it goes on to the caller -/
theorem vx_outP {p : Program} {l : Launch} {e : Env} {R : Room} {s : State} {m : MethodId} {args : Array Value} {below : List Frame} {meth : Method} {c : Code} {H : Heap} {locs : List Loc} {cells slots : Nat} {free : Addr → Prop} {ls : Array Slot} {rest : List Value} {Qc : Array Value → State → Outcome → State → Prop} {XC : String → State → State → Prop}
    {pc : Nat} {own E : String} {ce : Cell} {q : Addr} {mc ms : Nat} (hown : s.vm.findClass own = some m.cls) (hlocks : meth.locks = false)
    (hpass : ∀ z ∈ c.exceptionTable.toList, covers z pc = false ∨ (z.catchType ≠ 0 ∧ ∃ nm : String, (Cond.classLink own z.catchType nm).before args s = true ∧ va_Nc E nm s)) (hcell : H[q]? = some ce) (hv : ce.vm = .none) (hcl : s.vm.findClass E = some ce.cls)
    (hx : ∀ t : State, t.heap = H → s.vm.Alike t.vm → XC E s t) (hf : ∀ z ∈ locs, free z.base) (hc : cells ≤ mc) (hs : slots ≤ ms) :
    vx_W p l e R s m args below meth c H locs cells slots (vx_MQ below Qc XC args s mc ms free) (F0 m pc ls rest) q := by
  intro T hT X
  have hpl : e.platform.magicAccessors = ({} : Platform).magicAccessors := by rw [X.admits.platform]
  obtain ⟨vm', hW', X', st⟩ := X.outThrough hlocks q (g := F0 m pc ls rest) rfl rfl rfl (cell := ce) (by rw [hT]; exact hcell) (by rw [hv]; rfl)
    (by obtain ⟨k9, h9, -⟩ := Vm.findClass_spec hcl; exact ⟨k9, h9⟩) (fun z hz => by
      rcases hpass z hz with h | ⟨hz0, nm, hl1, hn1⟩
      · exact Or.inl h
      · obtain ⟨c6, hc6, hcl6⟩ := Cond.classLink_spec hown hl1 e.platform hpl
        obtain ⟨a8, b8, h1, h2, h3⟩ := hn1
        cases Option.some.inj (h1.symm.trans hcl)
        cases Option.some.inj (h2.symm.trans hc6)
        exact Or.inr ⟨hz0, _, hcl6, h3⟩)
  obtain ⟨g₀, hfr⟩ := X'.frames_eq
  have hcell9 : ((T.setVm vm').setFrames (.throwing q :: below)).heap[q]? = some ce := by
    show T.heap[q]? = some ce
    rw [hT]; exact hcell
  have hend : Ended ((T.setVm vm').setFrames (.throwing q :: below)) below (.threw q) := State.frames_setFrames _ (State.cur_lt_of_frames hfr)
  refine ⟨(T.setVm vm').setFrames (.throwing q :: below), ?_, .threw q, X'.here.running, hend, Or.inr ⟨q, rfl, E, ce, locs, hx _ hT (X'.ends _).1.alike, hcell9, hv, hcl, (X'.ends _).1, (X'.ends _).2.mono hc hs, hf⟩⟩
  rw [X.pushThrowing_eq]
  exact st
/-- a thing of a world lies in the heap -/
theorem vx_lt {D : va_G} {cl : List vw_C} {ws : va_W} {H1 : Heap} (h : va_P D cl ws H1) {k : Nat} {q : Nat × va_E} (hk : ws[k]? = some q) : q.1 < H1.size := (h k q hk).lt
end VXS
/-! ===== END ===== -/
/-! ===== BEGIN methods with a table of their own: called by a name, returning or throwing ===== -/
section VXH
/-! vx_backW, vx_callVX, vx_callSX, vx_callVW, vx_runVW, vx_runVX, vx_runSX, vx_ofWH follow the same proofs as their sisters above (Free/Laws.lean, Shelf42/LK1.lean); vx_outP calls Shelf42/NT130.lean (outThrough). -/
section
variable {l : Launch} {R : Room} {p : Program} {e : Env} {below : List Frame} {s : State} {sargs : Array Value} {y : MethodName} {len W9 : Nat}
theorem vx_backW {ws : List Cond} {rm : Room} {Pc : Array Value → State → Prop} {Qc : Array Value → State → Outcome → State → Prop} {XC : String → State → State → Prop} {mc ms : Nat} {free : Addr → Prop} {bytes : ByteArray} {maxL : Nat} {ret : Option FieldType} {hh : List (Nat × Nat × Nat × Nat)}
    (hM : vx_Met l y ws rm Pc Qc XC mc ms free) (hblind : FrameBlind Pc) (hrc : rm.cells = mc) (hrs : rm.slots = ms)
    (hframes : rm.frames + 1 ≤ R.frames) (hlocals : W9 + (maxL + 11) + rm.locals ≤ R.locals)
    (hws : ∀ w ∈ ws, ∀ a' U, s.WarmedH U.vm → w.before a' U = true) (hcode : Cond.codeWith y bytes maxL ret hh ∈ ws) (hinit : ∀ a' U, s.WarmedH U.vm → (Cond.initialized y.cls).before a' U = true) :
    vx_Back l R p e below s sargs y len W9 (PreOf R mc ms Pc) (PostOf Qc mc ms free) (vx_Post XC mc ms free) := by
  intro m meth c A g ig mk a X hg hsize hdg hW hn hp
  have h1 : (headSpec ws rm).pre.before a A.U = true := atoms_intro fun w hw => hws w hw _ _ X.warmed
  have h2 : (Cond.codeWith y bytes maxL ret hh).before a A.U = true := hws _ hcode _ _ X.warmed
  have h3 : (Cond.initialized y.cls).before a A.U = true := hinit _ _ X.warmed
  have h4 : A.cells + (headSpec ws rm).room.cells ≤ R.cells := by rw [show (headSpec ws rm).room.cells = mc from hrc]; exact hp.1
  have h5 : A.slots + (headSpec ws rm).room.slots ≤ R.slots := by rw [show (headSpec ws rm).room.slots = ms from hrs]; exact hp.2.1
  have hPc : Pc a (A.U.calling g mk a) := hblind _ _ _ _ hp.2.2
  obtain ⟨U, Ls, c0, s0⟩ := A
  dsimp only [Pt.U, Pt.locs, Pt.cells, Pt.slots] at h1 h2 h3 h4 h5 X hn hPc ⊢
  obtain ⟨m9, methY, cY, hn9, hmY, hcY, -, hlY, -⟩ := Cond.codeWith_spec h2
  cases Option.some.inj (hn9.symm.trans hn)
  obtain ⟨kY, hkY, -⟩ := className_of_methodNamed hn
  have hinitY : kY.init = .initialized := Cond.initialized_spec (findClass_of_methodNamed hn) hkY h3
  have h : At U g.method c below := by rw [hg]; exact X.here
  have hlocals9 : W9 + (maxL + 11) + (headSpec ws rm).room.locals ≤ R.locals := hlocals
  have happ : (headSpec ws rm).appliesLoose y e.platform (U.calling g mk a) = true :=
    Spec.appliesLoose_calling (g := g) h hdg hn hkY hinitY
      (X.room_calling (g := g) (R' := (headSpec ws rm).room) hsize hmY hcY hframes (by rw [hlY]; omega) h4 h5) h1
  obtain ⟨mid, hmid⟩ := h.above
  have hfr : (U.setTop g).frames = (.java g :: mid) ++ below := by rw [State.frames_setTop' g h.top, hmid]; rfl
  obtain ⟨o, s₂, hsteps, -, hend, hq⟩ := Steps.callFree hM p X.admits X.cas X.clock (acts := []) hfr happ hPc trivial
  have hq' : vx_Q Qc XC mc ms free a (U.calling g mk a) o s₂ := hq
  rw [State.frames_setTop' g h.top] at hend
  obtain ⟨g₀, hg0⟩ := Option.isSome_iff_exists.mp h.top
  obtain ⟨r, hr⟩ := State.topJava?_eq_some.mp hg0
  have hr' : (({ U with heap := s₂.heap, slotsUsed := s₂.slotsUsed } : State).setVm s₂.vm).frames = .java g₀ :: r := hr
  rcases hq' with ⟨hqc, L, hfe, hL⟩ | ⟨q, rfl, E, ce, L, hx, hce, hcv, hcl, hW₂, hsm, hL⟩
  · obtain ⟨⟨v, rfl⟩, hW₂, e2, q2, q3, q4, q5, q6⟩ := id hfe
    have e3 : s₂ = ({ (U.calling g mk a).setFrames s₂.frames with heap := s₂.heap, slotsUsed := s₂.slotsUsed } : State).setVm s₂.vm := by
      have : s₂ = ({ s₂ with vm := (U.calling g mk a).vm } : State).setVm s₂.vm := rfl
      rw [e2] at this
      exact this
    obtain ⟨c₂, i₂, len₂, hc₂, hd₂, hf₂⟩ := hend
    have hW' : U.WarmedH s₂.vm := hW₂
    have hcc : c₂ = c := by
      have h1 : s₂.code? g.method = U.code? g.method := by
        rw [State.code?_eq, State.code?_eq, hW'.alike.method?]
      exact Option.some.inj (hc₂.symm.trans (h1.trans h.code))
    subst hcc
    have hlen : len₂ = len := by rw [hdg] at hd₂; cases hd₂; rfl
    subst hlen
    have hs₂ : s₂ = (({ U with heap := s₂.heap, slotsUsed := s₂.slotsUsed } : State).setVm s₂.vm).setTop { g with pc := g.pc + len₂, stack := v.toList ++ g.stack } := by
      refine e3.trans ?_
      rw [hf₂, State.calling_eq h.top, State.setFrames_setFrames, State.setTop_of_frames _ hr', hr]
      rfl
    have hsame : U.sameButNew ({ U with heap := s₂.heap, slotsUsed := s₂.slotsUsed } : State) L mc ms := by
      refine ⟨?_, q2, q3, q4, q5, q6⟩
      obtain ⟨t, ht, -⟩ := State.frames_cons hr
      show ({ U with heap := s₂.heap, slotsUsed := s₂.slotsUsed } : State) = { U.setFrames U.frames with heap := s₂.heap, slotsUsed := s₂.slotsUsed }
      rw [State.setFrames_self ht]
    subst hg
    refine Or.inl ⟨v, ⟨(({ U with heap := s₂.heap, slotsUsed := s₂.slotsUsed } : State).setVm s₂.vm), Ls ++ L, c0 + mc, s0 + ms⟩,
      ⟨X.admits, X.cas, X.clock, X.frames, X.room, X.hears, X.method, X.code, (X.here.setHeapUsed s₂.heap s₂.slotsUsed).setVm hW'.alike, X.tail, State.WarmedH.trans X.warmed hW', X.limits, X.bytes, X.same.trans (hsame.setVm s.vm)⟩,
      ⟨g, mk, s₂, L, rfl, rfl, hqc, rfl, hL, rfl, rfl⟩, ?_⟩
    show Steps p.tables e below _ ((({ U with heap := s₂.heap, slotsUsed := s₂.slotsUsed } : State).setVm s₂.vm).setTop { g with pc := g.pc + len₂, stack := v.toList ++ g.stack })
    rw [← hs₂]
    exact hsteps
  · obtain ⟨e2, q2, q3, q4, q5, q6⟩ := id hsm
    have e3 : s₂ = ({ (U.calling g mk a).setFrames s₂.frames with heap := s₂.heap, slotsUsed := s₂.slotsUsed } : State).setVm s₂.vm := by
      have : s₂ = ({ s₂ with vm := (U.calling g mk a).vm } : State).setVm s₂.vm := rfl
      rw [e2] at this
      exact this
    have hf₂ : s₂.frames = .throwing q :: .java g :: U.frames.tail := hend
    have hW' : U.WarmedH s₂.vm := hW₂
    have hs₂ : s₂ = ((({ U with heap := s₂.heap, slotsUsed := s₂.slotsUsed } : State).setVm s₂.vm).setTop g).pushFrame (.throwing q) := by
      refine e3.trans ?_
      rw [hf₂, State.calling_eq h.top, State.setFrames_setFrames, State.pushFrame, State.frames_setTop _ hr', State.setTop_of_frames _ hr', State.setFrames_setFrames, hr]
      rfl
    have hsame : U.sameButNew ({ U with heap := s₂.heap, slotsUsed := s₂.slotsUsed } : State) L mc ms := by
      refine ⟨?_, q2, q3, q4, q5, q6⟩
      obtain ⟨t, ht, -⟩ := State.frames_cons hr
      show ({ U with heap := s₂.heap, slotsUsed := s₂.slotsUsed } : State) = { U.setFrames U.frames with heap := s₂.heap, slotsUsed := s₂.slotsUsed }
      rw [State.setFrames_self ht]
    subst hg
    refine Or.inr ⟨q, ⟨(({ U with heap := s₂.heap, slotsUsed := s₂.slotsUsed } : State).setVm s₂.vm), Ls ++ L, c0 + mc, s0 + ms⟩,
      ⟨X.admits, X.cas, X.clock, X.frames, X.room, X.hears, X.method, X.code, (X.here.setHeapUsed s₂.heap s₂.slotsUsed).setVm hW'.alike, X.tail, State.WarmedH.trans X.warmed hW', X.limits, X.bytes, X.same.trans (hsame.setVm s.vm)⟩,
      ⟨g, mk, s₂, L, E, ce, rfl, rfl, hx, hce, hcv, hcl, rfl, hL, rfl, rfl⟩, ?_⟩
    show Steps p.tables e below _ (((({ U with heap := s₂.heap, slotsUsed := s₂.slotsUsed } : State).setVm s₂.vm).setTop g).pushFrame (.throwing q))
    rw [← hs₂]
    exact hsteps
end
variable {p : Program} {l : Launch} {e : Env} {R : Room} {s : State} {m : MethodId} {args : Array Value} {below : List Frame} {meth : Method} {c : Code} {T : State} {H : Heap} {locs : List Loc} {cells slots : Nat}
theorem vx_callVX (X : Stand p l e R s m args below meth c T locs cells slots) (hexec : p.tables.exec = Jvm.exec) {own C : String} {index : Nat} {y : MethodName} {bytes : ByteArray} {maxL : Nat} {ret : Option FieldType} {hh : List (Nat × Nat × Nat × Nat)}
    (hown : s.vm.findClass own = some m.cls) (hlink : (Cond.methodLink own index y).before args s = true) (hinst : (Cond.instanceMethod y).before args s = true) (hsel : (Cond.selects C y y).before args s = true)
    (hcode : (Cond.codeWith y bytes maxL ret hh).before args s = true) (hy : y.cls ≠ "java/lang/invoke/MethodHandle" ∧ y.cls ≠ "java/lang/invoke/VarHandle")
    {W9 : Nat} {Pre : Pt → Array Value → Prop} {Post : Pt → Array Value → Option Value → Pt → Prop} {PostX : Pt → Array Value → Addr → Pt → Prop} (hK : vx_Back l R p e below s args y 3 W9 Pre Post PostX)
    {b : Addr} {cellB : Cell} (hcell : T.heap[b]? = some cellB) (hobj : cellB.vm.isStatics = false) (hcls : s.vm.findClass C = some cellB.cls)
    {g : JFrame} (hg : g.method = m) (hsize : g.locals.size = c.maxLocals) {argsL rest : List Value} (hlen : ∀ sig, parseMethodDescriptor y.desc = some sig → argsL.length = sig.parameters.length)
    (hstack : g.stack = argsL.reverse ++ .ref b :: rest) (hW : 2 * g.monitorRoom + (rest.map fun v => v.category).sum ≤ W9) (hdg : decode c.code g.pc = .ok (.invokevirtual index, 3))
    (hpre : ∀ vm₁, s.WarmedH vm₁ → Pre ⟨T.setVm vm₁, locs, cells, slots⟩ (Value.ref b :: argsL).toArray) :
    (∃ (v : Option Value) (vm₁ : Vm) (B : Pt), s.WarmedH vm₁ ∧ Stand p l e R s m args below meth c B.U B.locs B.cells B.slots ∧ Post ⟨T.setVm vm₁, locs, cells, slots⟩ (Value.ref b :: argsL).toArray v B ∧
      ∀ target, Steps p.tables e below (B.U.setTop { g with pc := g.pc + 3, stack := v.toList ++ rest }) target → Steps p.tables e below (T.setTop g) target) ∨
    (∃ (q : Addr) (vm₁ : Vm) (B : Pt), s.WarmedH vm₁ ∧ Stand p l e R s m args below meth c B.U B.locs B.cells B.slots ∧ PostX ⟨T.setVm vm₁, locs, cells, slots⟩ (Value.ref b :: argsL).toArray q B ∧
      Steps p.tables e below (T.setTop g) ((B.U.setTop { g with stack := rest }).pushFrame (.throwing q))) := by
  obtain ⟨mk, methM, hnamed, hmethM, hstM, habM⟩ := Cond.instanceMethod_spec hinst
  obtain ⟨m8, methM', cM, hn8, hmethM', -, -, -, -, -, -, hsigM⟩ := Cond.codeWith_spec hcode
  cases Option.some.inj (hn8.symm.trans hnamed)
  cases hmethM.symm.trans hmethM'
  obtain ⟨c2, r2, m2, q1, q2, q3, q4, kP, hkP, hkPi⟩ := Cond.selects_spec hsel
  cases hcls.symm.trans q1
  cases (State.methodFound?_of_named hnamed hy).symm.trans q2
  cases hnamed.symm.trans q3
  have hselP : selectMethod e.platform s.vm cellB.cls mk = .method mk := by rw [Launch.admits_selectMethod X.admits]; exact q4
  obtain ⟨vm₁, X₁, hstep₁⟩ := X.invokevirtual hexec hown hlink hnamed hmethM hstM hkP hkPi hy (a := b) (cell := cellB) hcell
    (fun z h => by rw [h] at hobj; cases hobj) hselP hmethM habM hkP hkPi (g := g) hg (argsL := argsL) (rest := rest) (hlen _ hsigM) hstack hdg
  rcases hK m meth c ⟨T.setVm vm₁, locs, cells, slots⟩ { g with stack := rest } (.invokevirtual index) mk (Value.ref b :: argsL).toArray X₁ hg hsize hdg hW (X₁.named hnamed) (hpre vm₁ X₁.warmed) with ⟨v, B, X', hpost, hsteps⟩ | ⟨q, B, X', hpost, hsteps⟩
  · exact Or.inl ⟨v, vm₁, B, X₁.warmed, X', hpost, fun target h => hstep₁ _ fun acts => by rw [doInvoke_state]; exact hsteps.trans h⟩
  · exact Or.inr ⟨q, vm₁, B, X₁.warmed, X', hpost, hstep₁ _ fun acts => by rw [doInvoke_state]; exact hsteps⟩
theorem vx_callSX (X : Stand p l e R s m args below meth c T locs cells slots) (hexec : p.tables.exec = Jvm.exec) {own : String} {index : Nat} {y : MethodName} {bytes : ByteArray} {maxL : Nat} {ret : Option FieldType} {hh : List (Nat × Nat × Nat × Nat)}
    (hown : s.vm.findClass own = some m.cls) (hlink : (Cond.methodLink own index y).before args s = true) (hstat : (Cond.static y).before args s = true) (hinit : (Cond.initialized y.cls).before args s = true)
    (hcode : (Cond.codeWith y bytes maxL ret hh).before args s = true) (hy : y.cls ≠ "java/lang/invoke/MethodHandle" ∧ y.cls ≠ "java/lang/invoke/VarHandle")
    {W9 : Nat} {Pre : Pt → Array Value → Prop} {Post : Pt → Array Value → Option Value → Pt → Prop} {PostX : Pt → Array Value → Addr → Pt → Prop} (hK : vx_Back l R p e below s args y 3 W9 Pre Post PostX)
    {g : JFrame} (hg : g.method = m) (hsize : g.locals.size = c.maxLocals) {argsL rest : List Value} (hlen : ∀ sig, parseMethodDescriptor y.desc = some sig → argsL.length = sig.parameters.length)
    (hstack : g.stack = argsL.reverse ++ rest) (hW : 2 * g.monitorRoom + (rest.map fun v => v.category).sum ≤ W9) (hdg : decode c.code g.pc = .ok (.invokestatic index, 3))
    (hpre : ∀ vm₁, s.WarmedH vm₁ → Pre ⟨T.setVm vm₁, locs, cells, slots⟩ argsL.toArray) :
    (∃ (v : Option Value) (vm₁ : Vm) (B : Pt), s.WarmedH vm₁ ∧ Stand p l e R s m args below meth c B.U B.locs B.cells B.slots ∧ Post ⟨T.setVm vm₁, locs, cells, slots⟩ argsL.toArray v B ∧
      ∀ target, Steps p.tables e below (B.U.setTop { g with pc := g.pc + 3, stack := v.toList ++ rest }) target → Steps p.tables e below (T.setTop g) target) ∨
    (∃ (q : Addr) (vm₁ : Vm) (B : Pt), s.WarmedH vm₁ ∧ Stand p l e R s m args below meth c B.U B.locs B.cells B.slots ∧ PostX ⟨T.setVm vm₁, locs, cells, slots⟩ argsL.toArray q B ∧
      Steps p.tables e below (T.setTop g) ((B.U.setTop { g with stack := rest }).pushFrame (.throwing q))) := by
  obtain ⟨mk, methM, cM, hnamed, hmethM, -, -, -, -, -, -, hsigM⟩ := Cond.codeWith_spec hcode
  have hstatic : methM.isStatic = true := Cond.static_spec hnamed hmethM hstat
  obtain ⟨kP, hkP, -⟩ := className_of_methodNamed hnamed
  have hinitP : kP.init = .initialized := Cond.initialized_spec (findClass_of_methodNamed hnamed) hkP hinit
  obtain ⟨vm₁, X₁, hstep₁⟩ := X.invokestatic hexec hown hlink hnamed hmethM hstatic hkP hinitP hy (g := g) hg (argsL := argsL) (rest := rest) (hlen _ hsigM) hstack hdg
  rcases hK m meth c ⟨T.setVm vm₁, locs, cells, slots⟩ { g with stack := rest } (.invokestatic index) mk argsL.toArray X₁ hg hsize hdg hW (X₁.named hnamed) (hpre vm₁ X₁.warmed) with ⟨v, B, X', hpost, hsteps⟩ | ⟨q, B, X', hpost, hsteps⟩
  · exact Or.inl ⟨v, vm₁, B, X₁.warmed, X', hpost, fun target h => hstep₁ _ fun acts => by rw [doInvoke_state]; exact hsteps.trans h⟩
  · exact Or.inr ⟨q, vm₁, B, X₁.warmed, X', hpost, hstep₁ _ fun acts => by rw [doInvoke_state]; exact hsteps⟩
theorem vx_callVW (X : Stand p l e R s m args below meth c T locs cells slots) (hexec : p.tables.exec = Jvm.exec) {own C : String} {index : Nat} {y : MethodName} {bytes : ByteArray} {maxL : Nat} {ret : Option FieldType} {hh : List (Nat × Nat × Nat × Nat)}
    (hown : s.vm.findClass own = some m.cls) (hlink : (Cond.methodLink own index y).before args s = true) (hinst : (Cond.instanceMethod y).before args s = true) (hsel : (Cond.selects C y y).before args s = true)
    (hcode : (Cond.codeWith y bytes maxL ret hh).before args s = true) (hy : y.cls ≠ "java/lang/invoke/MethodHandle" ∧ y.cls ≠ "java/lang/invoke/VarHandle")
    {W9 : Nat} {Pre : Pt → Array Value → Prop} {Post : Pt → Array Value → Option Value → Pt → Prop} (hK : Back l R p e below s args y 3 W9 Pre Post)
    {b : Addr} {cellB : Cell} (hcell : T.heap[b]? = some cellB) (hobj : cellB.vm.isStatics = false) (hcls : s.vm.findClass C = some cellB.cls)
    {g : JFrame} (hg : g.method = m) (hsize : g.locals.size = c.maxLocals) {argsL rest : List Value} (hlen : ∀ sig, parseMethodDescriptor y.desc = some sig → argsL.length = sig.parameters.length)
    (hstack : g.stack = argsL.reverse ++ .ref b :: rest) (hW : 2 * g.monitorRoom + (rest.map fun v => v.category).sum ≤ W9) (hdg : decode c.code g.pc = .ok (.invokevirtual index, 3))
    (hpre : ∀ vm₁, s.WarmedH vm₁ → Pre ⟨T.setVm vm₁, locs, cells, slots⟩ (Value.ref b :: argsL).toArray) :
    ∃ (v : Option Value) (vm₁ : Vm) (B : Pt), s.WarmedH vm₁ ∧ Stand p l e R s m args below meth c B.U B.locs B.cells B.slots ∧ Post ⟨T.setVm vm₁, locs, cells, slots⟩ (Value.ref b :: argsL).toArray v B ∧
      ∀ target, Steps p.tables e below (B.U.setTop { g with pc := g.pc + 3, stack := v.toList ++ rest }) target → Steps p.tables e below (T.setTop g) target := by
  obtain ⟨mk, methM, hnamed, hmethM, hstM, habM⟩ := Cond.instanceMethod_spec hinst
  obtain ⟨m8, methM', cM, hn8, hmethM', -, -, -, -, -, -, hsigM⟩ := Cond.codeWith_spec hcode
  cases Option.some.inj (hn8.symm.trans hnamed)
  cases hmethM.symm.trans hmethM'
  obtain ⟨c2, r2, m2, q1, q2, q3, q4, kP, hkP, hkPi⟩ := Cond.selects_spec hsel
  cases hcls.symm.trans q1
  cases (State.methodFound?_of_named hnamed hy).symm.trans q2
  cases hnamed.symm.trans q3
  have hselP : selectMethod e.platform s.vm cellB.cls mk = .method mk := by rw [Launch.admits_selectMethod X.admits]; exact q4
  obtain ⟨vm₁, X₁, hstep₁⟩ := X.invokevirtual hexec hown hlink hnamed hmethM hstM hkP hkPi hy (a := b) (cell := cellB) hcell
    (fun z h => by rw [h] at hobj; cases hobj) hselP hmethM habM hkP hkPi (g := g) hg (argsL := argsL) (rest := rest) (hlen _ hsigM) hstack hdg
  obtain ⟨v, B, X', hpost, hsteps⟩ := hK m meth c ⟨T.setVm vm₁, locs, cells, slots⟩ { g with stack := rest } (.invokevirtual index) mk (Value.ref b :: argsL).toArray X₁ hg hsize hdg hW (X₁.named hnamed) (hpre vm₁ X₁.warmed)
  exact ⟨v, vm₁, B, X₁.warmed, X', hpost, fun target h => hstep₁ _ fun acts => by rw [doInvoke_state]; exact hsteps.trans h⟩
abbrev vx_CVW (R : Room) (s : State) (args : Array Value) (own C : String) (index : Nat) (y : MethodName) (bytes : ByteArray) (maxL : Nat) (ret : Option FieldType) (hh : List (Nat × Nat × Nat × Nat)) (ws : List Cond) (rm : Room) (mc ms n : Nat) : Prop :=
  (rm.cells = mc ∧ rm.slots = ms ∧ rm.frames + 1 ≤ R.frames ∧ 8 + (maxL + 11) + rm.locals ≤ R.locals ∧ (∀ w ∈ ws, ∀ (a' : Array Value) (U : State), s.WarmedH U.vm → w.before a' U = true) ∧ Cond.codeWith y bytes maxL ret hh ∈ ws) ∧
  (Cond.codeWith y bytes maxL ret hh).before args s = true ∧ (Cond.initialized y.cls).before args s = true ∧ (y.cls ≠ "java/lang/invoke/MethodHandle" ∧ y.cls ≠ "java/lang/invoke/VarHandle") ∧
  (∀ sig, parseMethodDescriptor y.desc = some sig → n = sig.parameters.length) ∧ (Cond.methodLink own index y).before args s = true ∧ (Cond.instanceMethod y).before args s = true ∧ (Cond.selects C y y).before args s = true
theorem vx_cwVW {own C : String} {index maxL mc ms : Nat} {y : MethodName} {bytes : ByteArray} {ret : Option FieldType} {hh : List (Nat × Nat × Nat × Nat)} {Ts ws ws' : List Cond} {rm : Room} (n : Nat) (ht : ∀ w ∈ Ts, w.before args s = true) (hT : GoodIn Ts (wsV own index C y ws)) (hw : ws = Cond.codeWith y bytes maxL ret hh :: ws') (hrc : rm.cells = mc) (hrs : rm.slots = ms)
    (hd : y.cls = C ∧ y.cls ≠ "java/lang/invoke/MethodHandle" ∧ y.cls ≠ "java/lang/invoke/VarHandle" ∧ (parseMethodDescriptor y.desc).map (fun d => d.parameters.length) = some n) (hR : rm.frames + 1 ≤ R.frames ∧ 8 + (maxL + 11) + rm.locals ≤ R.locals) :
    vx_CVW R s args own C index y bytes maxL ret hh ws rm mc ms n := by
  obtain ⟨hC, hd⟩ := hd
  subst hC
  have ok : ∀ w ∈ wsV own index y.cls y ws, w.before args s = true := fun w h => ht w (hT w h).1
  have hG : GoodIn Ts ws := fun w h => hT w (by unfold wsV; exact List.mem_append_right _ h)
  have hc : Cond.codeWith y bytes maxL ret hh ∈ ws := by rw [hw]; exact List.mem_cons_self
  refine ⟨⟨hrc, hrs, hR.1, hR.2, pay_in ht hG, hc⟩, ht _ (hG _ hc).1, ok _ (by simp [wsV]), ⟨hd.1, hd.2.1⟩, fun sig h => ?_, ok _ (by simp [wsV]), ok _ (by simp [wsV]), ok _ (by simp [wsV])⟩
  have h2 := hd.2.2
  rw [h] at h2
  exact (Option.some.inj h2).symm
theorem vx_runVW {y : MethodName} {bytes cc : ByteArray} {maxL nL mc ms n index : Nat} {ret : Option FieldType} {hh : List (Nat × Nat × Nat × Nat)} {ws : List Cond} {rm : Room} {Pc : Array Value → State → Prop} {Qc : Array Value → State → Outcome → State → Prop} {free : Addr → Prop} {Ts : List Cond} {own C : String} {b : Addr} {As rest : List Value} {g : JFrame}
    (S : CallFix p m c cc nL s args Ts own) (hM : Met l y ws rm Pc Qc mc ms free) (cw : vx_CVW R s args own C index y bytes maxL ret hh ws rm mc ms n) (hp : PreV s H C b Pc As)
    (hg : g.method = m) (hn : As.length = n) (hsize : g.locals.size = nL) (hstack : g.stack = As.reverse ++ .ref b :: rest) (hW : 2 * g.monitorRoom + (rest.map fun v => v.category).sum ≤ 8) (hdg : decode cc g.pc = .ok (.invokevirtual index, 3)) (hf : cells + mc ≤ R.cells ∧ slots + ms ≤ R.slots) :
    va_Run p l e R s m args below meth c H locs cells slots mc ms g rest (Qc (Value.ref b :: As).toArray) free := by
  obtain ⟨⟨hrc, hrs, hfr, hlo, hws, hcw⟩, hcode, hini, hy, hlen, hl, hin, hse⟩ := cw
  have hK : Back l R p e below s args y 3 8 (PreOf R mc ms Pc) (PostOf Qc mc ms free) := va_backW (hh := hh) (bytes := bytes) (maxL := maxL) (ret := ret) hM hp.1 hrc hrs hfr hlo hws hcw (fun a' U hW => word_at hW (Or.inl (by first | rfl | simp [Cond.onTables, Cond.keeps, Cond.steady])) hini)
  obtain ⟨hx, hb, hml, ho, -⟩ := S
  obtain ⟨-, ⟨cellB, hcB, hoB, hclB⟩, hPc⟩ := hp
  intro T hT X
  obtain ⟨v, vm₁, ⟨U', l2, c2, s2⟩, hW₁, X', ⟨g', mk, t, L, e1, e2, hq, h1, hL, h2, h3⟩, st⟩ := vx_callVW X hx (C := C) (hh := hh) (bytes := bytes) (maxL := maxL) (ret := ret) ho hl hin hse hcode hy hK (by rw [hT]; exact hcB) hoB hclB hg (hsize.trans hml.symm) (argsL := As) (rest := rest) (fun sig h => hn.trans (hlen sig h)) hstack hW (by rw [hb]; exact hdg)
    (fun vm₁ hW₁ => ⟨hf.1, hf.2, hPc (T.setVm vm₁) hT hW₁⟩)
  dsimp only [Pt.U, Pt.locs, Pt.cells, Pt.slots] at X' e1 e2 h1 h2 h3 st
  subst h1; subst h2; subst h3
  exact ⟨v, (T.setVm vm₁).calling g' mk (Value.ref b :: As).toArray, t, U', L, hT, X', hL, e1, e2, hq, st⟩
section
variable {y : MethodName} {bytes cc : ByteArray} {maxL nL mc ms n index : Nat} {ret : Option FieldType} {ws : List Cond} {rm : Room} {Pc : Array Value → State → Prop} {Qc : Array Value → State → Outcome → State → Prop} {XC : String → State → State → Prop} {free : Addr → Prop} {Ts : List Cond} {own C : String} {b : Addr} {As rest : List Value} {g : JFrame}
theorem vx_runVX {hh : List (Nat × Nat × Nat × Nat)} (S : CallFix p m c cc nL s args Ts own) (hM : vx_Met l y ws rm Pc Qc XC mc ms free) (cw : vx_CVW R s args own C index y bytes maxL ret hh ws rm mc ms n) (hp : PreV s H C b Pc As)
    (hg : g.method = m) (hn : As.length = n) (hsize : g.locals.size = nL) (hstack : g.stack = As.reverse ++ .ref b :: rest) (hW : 2 * g.monitorRoom + (rest.map fun v => v.category).sum ≤ 8) (hdg : decode cc g.pc = .ok (.invokevirtual index, 3)) (hf : cells + mc ≤ R.cells ∧ slots + ms ≤ R.slots) :
    vx_Run p l e R s m args below meth c H locs cells slots mc ms g rest (Qc (Value.ref b :: As).toArray) XC free := by
  obtain ⟨⟨hrc, hrs, hfr, hlo, hws, hcw⟩, hcode, hini, hy, hlen, hl, hin, hse⟩ := cw
  have hK : vx_Back l R p e below s args y 3 8 (PreOf R mc ms Pc) (PostOf Qc mc ms free) (vx_Post XC mc ms free) := vx_backW (hh := hh) (bytes := bytes) (maxL := maxL) (ret := ret) hM hp.1 hrc hrs hfr hlo hws hcw (fun a' U hW => word_at hW (Or.inl (by first | rfl | simp [Cond.onTables, Cond.keeps, Cond.steady])) hini)
  obtain ⟨hx, hb, hml, ho, -⟩ := S
  obtain ⟨-, ⟨cellB, hcB, hoB, hclB⟩, hPc⟩ := hp
  intro T hT X
  rcases vx_callVX X hx (C := C) (hh := hh) (bytes := bytes) (maxL := maxL) (ret := ret) ho hl hin hse hcode hy hK (by rw [hT]; exact hcB) hoB hclB hg (hsize.trans hml.symm) (argsL := As) (rest := rest) (fun sig h => hn.trans (hlen sig h)) hstack hW (by rw [hb]; exact hdg)
    (fun vm₁ hW₁ => ⟨hf.1, hf.2, hPc (T.setVm vm₁) hT hW₁⟩) with ⟨v, vm₁, ⟨U', l2, c2, s2⟩, hW₁, X', ⟨g', mk, t, L, e1, e2, hq, h1, hL, h2, h3⟩, st⟩ | ⟨q, vm₁, ⟨U', l2, c2, s2⟩, hW₁, X', ⟨g', mk, t, L, E, ce, e1, e2, hq, hce, hcv, hcl, h1, hL, h2, h3⟩, st⟩
  · dsimp only [Pt.U, Pt.locs, Pt.cells, Pt.slots] at X' e1 e2 h1 h2 h3 st
    subst h1; subst h2; subst h3
    exact Or.inl ⟨v, (T.setVm vm₁).calling g' mk (Value.ref b :: As).toArray, t, U', L, hT, X', hL, e1, e2, hq, st⟩
  · dsimp only [Pt.U, Pt.locs, Pt.cells, Pt.slots] at X' e1 e2 h1 h2 h3 st hcl
    subst h1; subst h2; subst h3
    exact Or.inr ⟨q, (T.setVm vm₁).calling g' mk (Value.ref b :: As).toArray, t, U', L, E, ce, hT, X', hL, e1, e2, hq, hce, hcv, vx_cls hW₁ hcl, st⟩
theorem vx_runSX {hh : List (Nat × Nat × Nat × Nat)} (S : CallFix p m c cc nL s args Ts own) (hM : vx_Met l y ws rm Pc Qc XC mc ms free) (cw : vx_CSW R s args own index y bytes maxL ret hh ws rm mc ms n) (hp : PreS s H Pc As)
    (hg : g.method = m) (hn : As.length = n) (hsize : g.locals.size = nL) (hstack : g.stack = As.reverse ++ rest) (hW : 2 * g.monitorRoom + (rest.map fun v => v.category).sum ≤ 8) (hdg : decode cc g.pc = .ok (.invokestatic index, 3)) (hf : cells + mc ≤ R.cells ∧ slots + ms ≤ R.slots) :
    vx_Run p l e R s m args below meth c H locs cells slots mc ms g rest (Qc As.toArray) XC free := by
  obtain ⟨⟨hrc, hrs, hfr, hlo, hws, hcw⟩, hcode, hini, hy, hlen, hl, hstt⟩ := cw
  have hK : vx_Back l R p e below s args y 3 8 (PreOf R mc ms Pc) (PostOf Qc mc ms free) (vx_Post XC mc ms free) := vx_backW (hh := hh) (bytes := bytes) (maxL := maxL) (ret := ret) hM hp.1 hrc hrs hfr hlo hws hcw (fun a' U hW => word_at hW (Or.inl (by first | rfl | simp [Cond.onTables, Cond.keeps, Cond.steady])) hini)
  obtain ⟨hx, hb, hml, ho, -⟩ := S
  intro T hT X
  rcases vx_callSX X hx (hh := hh) (bytes := bytes) (maxL := maxL) (ret := ret) ho hl hstt hini hcode hy hK hg (hsize.trans hml.symm) (argsL := As) (rest := rest) (fun sig h => hn.trans (hlen sig h)) hstack hW (by rw [hb]; exact hdg)
    (fun vm₁ hW₁ => ⟨hf.1, hf.2, hp.2 (T.setVm vm₁) hT hW₁⟩) with ⟨v, vm₁, ⟨U', l2, c2, s2⟩, hW₁, X', ⟨g', mk, t, L, e1, e2, hq, h1, hL, h2, h3⟩, st⟩ | ⟨q, vm₁, ⟨U', l2, c2, s2⟩, hW₁, X', ⟨g', mk, t, L, E, ce, e1, e2, hq, hce, hcv, hcl, h1, hL, h2, h3⟩, st⟩
  · dsimp only [Pt.U, Pt.locs, Pt.cells, Pt.slots] at X' e1 e2 h1 h2 h3 st
    subst h1; subst h2; subst h3
    exact Or.inl ⟨v, (T.setVm vm₁).calling g' mk As.toArray, t, U', L, hT, X', hL, e1, e2, hq, st⟩
  · dsimp only [Pt.U, Pt.locs, Pt.cells, Pt.slots] at X' e1 e2 h1 h2 h3 st hcl
    subst h1; subst h2; subst h3
    exact Or.inr ⟨q, (T.setVm vm₁).calling g' mk As.toArray, t, U', L, E, ce, hT, X', hL, e1, e2, hq, hce, hcv, vx_cls hW₁ hcl, st⟩
end
end VXH
theorem vx_ofWH {l : Launch} {y : MethodName} {ws ws' : List Cond} {rm : Room} {Pc : Array Value → State → Prop} {Qc : Array Value → State → Outcome → State → Prop} {XC : String → State → State → Prop} {mc ms : Nat} {free : Addr → Prop} {cc : ByteArray} {maxL : Nat} {ret : Option FieldType} {hh : List (Nat × Nat × Nat × Nat)}
    (hy : plainName y.cls = true) (hw : ws = Cond.codeWith y cc maxL ret hh :: ws')
    (body : ∀ p e s m args below meth c s₁, BodyLoose p l y (headSpec ws rm) cc maxL ret e s m args below meth c s₁ → c.maxLocals = maxL → Pc args s →
      W p l e (headSpec ws rm).room s m args below meth c s.heap [] 0 0 (vx_MQ below Qc XC args s mc ms free) (entryFrame m args maxL)) : vx_Met l y ws rm Pc Qc XC mc ms free := by
  refine MetFree.of_bodyS (code := cc) (maxLocals := maxL) (ret := ret) hy ?_ ?_
  · intro args s m h hn
    obtain ⟨m9, meth, c, hn9, h1, h2, h3, h4, -, h5, h6, -⟩ := Cond.codeWith_spec (atoms_spec (ws := ws) h _ (by rw [hw]; exact List.mem_cons_self))
    cases hn.symm.trans hn9
    exact ⟨meth, c, h1, h2, h3, h4, h5, h6⟩
  · intro p e s m args below meth c s₁ B hml hP _
    have hh0 : s₁.heap = s.heap := by rw [B.state]; rfl
    obtain ⟨t, a1, o, b1, b2, b3⟩ := body p e s m args below meth c s₁ B hml hP s₁ hh0 (Stand.of_body B)
    exact ⟨t, o, a1, b1, b2, b3⟩
/-! ===== END ===== -/
end
section
def RX0 : String := "NeedleGrid$BarReader"
def TX0 : u_T := fun k => match k with
  | 0 => ("NeedleGrid$BarReader", "due", "I", false)
  | 1 => ("NeedleGrid$BarReader", "parts", "I", false)
  | 2 => ("NeedleGrid$BarReader", "column", "I", false)
  | 3 => ("NeedleGrid$BarReader", "row", "I", false)
  | 4 => ("NeedleGrid$BarReader", "direction", "I", false)
  | _ => ("NeedleGrid$BarReader", "strength", "I", false)
def tyX0 : Nat → FieldType := fun k => match k with
  | 0 => .int
  | 1 => .int
  | 2 => .int
  | 3 => .int
  | 4 => .int
  | _ => .int
abbrev wsX00 : List Cond := u_ws RX0 TX0 6
theorem nmX0 : ∀ a, a < 6 → ∀ b, b < 6 → a ≠ b → (TX0 a).2.1 ≠ (TX0 b).2.1 := by decide +kernel
theorem tyX0_ok : ∀ k, k < 6 → parseFieldDescriptor (TX0 k).2.2.1 = some (tyX0 k) := by decide +kernel
abbrev cX0_init : ByteArray := prog_2_method_1_code
def yX0_init : MethodName := ⟨RX0, "<init>", "()V"⟩
abbrev cX0_begin : ByteArray := prog_2_method_2_code
def yX0_begin : MethodName := ⟨RX0, "begin", "()V"⟩
abbrev cX0_take : ByteArray := prog_2_method_3_code
def yX0_take : MethodName := ⟨RX0, "take", "(I)Z"⟩
abbrev cX0_takeBehindStrength : ByteArray := prog_2_method_4_code
def yX0_takeBehindStrength : MethodName := ⟨RX0, "takeBehindStrength", "(I)Z"⟩
abbrev cX0_goOn : ByteArray := prog_2_method_5_code
def yX0_goOn : MethodName := ⟨RX0, "goOn", "(IZ)Z"⟩
abbrev cX0_isBehindStrength : ByteArray := prog_2_method_6_code
def yX0_isBehindStrength : MethodName := ⟨RX0, "isBehindStrength", "()Z"⟩
abbrev cX0_layInto : ByteArray := prog_2_method_7_code
def yX0_layInto : MethodName := ⟨RX0, "layInto", "(LNeedleGrid$Grid;)V"⟩
def RX1 : String := "NeedleGrid$BarText"
def TX1 : u_T := fun k => match k with
  | 0 => ("NeedleGrid$BarText", "codes", "[I", true)
  | 1 => ("NeedleGrid$BarText", "length", "I", false)
  | _ => ("NeedleGrid$BarText", "reader", "LNeedleGrid$BarReader;", true)
def tyX1 : Nat → FieldType := fun k => match k with
  | 0 => .array .int
  | 1 => .int
  | _ => .object "NeedleGrid$BarReader"
abbrev wsX10 : List Cond := u_ws RX1 TX1 3
theorem nmX1 : ∀ a, a < 3 → ∀ b, b < 3 → a ≠ b → (TX1 a).2.1 ≠ (TX1 b).2.1 := by decide +kernel
theorem tyX1_ok : ∀ k, k < 3 → parseFieldDescriptor (TX1 k).2.2.1 = some (tyX1 k) := by decide +kernel
abbrev cX1_init : ByteArray := prog_3_method_1_code
def yX1_init : MethodName := ⟨RX1, "<init>", "()V"⟩
abbrev cX1_add : ByteArray := prog_3_method_2_code
def yX1_add : MethodName := ⟨RX1, "add", "(I)V"⟩
abbrev cX1_goodLength : ByteArray := prog_3_method_3_code
def yX1_goodLength : MethodName := ⟨RX1, "goodLength", "()I"⟩
abbrev cX1_isComplete : ByteArray := prog_3_method_4_code
def yX1_isComplete : MethodName := ⟨RX1, "isComplete", "()Z"⟩
abbrev cX1_layInto : ByteArray := prog_3_method_5_code
def yX1_layInto : MethodName := ⟨RX1, "layInto", "(LNeedleGrid$Grid;)V"⟩
def RX2 : String := "NeedleGrid$Grid"
def TX2 : u_T := fun k => match k with
  | 0 => ("NeedleGrid$Grid", "directions", "[I", true)
  | 1 => ("NeedleGrid$Grid", "frictions", "[I", true)
  | 2 => ("NeedleGrid$Grid", "held", "[Z", true)
  | 3 => ("NeedleGrid$Grid", "barDirections", "[I", true)
  | 4 => ("NeedleGrid$Grid", "barStrengths", "[I", true)
  | 5 => ("NeedleGrid$Grid", "settings", "[I", true)
  | 6 => ("NeedleGrid$Grid", "turns", "I", false)
  | 7 => ("NeedleGrid$Grid", "coilDirection", "I", false)
  | 8 => ("NeedleGrid$Grid", "stepsSoFar", "I", false)
  | 9 => ("NeedleGrid$Grid", "stillX", "[I", true)
  | 10 => ("NeedleGrid$Grid", "stillY", "[I", true)
  | 11 => ("NeedleGrid$Grid", "fieldX", "[I", true)
  | _ => ("NeedleGrid$Grid", "fieldY", "[I", true)
def tyX2 : Nat → FieldType := fun k => match k with
  | 0 => .array .int
  | 1 => .array .int
  | 2 => .array .boolean
  | 3 => .array .int
  | 4 => .array .int
  | 5 => .array .int
  | 6 => .int
  | 7 => .int
  | 8 => .int
  | 9 => .array .int
  | 10 => .array .int
  | 11 => .array .int
  | _ => .array .int
abbrev wsX20 : List Cond := u_ws RX2 TX2 13
theorem nmX2 : ∀ a, a < 13 → ∀ b, b < 13 → a ≠ b → (TX2 a).2.1 ≠ (TX2 b).2.1 := by decide +kernel
theorem tyX2_ok : ∀ k, k < 13 → parseFieldDescriptor (TX2 k).2.2.1 = some (tyX2 k) := by decide +kernel
abbrev cX2_init : ByteArray := prog_4_method_1_code
def yX2_init : MethodName := ⟨RX2, "<init>", "()V"⟩
abbrev cX2_copyFrom : ByteArray := prog_4_method_2_code
def yX2_copyFrom : MethodName := ⟨RX2, "copyFrom", "(LNeedleGrid$Grid;)V"⟩
abbrev cX2_measureAll : ByteArray := prog_4_method_3_code
def yX2_measureAll : MethodName := ⟨RX2, "measureAll", "()V"⟩
abbrev cX2_addBarToStill : ByteArray := prog_4_method_4_code
def yX2_addBarToStill : MethodName := ⟨RX2, "addBarToStill", "(I)V"⟩
abbrev cX2_measureField : ByteArray := prog_4_method_5_code
def yX2_measureField : MethodName := ⟨RX2, "measureField", "()V"⟩
abbrev cX2_addNeedleToNeighbours : ByteArray := prog_4_method_6_code
def yX2_addNeedleToNeighbours : MethodName := ⟨RX2, "addNeedleToNeighbours", "(I)V"⟩
abbrev cX2_addToField : ByteArray := prog_4_method_7_code
def yX2_addToField : MethodName := ⟨RX2, "addToField", "(III)V"⟩
abbrev cX2_aim : ByteArray := prog_4_method_8_code
def yX2_aim : MethodName := ⟨RX2, "aim", "(I)I"⟩
abbrev cX2_aimIfBar : ByteArray := prog_4_method_9_code
def yX2_aimIfBar : MethodName := ⟨RX2, "aimIfBar", "(IIII)I"⟩
abbrev cX2_aimIfTurns : ByteArray := prog_4_method_10_code
def yX2_aimIfTurns : MethodName := ⟨RX2, "aimIfTurns", "(II)I"⟩
abbrev cX2_awayFromAim : ByteArray := prog_4_method_11_code
def yX2_awayFromAim : MethodName := ⟨RX2, "awayFromAim", "(I)I"⟩
abbrev cX2_wouldTurn : ByteArray := prog_4_method_12_code
def yX2_wouldTurn : MethodName := ⟨RX2, "wouldTurn", "(I)Z"⟩
abbrev cX2_directionAfterStep : ByteArray := prog_4_method_13_code
def yX2_directionAfterStep : MethodName := ⟨RX2, "directionAfterStep", "(I)I"⟩
abbrev cX2_letGoBy : ByteArray := prog_4_method_14_code
def yX2_letGoBy : MethodName := ⟨RX2, "letGoBy", "(I)I"⟩
abbrev cX2_turnAll : ByteArray := prog_4_method_15_code
def yX2_turnAll : MethodName := ⟨RX2, "turnAll", "()I"⟩
abbrev cX2_hasBar : ByteArray := prog_4_method_16_code
def yX2_hasBar : MethodName := ⟨RX2, "hasBar", "(I)Z"⟩
abbrev cX2_layBar : ByteArray := prog_4_method_17_code
def yX2_layBar : MethodName := ⟨RX2, "layBar", "(III)V"⟩
abbrev cX2_takeBar : ByteArray := prog_4_method_18_code
def yX2_takeBar : MethodName := ⟨RX2, "takeBar", "(I)V"⟩
abbrev cX2_takeAllBars : ByteArray := prog_4_method_19_code
def yX2_takeAllBars : MethodName := ⟨RX2, "takeAllBars", "()V"⟩
abbrev cX2_barCount : ByteArray := prog_4_method_20_code
def yX2_barCount : MethodName := ⟨RX2, "barCount", "()I"⟩
abbrev cX2_cellOfBar : ByteArray := prog_4_method_21_code
def yX2_cellOfBar : MethodName := ⟨RX2, "cellOfBar", "(I)I"⟩
abbrev cX2_heldCount : ByteArray := prog_4_method_22_code
def yX2_heldCount : MethodName := ⟨RX2, "heldCount", "()I"⟩
abbrev cX2_turningCount : ByteArray := prog_4_method_23_code
def yX2_turningCount : MethodName := ⟨RX2, "turningCount", "()I"⟩
abbrev cX2_aimedCount : ByteArray := prog_4_method_24_code
def yX2_aimedCount : MethodName := ⟨RX2, "aimedCount", "()I"⟩
abbrev cX2_obeyingCount : ByteArray := prog_4_method_25_code
def yX2_obeyingCount : MethodName := ⟨RX2, "obeyingCount", "()I"⟩
abbrev cX2_awayTogether : ByteArray := prog_4_method_26_code
def yX2_awayTogether : MethodName := ⟨RX2, "awayTogether", "()I"⟩
abbrev cX2_pointingCount : ByteArray := prog_4_method_27_code
def yX2_pointingCount : MethodName := ⟨RX2, "pointingCount", "(I)I"⟩
def RX3 : String := "NeedleGrid$History"
def TX3 : u_T := fun k => match k with
  | 0 => ("NeedleGrid$History", "ring", "[LNeedleGrid$Grid;", true)
  | 1 => ("NeedleGrid$History", "amount", "I", false)
  | _ => ("NeedleGrid$History", "next", "I", false)
def tyX3 : Nat → FieldType := fun k => match k with
  | 0 => .array (.object "NeedleGrid$Grid")
  | 1 => .int
  | _ => .int
abbrev wsX30 : List Cond := u_ws RX3 TX3 3
theorem nmX3 : ∀ a, a < 3 → ∀ b, b < 3 → a ≠ b → (TX3 a).2.1 ≠ (TX3 b).2.1 := by decide +kernel
theorem tyX3_ok : ∀ k, k < 3 → parseFieldDescriptor (TX3 k).2.2.1 = some (tyX3 k) := by decide +kernel
abbrev cX3_init : ByteArray := prog_5_method_1_code
def yX3_init : MethodName := ⟨RX3, "<init>", "()V"⟩
abbrev cX3_save : ByteArray := prog_5_method_2_code
def yX3_save : MethodName := ⟨RX3, "save", "(LNeedleGrid$Grid;)V"⟩
abbrev cX3_restoreInto : ByteArray := prog_5_method_3_code
def yX3_restoreInto : MethodName := ⟨RX3, "restoreInto", "(LNeedleGrid$Grid;)V"⟩
def RX4 : String := "NeedleGrid"
def TX4 : u_T := fun k => match k with
  | 0 => ("NeedleGrid", "now", "LNeedleGrid$Grid;", true)
  | 1 => ("NeedleGrid", "trial", "LNeedleGrid$Grid;", true)
  | 2 => ("NeedleGrid", "history", "LNeedleGrid$History;", true)
  | _ => ("NeedleGrid", "text", "LNeedleGrid$BarText;", true)
def tyX4 : Nat → FieldType := fun k => match k with
  | 0 => .object "NeedleGrid$Grid"
  | 1 => .object "NeedleGrid$Grid"
  | 2 => .object "NeedleGrid$History"
  | _ => .object "NeedleGrid$BarText"
abbrev wsX40 : List Cond := u_ws RX4 TX4 4
theorem nmX4 : ∀ a, a < 4 → ∀ b, b < 4 → a ≠ b → (TX4 a).2.1 ≠ (TX4 b).2.1 := by decide +kernel
theorem tyX4_ok : ∀ k, k < 4 → parseFieldDescriptor (TX4 k).2.2.1 = some (tyX4 k) := by decide +kernel
abbrev cX4_init : ByteArray := prog_1_method_1_code
def yX4_init : MethodName := ⟨RX4, "<init>", "()V"⟩
abbrev cX4_needle : ByteArray := prog_1_method_2_code
def yX4_needle : MethodName := ⟨RX4, "needle", "(II)I"⟩
abbrev cX4_friction : ByteArray := prog_1_method_3_code
def yX4_friction : MethodName := ⟨RX4, "friction", "(II)I"⟩
abbrev cX4_hold : ByteArray := prog_1_method_4_code
def yX4_hold : MethodName := ⟨RX4, "hold", "(IZ)I"⟩
abbrev cX4_swap : ByteArray := prog_1_method_5_code
def yX4_swap : MethodName := ⟨RX4, "swap", "(II)I"⟩
abbrev cX4_bar : ByteArray := prog_1_method_6_code
def yX4_bar : MethodName := ⟨RX4, "bar", "(III)I"⟩
abbrev cX4_unbar : ByteArray := prog_1_method_7_code
def yX4_unbar : MethodName := ⟨RX4, "unbar", "(I)I"⟩
abbrev cX4_coil : ByteArray := prog_1_method_8_code
def yX4_coil : MethodName := ⟨RX4, "coil", "(II)I"⟩
abbrev cX4_set : ByteArray := prog_1_method_9_code
def yX4_set : MethodName := ⟨RX4, "set", "(II)I"⟩
abbrev cX4_step : ByteArray := prog_1_method_10_code
def yX4_step : MethodName := ⟨RX4, "step", "(I)I"⟩
abbrev cX4_append : ByteArray := prog_1_method_11_code
def yX4_append : MethodName := ⟨RX4, "append", "(I)I"⟩
abbrev cX4_clearBuffer : ByteArray := prog_1_method_12_code
def yX4_clearBuffer : MethodName := ⟨RX4, "clearBuffer", "()I"⟩
abbrev cX4_firstError : ByteArray := prog_1_method_13_code
def yX4_firstError : MethodName := ⟨RX4, "firstError", "()I"⟩
abbrev cX4_bars : ByteArray := prog_1_method_14_code
def yX4_bars : MethodName := ⟨RX4, "bars", "()I"⟩
abbrev cX4_undo : ByteArray := prog_1_method_15_code
def yX4_undo : MethodName := ⟨RX4, "undo", "()I"⟩
abbrev cX4_cell : ByteArray := prog_1_method_16_code
def yX4_cell : MethodName := ⟨RX4, "cell", "(II)I"⟩
abbrev cX4_barOf : ByteArray := prog_1_method_17_code
def yX4_barOf : MethodName := ⟨RX4, "barOf", "(II)I"⟩
abbrev cX4_count : ByteArray := prog_1_method_18_code
def yX4_count : MethodName := ⟨RX4, "count", "(I)I"⟩
abbrev cX4_pointing : ByteArray := prog_1_method_19_code
def yX4_pointing : MethodName := ⟨RX4, "pointing", "(I)I"⟩
abbrev cX4_setting : ByteArray := prog_1_method_20_code
def yX4_setting : MethodName := ⟨RX4, "setting", "(I)I"⟩
abbrev cX4_restsIn : ByteArray := prog_1_method_21_code
def yX4_restsIn : MethodName := ⟨RX4, "restsIn", "()I"⟩
abbrev cX4_points : ByteArray := prog_1_method_22_code
def yX4_points : MethodName := ⟨RX4, "points", "(II)I"⟩
abbrev cX4_ifBar : ByteArray := prog_1_method_23_code
def yX4_ifBar : MethodName := ⟨RX4, "ifBar", "(III)I"⟩
abbrev cX4_bestBar : ByteArray := prog_1_method_24_code
def yX4_bestBar : MethodName := ⟨RX4, "bestBar", "(III)I"⟩
abbrev cX4_leastTurns : ByteArray := prog_1_method_25_code
def yX4_leastTurns : MethodName := ⟨RX4, "leastTurns", "(I)I"⟩
abbrev cX4_obedience : ByteArray := prog_1_method_26_code
def yX4_obedience : MethodName := ⟨RX4, "obedience", "()D"⟩
abbrev cX4_digest : ByteArray := prog_1_method_27_code
def yX4_digest : MethodName := ⟨RX4, "digest", "()J"⟩
abbrev cX4_withCells : ByteArray := prog_1_method_28_code
def yX4_withCells : MethodName := ⟨RX4, "withCells", "(J)J"⟩
abbrev cX4_withBars : ByteArray := prog_1_method_29_code
def yX4_withBars : MethodName := ⟨RX4, "withBars", "(J)J"⟩
abbrev cX4_withBuffer : ByteArray := prog_1_method_30_code
def yX4_withBuffer : MethodName := ⟨RX4, "withBuffer", "(J)J"⟩
abbrev cX4_mixed : ByteArray := prog_1_method_31_code
def yX4_mixed : MethodName := ⟨RX4, "mixed", "(JJ)J"⟩
abbrev cX4_bitsOf : ByteArray := prog_1_method_32_code
def yX4_bitsOf : MethodName := ⟨RX4, "bitsOf", "(D)J"⟩
abbrev cX4_exchange : ByteArray := prog_1_method_33_code
def yX4_exchange : MethodName := ⟨RX4, "exchange", "([III)V"⟩
abbrev cX4_requireCell : ByteArray := prog_1_method_34_code
def yX4_requireCell : MethodName := ⟨RX4, "requireCell", "(I)V"⟩
abbrev cX4_requireSetting : ByteArray := prog_1_method_35_code
def yX4_requireSetting : MethodName := ⟨RX4, "requireSetting", "(I)V"⟩
abbrev cX4_requireDirection : ByteArray := prog_1_method_36_code
def yX4_requireDirection : MethodName := ⟨RX4, "requireDirection", "(I)V"⟩
abbrev cX4_requireBetween : ByteArray := prog_1_method_37_code
def yX4_requireBetween : MethodName := ⟨RX4, "requireBetween", "(III)V"⟩
abbrev cX4_across : ByteArray := prog_1_method_38_code
def yX4_across : MethodName := ⟨RX4, "across", "(I)I"⟩
abbrev cX4_down : ByteArray := prog_1_method_39_code
def yX4_down : MethodName := ⟨RX4, "down", "(I)I"⟩
abbrev cX4_aimOf : ByteArray := prog_1_method_40_code
def yX4_aimOf : MethodName := ⟨RX4, "aimOf", "(II)I"⟩
abbrev cX4_pull : ByteArray := prog_1_method_41_code
def yX4_pull : MethodName := ⟨RX4, "pull", "(IIII)I"⟩
abbrev cX4_ahead : ByteArray := prog_1_method_42_code
def yX4_ahead : MethodName := ⟨RX4, "ahead", "(II)I"⟩
def RX5 : String := "NeedleGridModel"
def TX5 : u_T := fun k => match k with
  | 0 => ("NeedleGridModel", "now", "[I", true)
  | 1 => ("NeedleGridModel", "then", "[I", true)
  | 2 => ("NeedleGridModel", "past", "[I", true)
  | 3 => ("NeedleGridModel", "kept", "I", false)
  | 4 => ("NeedleGridModel", "text", "[I", true)
  | 5 => ("NeedleGridModel", "typed", "I", false)
  | 6 => ("NeedleGridModel", "thrown", "I", false)
  | 7 => ("NeedleGridModel", "at", "I", false)
  | 8 => ("NeedleGridModel", "isFault", "Z", false)
  | 9 => ("NeedleGridModel", "told", "[I", true)
  | 10 => ("NeedleGridModel", "tolds", "I", false)
  | 11 => ("NeedleGridModel", "next", "[I", true)
  | 12 => ("NeedleGridModel", "fx", "I", false)
  | _ => ("NeedleGridModel", "fy", "I", false)
def tyX5 : Nat → FieldType := fun k => match k with
  | 0 => .array .int
  | 1 => .array .int
  | 2 => .array .int
  | 3 => .int
  | 4 => .array .int
  | 5 => .int
  | 6 => .int
  | 7 => .int
  | 8 => .boolean
  | 9 => .array .int
  | 10 => .int
  | 11 => .array .int
  | 12 => .int
  | _ => .int
abbrev wsX50 : List Cond := u_ws RX5 TX5 14
theorem nmX5 : ∀ a, a < 14 → ∀ b, b < 14 → a ≠ b → (TX5 a).2.1 ≠ (TX5 b).2.1 := by decide +kernel
theorem tyX5_ok : ∀ k, k < 14 → parseFieldDescriptor (TX5 k).2.2.1 = some (tyX5 k) := by decide +kernel
abbrev cX5_init : ByteArray := prog_7_method_1_code
def yX5_init : MethodName := ⟨RX5, "<init>", "()V"⟩
abbrev cX5_thrown : ByteArray := prog_7_method_2_code
def yX5_thrown : MethodName := ⟨RX5, "thrown", "()I"⟩
abbrev cX5_fails : ByteArray := prog_7_method_3_code
def yX5_fails : MethodName := ⟨RX5, "fails", "(I)I"⟩
abbrev cX5_in : ByteArray := prog_7_method_4_code
def yX5_in : MethodName := ⟨RX5, "in", "(III)Z"⟩
abbrev cX5_isCell : ByteArray := prog_7_method_5_code
def yX5_isCell : MethodName := ⟨RX5, "isCell", "(I)Z"⟩
abbrev cX5_isDirection : ByteArray := prog_7_method_6_code
def yX5_isDirection : MethodName := ⟨RX5, "isDirection", "(I)Z"⟩
abbrev cX5_size : ByteArray := prog_7_method_7_code
def yX5_size : MethodName := ⟨RX5, "size", "(I)I"⟩
abbrev cX5_copies : ByteArray := prog_7_method_8_code
def yX5_copies : MethodName := ⟨RX5, "copies", "([II[II)V"⟩
abbrev cX5_saves : ByteArray := prog_7_method_9_code
def yX5_saves : MethodName := ⟨RX5, "saves", "()V"⟩
abbrev cX5_undo : ByteArray := prog_7_method_10_code
def yX5_undo : MethodName := ⟨RX5, "undo", "()I"⟩
abbrev cX5_xOf : ByteArray := prog_7_method_11_code
def yX5_xOf : MethodName := ⟨RX5, "xOf", "(I)I"⟩
abbrev cX5_yOf : ByteArray := prog_7_method_12_code
def yX5_yOf : MethodName := ⟨RX5, "yOf", "(I)I"⟩
abbrev cX5_adds : ByteArray := prog_7_method_13_code
def yX5_adds : MethodName := ⟨RX5, "adds", "(II)V"⟩
abbrev cX5_addsBar : ByteArray := prog_7_method_14_code
def yX5_addsBar : MethodName := ⟨RX5, "addsBar", "([III)V"⟩
abbrev cX5_lays : ByteArray := prog_7_method_15_code
def yX5_lays : MethodName := ⟨RX5, "lays", "([II)V"⟩
abbrev cX5_aim : ByteArray := prog_7_method_16_code
def yX5_aim : MethodName := ⟨RX5, "aim", "([II)I"⟩
abbrev cX5_turned : ByteArray := prog_7_method_17_code
def yX5_turned : MethodName := ⟨RX5, "turned", "([II)I"⟩
abbrev cX5_allTurn : ByteArray := prog_7_method_18_code
def yX5_allTurn : MethodName := ⟨RX5, "allTurn", "([I)I"⟩
abbrev cX5_away : ByteArray := prog_7_method_19_code
def yX5_away : MethodName := ⟨RX5, "away", "([II)I"⟩
abbrev cX5_changes : ByteArray := prog_7_method_20_code
def yX5_changes : MethodName := ⟨RX5, "changes", "(II)I"⟩
abbrev cX5_needle : ByteArray := prog_7_method_21_code
def yX5_needle : MethodName := ⟨RX5, "needle", "(II)I"⟩
abbrev cX5_friction : ByteArray := prog_7_method_22_code
def yX5_friction : MethodName := ⟨RX5, "friction", "(II)I"⟩
abbrev cX5_hold : ByteArray := prog_7_method_23_code
def yX5_hold : MethodName := ⟨RX5, "hold", "(IZ)I"⟩
abbrev cX5_swap : ByteArray := prog_7_method_24_code
def yX5_swap : MethodName := ⟨RX5, "swap", "(II)I"⟩
abbrev cX5_lying : ByteArray := prog_7_method_25_code
def yX5_lying : MethodName := ⟨RX5, "lying", "([I)I"⟩
abbrev cX5_isBar : ByteArray := prog_7_method_26_code
def yX5_isBar : MethodName := ⟨RX5, "isBar", "(II)Z"⟩
abbrev cX5_laysBar : ByteArray := prog_7_method_27_code
def yX5_laysBar : MethodName := ⟨RX5, "laysBar", "([IIII)V"⟩
abbrev cX5_bar : ByteArray := prog_7_method_28_code
def yX5_bar : MethodName := ⟨RX5, "bar", "(III)I"⟩
abbrev cX5_unbar : ByteArray := prog_7_method_29_code
def yX5_unbar : MethodName := ⟨RX5, "unbar", "(I)I"⟩
abbrev cX5_coil : ByteArray := prog_7_method_30_code
def yX5_coil : MethodName := ⟨RX5, "coil", "(II)I"⟩
abbrev cX5_set : ByteArray := prog_7_method_31_code
def yX5_set : MethodName := ⟨RX5, "set", "(II)I"⟩
abbrev cX5_step : ByteArray := prog_7_method_32_code
def yX5_step : MethodName := ⟨RX5, "step", "(I)I"⟩
abbrev cX5_append : ByteArray := prog_7_method_33_code
def yX5_append : MethodName := ⟨RX5, "append", "(I)I"⟩
abbrev cX5_clearBuffer : ByteArray := prog_7_method_34_code
def yX5_clearBuffer : MethodName := ⟨RX5, "clearBuffer", "()I"⟩
abbrev cX5_isAt : ByteArray := prog_7_method_35_code
def yX5_isAt : MethodName := ⟨RX5, "isAt", "(II)Z"⟩
abbrev cX5_stops : ByteArray := prog_7_method_36_code
def yX5_stops : MethodName := ⟨RX5, "stops", "()Z"⟩
abbrev cX5_isPart : ByteArray := prog_7_method_37_code
def yX5_isPart : MethodName := ⟨RX5, "isPart", "()Z"⟩
abbrev cX5_isText : ByteArray := prog_7_method_38_code
def yX5_isText : MethodName := ⟨RX5, "isText", "()Z"⟩
abbrev cX5_firstError : ByteArray := prog_7_method_39_code
def yX5_firstError : MethodName := ⟨RX5, "firstError", "()I"⟩
abbrev cX5_bars : ByteArray := prog_7_method_40_code
def yX5_bars : MethodName := ⟨RX5, "bars", "()I"⟩
abbrev cX5_ofCell : ByteArray := prog_7_method_41_code
def yX5_ofCell : MethodName := ⟨RX5, "ofCell", "(II)I"⟩
abbrev cX5_cell : ByteArray := prog_7_method_42_code
def yX5_cell : MethodName := ⟨RX5, "cell", "(II)I"⟩
abbrev cX5_ofBar : ByteArray := prog_7_method_43_code
def yX5_ofBar : MethodName := ⟨RX5, "ofBar", "(II)I"⟩
abbrev cX5_barOf : ByteArray := prog_7_method_44_code
def yX5_barOf : MethodName := ⟨RX5, "barOf", "(II)I"⟩
abbrev cX5_counted : ByteArray := prog_7_method_45_code
def yX5_counted : MethodName := ⟨RX5, "counted", "(I)I"⟩
abbrev cX5_count : ByteArray := prog_7_method_46_code
def yX5_count : MethodName := ⟨RX5, "count", "(I)I"⟩
abbrev cX5_towards : ByteArray := prog_7_method_47_code
def yX5_towards : MethodName := ⟨RX5, "towards", "(I)I"⟩
abbrev cX5_pointing : ByteArray := prog_7_method_48_code
def yX5_pointing : MethodName := ⟨RX5, "pointing", "(I)I"⟩
abbrev cX5_setting : ByteArray := prog_7_method_49_code
def yX5_setting : MethodName := ⟨RX5, "setting", "(I)I"⟩
abbrev cX5_rests : ByteArray := prog_7_method_50_code
def yX5_rests : MethodName := ⟨RX5, "rests", "()I"⟩
abbrev cX5_restsIn : ByteArray := prog_7_method_51_code
def yX5_restsIn : MethodName := ⟨RX5, "restsIn", "()I"⟩
abbrev cX5_pointed : ByteArray := prog_7_method_52_code
def yX5_pointed : MethodName := ⟨RX5, "pointed", "(II)I"⟩
abbrev cX5_points : ByteArray := prog_7_method_53_code
def yX5_points : MethodName := ⟨RX5, "points", "(II)I"⟩
abbrev cX5_byBar : ByteArray := prog_7_method_54_code
def yX5_byBar : MethodName := ⟨RX5, "byBar", "(III)I"⟩
abbrev cX5_ifBar : ByteArray := prog_7_method_55_code
def yX5_ifBar : MethodName := ⟨RX5, "ifBar", "(III)I"⟩
abbrev cX5_best : ByteArray := prog_7_method_56_code
def yX5_best : MethodName := ⟨RX5, "best", "(III)I"⟩
abbrev cX5_bestBar : ByteArray := prog_7_method_57_code
def yX5_bestBar : MethodName := ⟨RX5, "bestBar", "(III)I"⟩
abbrev cX5_least : ByteArray := prog_7_method_58_code
def yX5_least : MethodName := ⟨RX5, "least", "(I)I"⟩
abbrev cX5_leastTurns : ByteArray := prog_7_method_59_code
def yX5_leastTurns : MethodName := ⟨RX5, "leastTurns", "(I)I"⟩
abbrev cX5_share : ByteArray := prog_7_method_60_code
def yX5_share : MethodName := ⟨RX5, "share", "()D"⟩
abbrev cX5_obedience : ByteArray := prog_7_method_61_code
def yX5_obedience : MethodName := ⟨RX5, "obedience", "()D"⟩
abbrev cX5_digest : ByteArray := prog_7_method_62_code
def yX5_digest : MethodName := ⟨RX5, "digest", "()J"⟩
def RJxe99ae : String := "java/lang/Double"
def TJxe99ae : u_T := fun k => match k with
  | _ => ("", "", "", false)
def tyJxe99ae : Nat → FieldType := fun k => match k with
  | _ => .int
abbrev wsJxe99ae0 : List Cond := u_ws RJxe99ae TJxe99ae 0
theorem nmJxe99ae : ∀ a, a < 0 → ∀ b, b < 0 → a ≠ b → (TJxe99ae a).2.1 ≠ (TJxe99ae b).2.1 := by decide +kernel
theorem tyJxe99ae_ok : ∀ k, k < 0 → parseFieldDescriptor (TJxe99ae k).2.2.1 = some (tyJxe99ae k) := by decide +kernel
abbrev cJxe99ae_isNaN_b9ae7 : ByteArray := prog_8_method_6_code
def yJxe99ae_isNaN_b9ae7 : MethodName := ⟨RJxe99ae, "isNaN", "(D)Z"⟩
abbrev cJxe99ae_doubleToLongBits_ccdee : ByteArray := prog_8_method_23_code
def yJxe99ae_doubleToLongBits_ccdee : MethodName := ⟨RJxe99ae, "doubleToLongBits", "(D)J"⟩
def RJ0 : String := "java/lang/String"
def TJ0 : u_T := fun k => match k with
  | _ => ("", "", "", false)
def tyJ0 : Nat → FieldType := fun k => match k with
  | _ => .int
abbrev wsJ00 : List Cond := u_ws RJ0 TJ0 0
theorem nmJ0 : ∀ a, a < 0 → ∀ b, b < 0 → a ≠ b → (TJ0 a).2.1 ≠ (TJ0 b).2.1 := by decide +kernel
theorem tyJ0_ok : ∀ k, k < 0 → parseFieldDescriptor (TJ0 k).2.2.1 = some (tyJ0 k) := by decide +kernel
def RL : String := "NeedleGridLaw"
abbrev cL_needle : ByteArray := method_3_code
def yL_needle : MethodName := ⟨RL, "needle", "(LNeedleGrid;II[J)I"⟩
abbrev cL_friction : ByteArray := method_4_code
def yL_friction : MethodName := ⟨RL, "friction", "(LNeedleGrid;II[J)I"⟩
abbrev cL_hold : ByteArray := method_5_code
def yL_hold : MethodName := ⟨RL, "hold", "(LNeedleGrid;IZ[J)I"⟩
abbrev cL_swap : ByteArray := method_6_code
def yL_swap : MethodName := ⟨RL, "swap", "(LNeedleGrid;II[J)I"⟩
abbrev cL_bar : ByteArray := method_7_code
def yL_bar : MethodName := ⟨RL, "bar", "(LNeedleGrid;III[J)I"⟩
abbrev cL_unbar : ByteArray := method_8_code
def yL_unbar : MethodName := ⟨RL, "unbar", "(LNeedleGrid;I[J)I"⟩
abbrev cL_coil : ByteArray := method_9_code
def yL_coil : MethodName := ⟨RL, "coil", "(LNeedleGrid;II[J)I"⟩
abbrev cL_set : ByteArray := method_10_code
def yL_set : MethodName := ⟨RL, "set", "(LNeedleGrid;II[J)I"⟩
abbrev cL_step : ByteArray := method_11_code
def yL_step : MethodName := ⟨RL, "step", "(LNeedleGrid;I[J)I"⟩
abbrev cL_append : ByteArray := method_12_code
def yL_append : MethodName := ⟨RL, "append", "(LNeedleGrid;I[J)I"⟩
abbrev cL_bars : ByteArray := method_13_code
def yL_bars : MethodName := ⟨RL, "bars", "(LNeedleGrid;[J)I"⟩
abbrev cL_undo : ByteArray := method_14_code
def yL_undo : MethodName := ⟨RL, "undo", "(LNeedleGrid;[J)I"⟩
abbrev cL_cell : ByteArray := method_15_code
def yL_cell : MethodName := ⟨RL, "cell", "(LNeedleGrid;II[J)I"⟩
abbrev cL_barOf : ByteArray := method_16_code
def yL_barOf : MethodName := ⟨RL, "barOf", "(LNeedleGrid;II[J)I"⟩
abbrev cL_count : ByteArray := method_17_code
def yL_count : MethodName := ⟨RL, "count", "(LNeedleGrid;I[J)I"⟩
abbrev cL_pointing : ByteArray := method_18_code
def yL_pointing : MethodName := ⟨RL, "pointing", "(LNeedleGrid;I[J)I"⟩
abbrev cL_setting : ByteArray := method_19_code
def yL_setting : MethodName := ⟨RL, "setting", "(LNeedleGrid;I[J)I"⟩
abbrev cL_points : ByteArray := method_20_code
def yL_points : MethodName := ⟨RL, "points", "(LNeedleGrid;II[J)I"⟩
abbrev cL_ifBar : ByteArray := method_21_code
def yL_ifBar : MethodName := ⟨RL, "ifBar", "(LNeedleGrid;III[J)I"⟩
abbrev cL_bestBar : ByteArray := method_22_code
def yL_bestBar : MethodName := ⟨RL, "bestBar", "(LNeedleGrid;III[J)I"⟩
abbrev cL_leastTurns : ByteArray := method_23_code
def yL_leastTurns : MethodName := ⟨RL, "leastTurns", "(LNeedleGrid;I[J)I"⟩
abbrev cL_law : ByteArray := code
def yL_law : MethodName := ⟨RL, "law", "([I)Z"⟩
def wsX0_init : List Cond := .code yX0_init cX0_init 1 none :: ([.methodLink RX0 3 objectInit, .instanceMethod objectInit, .code objectInit ⟨#[0xb1]⟩ 1 none])
def wsX0_begin : List Cond := .code yX0_begin cX0_begin 1 none :: ([.fieldLink RX0 11 "NeedleGrid$BarReader" "due" "I", .fieldLink RX0 15 "NeedleGrid$BarReader" "parts" "I"] ++ wsX00)
def wsX0_goOn : List Cond := .code yX0_goOn cX0_goOn 3 (some .boolean) :: ([.fieldLink RX0 11 "NeedleGrid$BarReader" "due" "I"] ++ wsX00)
def wsX0_takeBehindStrength : List Cond := .code yX0_takeBehindStrength cX0_takeBehindStrength 3 (some .boolean) :: ([.fieldLink RX0 15 "NeedleGrid$BarReader" "parts" "I", .fieldLink RX0 31 "NeedleGrid$BarReader" "strength" "I", .methodLink RX0 21 yX0_goOn, .instanceMethod yX0_goOn, .selects RX0 yX0_goOn yX0_goOn, .initialized RX0, .code yX0_goOn cX0_goOn 3 (some .boolean), .fieldLink RX0 11 "NeedleGrid$BarReader" "due" "I"] ++ wsX00)
def wsX0_take : List Cond := .code yX0_take cX0_take 3 (some .boolean) :: ([.fieldLink RX0 11 "NeedleGrid$BarReader" "due" "I", .fieldLink RX0 18 "NeedleGrid$BarReader" "column" "I", .fieldLink RX0 25 "NeedleGrid$BarReader" "row" "I", .fieldLink RX0 28 "NeedleGrid$BarReader" "direction" "I", .fieldLink RX0 31 "NeedleGrid$BarReader" "strength" "I", .methodLink RX0 21 yX0_goOn, .instanceMethod yX0_goOn, .selects RX0 yX0_goOn yX0_goOn, .initialized RX0, .code yX0_goOn cX0_goOn 3 (some .boolean), .methodLink RX0 34 yX0_takeBehindStrength, .instanceMethod yX0_takeBehindStrength, .selects RX0 yX0_takeBehindStrength yX0_takeBehindStrength, .code yX0_takeBehindStrength cX0_takeBehindStrength 3 (some .boolean), .fieldLink RX0 15 "NeedleGrid$BarReader" "parts" "I"] ++ wsX00)
def wsX0_isBehindStrength : List Cond := .code yX0_isBehindStrength cX0_isBehindStrength 1 (some .boolean) :: ([.fieldLink RX0 11 "NeedleGrid$BarReader" "due" "I"] ++ wsX00)
def wsX2_layBar : List Cond := .code yX2_layBar cX2_layBar 4 none :: ([.fieldLink RX2 22 "NeedleGrid$Grid" "barDirections" "[I", .fieldLink RX2 25 "NeedleGrid$Grid" "barStrengths" "[I"] ++ wsX20)
def wsX0_layInto : List Cond := .code yX0_layInto cX0_layInto 3 none :: ([.fieldLink RX0 25 "NeedleGrid$BarReader" "row" "I", .fieldLink RX0 18 "NeedleGrid$BarReader" "column" "I", .fieldLink RX0 28 "NeedleGrid$BarReader" "direction" "I", .fieldLink RX0 31 "NeedleGrid$BarReader" "strength" "I", .methodLink RX0 38 yX2_layBar, .instanceMethod yX2_layBar, .selects RX2 yX2_layBar yX2_layBar, .initialized RX2, .code yX2_layBar cX2_layBar 4 none, .fieldLink RX2 22 "NeedleGrid$Grid" "barDirections" "[I", .fieldLink RX2 25 "NeedleGrid$Grid" "barStrengths" "[I"] ++ wsX00 ++ wsX20)
def wsX1_init : List Cond := .code yX1_init cX1_init 1 none :: ([.methodLink RX1 3 objectInit, .instanceMethod objectInit, .code objectInit ⟨#[0xb1]⟩ 1 none, .arrayClass .int, .fieldLink RX1 9 "NeedleGrid$BarText" "codes" "[I", .classLink RX1 15 RX0, .instantiable RX0 6, .initialized RX0, .fieldLink RX1 18 "NeedleGrid$BarText" "reader" "LNeedleGrid$BarReader;", .instanceMethod yX0_init, .code yX0_init cX0_init 1 none, .methodLink RX0 3 objectInit] ++ wsX10 ++ wsX00)
def wsX1_add : List Cond := .code yX1_add cX1_add 2 none :: ([.fieldLink RX1 22 "NeedleGrid$BarText" "length" "I", .fieldLink RX1 9 "NeedleGrid$BarText" "codes" "[I"] ++ wsX10)
def wsX1_goodLength_r1 : List Cond := [Cond.fieldLink RX1 18 "NeedleGrid$BarText" "reader" "LNeedleGrid$BarReader;", Cond.fieldLink RX1 22 "NeedleGrid$BarText" "length" "I", Cond.fieldLink RX1 9 "NeedleGrid$BarText" "codes" "[I", Cond.methodLink RX1 26 yX0_begin, Cond.instanceMethod yX0_begin, Cond.selects RX0 yX0_begin yX0_begin, Cond.initialized RX0, Cond.code yX0_begin cX0_begin 1 none, Cond.fieldLink RX0 11 "NeedleGrid$BarReader" "due" "I", Cond.fieldLink RX0 15 "NeedleGrid$BarReader" "parts" "I", Cond.methodLink RX1 29 yX0_take, Cond.instanceMethod yX0_take, Cond.selects RX0 yX0_take yX0_take, Cond.code yX0_take cX0_take 3 (some .boolean), Cond.fieldLink RX0 18 "NeedleGrid$BarReader" "column" "I", Cond.fieldLink RX0 25 "NeedleGrid$BarReader" "row" "I", Cond.fieldLink RX0 28 "NeedleGrid$BarReader" "direction" "I", Cond.fieldLink RX0 31 "NeedleGrid$BarReader" "strength" "I", Cond.methodLink RX0 21 yX0_goOn, Cond.instanceMethod yX0_goOn, Cond.selects RX0 yX0_goOn yX0_goOn, Cond.code yX0_goOn cX0_goOn 3 (some .boolean), Cond.methodLink RX0 34 yX0_takeBehindStrength, Cond.instanceMethod yX0_takeBehindStrength]
def wsX1_goodLength_r2 : List Cond := [Cond.selects RX0 yX0_takeBehindStrength yX0_takeBehindStrength, Cond.code yX0_takeBehindStrength cX0_takeBehindStrength 3 (some .boolean)]
def wsX1_goodLength : List Cond := .code yX1_goodLength cX1_goodLength 2 (some .int) :: ((wsX1_goodLength_r1 ++ wsX1_goodLength_r2) ++ wsX10 ++ wsX00)
def wsX1_isComplete_r1 : List Cond := [Cond.fieldLink RX1 22 "NeedleGrid$BarText" "length" "I", Cond.fieldLink RX1 18 "NeedleGrid$BarText" "reader" "LNeedleGrid$BarReader;", Cond.methodLink RX1 33 yX1_goodLength, Cond.instanceMethod yX1_goodLength, Cond.selects RX1 yX1_goodLength yX1_goodLength, Cond.initialized RX1, Cond.code yX1_goodLength cX1_goodLength 2 (some .int), Cond.fieldLink RX1 9 "NeedleGrid$BarText" "codes" "[I", Cond.methodLink RX1 26 yX0_begin, Cond.instanceMethod yX0_begin, Cond.selects RX0 yX0_begin yX0_begin, Cond.initialized RX0, Cond.code yX0_begin cX0_begin 1 none, Cond.fieldLink RX0 11 "NeedleGrid$BarReader" "due" "I", Cond.fieldLink RX0 15 "NeedleGrid$BarReader" "parts" "I", Cond.methodLink RX1 29 yX0_take, Cond.instanceMethod yX0_take, Cond.selects RX0 yX0_take yX0_take, Cond.code yX0_take cX0_take 3 (some .boolean), Cond.fieldLink RX0 18 "NeedleGrid$BarReader" "column" "I", Cond.fieldLink RX0 25 "NeedleGrid$BarReader" "row" "I", Cond.fieldLink RX0 28 "NeedleGrid$BarReader" "direction" "I", Cond.fieldLink RX0 31 "NeedleGrid$BarReader" "strength" "I", Cond.methodLink RX0 21 yX0_goOn]
def wsX1_isComplete_r2 : List Cond := [Cond.instanceMethod yX0_goOn, Cond.selects RX0 yX0_goOn yX0_goOn, Cond.code yX0_goOn cX0_goOn 3 (some .boolean), Cond.methodLink RX0 34 yX0_takeBehindStrength, Cond.instanceMethod yX0_takeBehindStrength, Cond.selects RX0 yX0_takeBehindStrength yX0_takeBehindStrength, Cond.code yX0_takeBehindStrength cX0_takeBehindStrength 3 (some .boolean), Cond.methodLink RX1 37 yX0_isBehindStrength, Cond.instanceMethod yX0_isBehindStrength, Cond.selects RX0 yX0_isBehindStrength yX0_isBehindStrength, Cond.code yX0_isBehindStrength cX0_isBehindStrength 1 (some .boolean)]
def wsX1_isComplete : List Cond := .code yX1_isComplete cX1_isComplete 1 (some .boolean) :: ((wsX1_isComplete_r1 ++ wsX1_isComplete_r2) ++ wsX10 ++ wsX00)
def wsX1_layInto_r1 : List Cond := [Cond.fieldLink RX1 18 "NeedleGrid$BarText" "reader" "LNeedleGrid$BarReader;", Cond.fieldLink RX1 22 "NeedleGrid$BarText" "length" "I", Cond.fieldLink RX1 9 "NeedleGrid$BarText" "codes" "[I", Cond.methodLink RX1 26 yX0_begin, Cond.instanceMethod yX0_begin, Cond.selects RX0 yX0_begin yX0_begin, Cond.initialized RX0, Cond.code yX0_begin cX0_begin 1 none, Cond.fieldLink RX0 11 "NeedleGrid$BarReader" "due" "I", Cond.fieldLink RX0 15 "NeedleGrid$BarReader" "parts" "I", Cond.methodLink RX1 41 yX0_layInto, Cond.instanceMethod yX0_layInto, Cond.selects RX0 yX0_layInto yX0_layInto, Cond.code yX0_layInto cX0_layInto 3 none, Cond.fieldLink RX0 25 "NeedleGrid$BarReader" "row" "I", Cond.fieldLink RX0 18 "NeedleGrid$BarReader" "column" "I", Cond.fieldLink RX0 28 "NeedleGrid$BarReader" "direction" "I", Cond.fieldLink RX0 31 "NeedleGrid$BarReader" "strength" "I", Cond.methodLink RX0 38 yX2_layBar, Cond.instanceMethod yX2_layBar, Cond.selects RX2 yX2_layBar yX2_layBar, Cond.initialized RX2, Cond.code yX2_layBar cX2_layBar 4 none, Cond.fieldLink RX2 22 "NeedleGrid$Grid" "barDirections" "[I"]
def wsX1_layInto_r2 : List Cond := [Cond.fieldLink RX2 25 "NeedleGrid$Grid" "barStrengths" "[I", Cond.methodLink RX1 29 yX0_take, Cond.instanceMethod yX0_take, Cond.selects RX0 yX0_take yX0_take, Cond.code yX0_take cX0_take 3 (some .boolean), Cond.methodLink RX0 21 yX0_goOn, Cond.instanceMethod yX0_goOn, Cond.selects RX0 yX0_goOn yX0_goOn, Cond.code yX0_goOn cX0_goOn 3 (some .boolean), Cond.methodLink RX0 34 yX0_takeBehindStrength, Cond.instanceMethod yX0_takeBehindStrength, Cond.selects RX0 yX0_takeBehindStrength yX0_takeBehindStrength, Cond.code yX0_takeBehindStrength cX0_takeBehindStrength 3 (some .boolean)]
def wsX1_layInto : List Cond := .code yX1_layInto cX1_layInto 3 none :: ((wsX1_layInto_r1 ++ wsX1_layInto_r2) ++ wsX10 ++ wsX00 ++ wsX20)
def wsX4_across : List Cond := .code yX4_across cX4_across 1 (some .int) :: ([.fieldLink RX4 284 "NeedleGrid" "ACROSS" "[I"])
def wsX4_down : List Cond := .code yX4_down cX4_down 1 (some .int) :: ([.fieldLink RX4 287 "NeedleGrid" "DOWN" "[I"])
def wsX2_hasBar : List Cond := .code yX2_hasBar cX2_hasBar 2 (some .boolean) :: ([.fieldLink RX2 25 "NeedleGrid$Grid" "barStrengths" "[I"] ++ wsX20)
def wsX4_pull : List Cond := .code yX4_pull cX4_pull 12 (some .int) :: ([.methodLink RX4 290 yX4_across, .static yX4_across, .initialized RX4, .code yX4_across cX4_across 1 (some .int), .fieldLink RX4 284 "NeedleGrid" "ACROSS" "[I", .methodLink RX4 293 yX4_down, .static yX4_down, .code yX4_down cX4_down 1 (some .int), .fieldLink RX4 287 "NeedleGrid" "DOWN" "[I"])
def wsX2_addBarToStill : List Cond := .code yX2_addBarToStill cX2_addBarToStill 6 none :: ([.fieldLink RX2 22 "NeedleGrid$Grid" "barDirections" "[I", .fieldLink RX2 25 "NeedleGrid$Grid" "barStrengths" "[I", .fieldLink RX2 31 "NeedleGrid$Grid" "stillX" "[I", .fieldLink RX2 34 "NeedleGrid$Grid" "stillY" "[I", .static yX4_across, .initialized RX4, .code yX4_across cX4_across 1 (some .int), .fieldLink RX4 284 "NeedleGrid" "ACROSS" "[I", .static yX4_down, .code yX4_down cX4_down 1 (some .int), .fieldLink RX4 287 "NeedleGrid" "DOWN" "[I", .static yX4_pull, .code yX4_pull cX4_pull 12 (some .int), .methodLink RX4 290 yX4_across, .methodLink RX4 293 yX4_down] ++ wsX20)
def wsX2_addToField : List Cond := .code yX2_addToField cX2_addToField 4 none :: ([.fieldLink RX2 37 "NeedleGrid$Grid" "fieldX" "[I", .fieldLink RX2 40 "NeedleGrid$Grid" "fieldY" "[I"] ++ wsX20)
def wsX2_addNeedleToNeighbours : List Cond := .code yX2_addNeedleToNeighbours cX2_addNeedleToNeighbours 5 none :: ([.fieldLink RX2 28 "NeedleGrid$Grid" "settings" "[I", .fieldLink RX2 9 "NeedleGrid$Grid" "directions" "[I", .static yX4_across, .initialized RX4, .code yX4_across cX4_across 1 (some .int), .fieldLink RX4 284 "NeedleGrid" "ACROSS" "[I", .static yX4_down, .code yX4_down cX4_down 1 (some .int), .fieldLink RX4 287 "NeedleGrid" "DOWN" "[I", .methodLink RX2 81 yX2_addToField, .instanceMethod yX2_addToField, .selects RX2 yX2_addToField yX2_addToField, .initialized RX2, .code yX2_addToField cX2_addToField 4 none, .fieldLink RX2 37 "NeedleGrid$Grid" "fieldX" "[I", .fieldLink RX2 40 "NeedleGrid$Grid" "fieldY" "[I"] ++ wsX20)
def wsX2_measureField : List Cond := .code yX2_measureField cX2_measureField 2 none :: ([.fieldLink RX2 37 "NeedleGrid$Grid" "fieldX" "[I", .fieldLink RX2 31 "NeedleGrid$Grid" "stillX" "[I", .fieldLink RX2 40 "NeedleGrid$Grid" "fieldY" "[I", .fieldLink RX2 34 "NeedleGrid$Grid" "stillY" "[I", .methodLink RX2 78 yX2_addNeedleToNeighbours, .instanceMethod yX2_addNeedleToNeighbours, .selects RX2 yX2_addNeedleToNeighbours yX2_addNeedleToNeighbours, .initialized RX2, .code yX2_addNeedleToNeighbours cX2_addNeedleToNeighbours 5 none, .fieldLink RX2 28 "NeedleGrid$Grid" "settings" "[I", .fieldLink RX2 9 "NeedleGrid$Grid" "directions" "[I", .static yX4_across, .initialized RX4, .code yX4_across cX4_across 1 (some .int), .fieldLink RX4 284 "NeedleGrid" "ACROSS" "[I", .static yX4_down, .code yX4_down cX4_down 1 (some .int), .fieldLink RX4 287 "NeedleGrid" "DOWN" "[I", .methodLink RX2 81 yX2_addToField, .instanceMethod yX2_addToField, .selects RX2 yX2_addToField yX2_addToField, .code yX2_addToField cX2_addToField 4 none] ++ wsX20)
def wsX2_measureAll_r1 : List Cond := [Cond.fieldLink RX2 28 "NeedleGrid$Grid" "settings" "[I", Cond.fieldLink RX2 46 "NeedleGrid$Grid" "turns" "I", Cond.fieldLink RX2 50 "NeedleGrid$Grid" "coilDirection" "I", Cond.fieldLink RX2 31 "NeedleGrid$Grid" "stillX" "[I", Cond.fieldLink RX2 34 "NeedleGrid$Grid" "stillY" "[I", Cond.static yX4_across, Cond.initialized RX4, Cond.code yX4_across cX4_across 1 (some .int), Cond.fieldLink RX4 284 "NeedleGrid" "ACROSS" "[I", Cond.static yX4_down, Cond.code yX4_down cX4_down 1 (some .int), Cond.fieldLink RX4 287 "NeedleGrid" "DOWN" "[I", Cond.methodLink RX2 63 yX2_hasBar, Cond.instanceMethod yX2_hasBar, Cond.selects RX2 yX2_hasBar yX2_hasBar, Cond.initialized RX2, Cond.code yX2_hasBar cX2_hasBar 2 (some .boolean), Cond.fieldLink RX2 25 "NeedleGrid$Grid" "barStrengths" "[I", Cond.methodLink RX2 67 yX2_addBarToStill, Cond.instanceMethod yX2_addBarToStill, Cond.selects RX2 yX2_addBarToStill yX2_addBarToStill, Cond.code yX2_addBarToStill cX2_addBarToStill 6 none, Cond.fieldLink RX2 22 "NeedleGrid$Grid" "barDirections" "[I", Cond.static yX4_pull]
def wsX2_measureAll_r2 : List Cond := [Cond.code yX4_pull cX4_pull 12 (some .int), Cond.methodLink RX4 290 yX4_across, Cond.methodLink RX4 293 yX4_down, Cond.methodLink RX2 71 yX2_measureField, Cond.instanceMethod yX2_measureField, Cond.selects RX2 yX2_measureField yX2_measureField, Cond.code yX2_measureField cX2_measureField 2 none, Cond.fieldLink RX2 37 "NeedleGrid$Grid" "fieldX" "[I", Cond.fieldLink RX2 40 "NeedleGrid$Grid" "fieldY" "[I", Cond.methodLink RX2 78 yX2_addNeedleToNeighbours, Cond.instanceMethod yX2_addNeedleToNeighbours, Cond.selects RX2 yX2_addNeedleToNeighbours yX2_addNeedleToNeighbours, Cond.code yX2_addNeedleToNeighbours cX2_addNeedleToNeighbours 5 none, Cond.fieldLink RX2 9 "NeedleGrid$Grid" "directions" "[I", Cond.methodLink RX2 81 yX2_addToField, Cond.instanceMethod yX2_addToField, Cond.selects RX2 yX2_addToField yX2_addToField, Cond.code yX2_addToField cX2_addToField 4 none]
def wsX2_measureAll : List Cond := .code yX2_measureAll cX2_measureAll 5 none :: ((wsX2_measureAll_r1 ++ wsX2_measureAll_r2) ++ wsX20)
def wsX2_init_r1 : List Cond := [Cond.methodLink RX2 3 objectInit, Cond.instanceMethod objectInit, Cond.code objectInit ⟨#[0xb1]⟩ 1 none, Cond.arrayClass .int, Cond.fieldLink RX2 9 "NeedleGrid$Grid" "directions" "[I", Cond.fieldLink RX2 15 "NeedleGrid$Grid" "frictions" "[I", Cond.arrayClass .boolean, Cond.fieldLink RX2 18 "NeedleGrid$Grid" "held" "[Z", Cond.fieldLink RX2 22 "NeedleGrid$Grid" "barDirections" "[I", Cond.fieldLink RX2 25 "NeedleGrid$Grid" "barStrengths" "[I", Cond.fieldLink RX2 28 "NeedleGrid$Grid" "settings" "[I", Cond.fieldLink RX2 31 "NeedleGrid$Grid" "stillX" "[I", Cond.fieldLink RX2 34 "NeedleGrid$Grid" "stillY" "[I", Cond.fieldLink RX2 37 "NeedleGrid$Grid" "fieldX" "[I", Cond.fieldLink RX2 40 "NeedleGrid$Grid" "fieldY" "[I", Cond.methodLink RX2 43 yX2_measureAll, Cond.instanceMethod yX2_measureAll, Cond.selects RX2 yX2_measureAll yX2_measureAll, Cond.initialized RX2, Cond.code yX2_measureAll cX2_measureAll 5 none, Cond.fieldLink RX2 46 "NeedleGrid$Grid" "turns" "I", Cond.fieldLink RX2 50 "NeedleGrid$Grid" "coilDirection" "I", Cond.static yX4_across, Cond.initialized RX4]
def wsX2_init_r2 : List Cond := [Cond.code yX4_across cX4_across 1 (some .int), Cond.fieldLink RX4 284 "NeedleGrid" "ACROSS" "[I", Cond.static yX4_down, Cond.code yX4_down cX4_down 1 (some .int), Cond.fieldLink RX4 287 "NeedleGrid" "DOWN" "[I", Cond.methodLink RX2 63 yX2_hasBar, Cond.instanceMethod yX2_hasBar, Cond.selects RX2 yX2_hasBar yX2_hasBar, Cond.code yX2_hasBar cX2_hasBar 2 (some .boolean), Cond.methodLink RX2 67 yX2_addBarToStill, Cond.instanceMethod yX2_addBarToStill, Cond.selects RX2 yX2_addBarToStill yX2_addBarToStill, Cond.code yX2_addBarToStill cX2_addBarToStill 6 none, Cond.static yX4_pull, Cond.code yX4_pull cX4_pull 12 (some .int), Cond.methodLink RX4 290 yX4_across, Cond.methodLink RX4 293 yX4_down, Cond.methodLink RX2 71 yX2_measureField, Cond.instanceMethod yX2_measureField, Cond.selects RX2 yX2_measureField yX2_measureField, Cond.code yX2_measureField cX2_measureField 2 none, Cond.methodLink RX2 78 yX2_addNeedleToNeighbours, Cond.instanceMethod yX2_addNeedleToNeighbours, Cond.selects RX2 yX2_addNeedleToNeighbours yX2_addNeedleToNeighbours]
def wsX2_init_r3 : List Cond := [Cond.code yX2_addNeedleToNeighbours cX2_addNeedleToNeighbours 5 none, Cond.methodLink RX2 81 yX2_addToField, Cond.instanceMethod yX2_addToField, Cond.selects RX2 yX2_addToField yX2_addToField, Cond.code yX2_addToField cX2_addToField 4 none]
def wsX2_init : List Cond := .code yX2_init cX2_init 2 none :: ((wsX2_init_r1 ++ (wsX2_init_r2 ++ wsX2_init_r3)) ++ wsX20)
def wsX2_copyFrom : List Cond := .code yX2_copyFrom cX2_copyFrom 3 none :: ([.fieldLink RX2 9 "NeedleGrid$Grid" "directions" "[I", .fieldLink RX2 15 "NeedleGrid$Grid" "frictions" "[I", .fieldLink RX2 18 "NeedleGrid$Grid" "held" "[Z", .fieldLink RX2 22 "NeedleGrid$Grid" "barDirections" "[I", .fieldLink RX2 25 "NeedleGrid$Grid" "barStrengths" "[I", .fieldLink RX2 31 "NeedleGrid$Grid" "stillX" "[I", .fieldLink RX2 34 "NeedleGrid$Grid" "stillY" "[I", .fieldLink RX2 37 "NeedleGrid$Grid" "fieldX" "[I", .fieldLink RX2 40 "NeedleGrid$Grid" "fieldY" "[I", .fieldLink RX2 28 "NeedleGrid$Grid" "settings" "[I", .fieldLink RX2 46 "NeedleGrid$Grid" "turns" "I", .fieldLink RX2 50 "NeedleGrid$Grid" "coilDirection" "I", .fieldLink RX2 53 "NeedleGrid$Grid" "stepsSoFar" "I"] ++ wsX20)
def wsX4_aimOf : List Cond := .code yX4_aimOf cX4_aimOf 4 (some .int) :: ([])
def wsX2_aim : List Cond := .code yX2_aim cX2_aim 2 (some .int) :: ([.fieldLink RX2 37 "NeedleGrid$Grid" "fieldX" "[I", .fieldLink RX2 40 "NeedleGrid$Grid" "fieldY" "[I", .static yX4_aimOf, .initialized RX4, .code yX4_aimOf cX4_aimOf 4 (some .int)] ++ wsX20)
def wsX2_aimIfBar : List Cond := .code yX2_aimIfBar cX2_aimIfBar 10 (some .int) :: ([.fieldLink RX2 22 "NeedleGrid$Grid" "barDirections" "[I", .fieldLink RX2 25 "NeedleGrid$Grid" "barStrengths" "[I", .fieldLink RX2 37 "NeedleGrid$Grid" "fieldX" "[I", .fieldLink RX2 40 "NeedleGrid$Grid" "fieldY" "[I", .static yX4_pull, .initialized RX4, .code yX4_pull cX4_pull 12 (some .int), .methodLink RX4 290 yX4_across, .static yX4_across, .code yX4_across cX4_across 1 (some .int), .fieldLink RX4 284 "NeedleGrid" "ACROSS" "[I", .methodLink RX4 293 yX4_down, .static yX4_down, .code yX4_down cX4_down 1 (some .int), .fieldLink RX4 287 "NeedleGrid" "DOWN" "[I", .static yX4_aimOf, .code yX4_aimOf cX4_aimOf 4 (some .int)] ++ wsX20)
def wsX2_aimIfTurns : List Cond := .code yX2_aimIfTurns cX2_aimIfTurns 6 (some .int) :: ([.fieldLink RX2 28 "NeedleGrid$Grid" "settings" "[I", .fieldLink RX2 46 "NeedleGrid$Grid" "turns" "I", .fieldLink RX2 37 "NeedleGrid$Grid" "fieldX" "[I", .fieldLink RX2 50 "NeedleGrid$Grid" "coilDirection" "I", .fieldLink RX2 40 "NeedleGrid$Grid" "fieldY" "[I", .static yX4_across, .initialized RX4, .code yX4_across cX4_across 1 (some .int), .fieldLink RX4 284 "NeedleGrid" "ACROSS" "[I", .static yX4_down, .code yX4_down cX4_down 1 (some .int), .fieldLink RX4 287 "NeedleGrid" "DOWN" "[I", .static yX4_aimOf, .code yX4_aimOf cX4_aimOf 4 (some .int)] ++ wsX20)
def wsX4_ahead : List Cond := .code yX4_ahead cX4_ahead 2 (some .int) :: ([])
def wsX2_awayFromAim : List Cond := .code yX2_awayFromAim cX2_awayFromAim 4 (some .int) :: ([.fieldLink RX2 9 "NeedleGrid$Grid" "directions" "[I", .methodLink RX2 89 yX2_aim, .instanceMethod yX2_aim, .selects RX2 yX2_aim yX2_aim, .initialized RX2, .code yX2_aim cX2_aim 2 (some .int), .fieldLink RX2 37 "NeedleGrid$Grid" "fieldX" "[I", .fieldLink RX2 40 "NeedleGrid$Grid" "fieldY" "[I", .static yX4_aimOf, .initialized RX4, .code yX4_aimOf cX4_aimOf 4 (some .int), .static yX4_ahead, .code yX4_ahead cX4_ahead 2 (some .int)] ++ wsX20)
def wsX2_directionAfterStep : List Cond := .code yX2_directionAfterStep cX2_directionAfterStep 8 (some .int) :: ([.fieldLink RX2 9 "NeedleGrid$Grid" "directions" "[I", .fieldLink RX2 18 "NeedleGrid$Grid" "held" "[Z", .fieldLink RX2 37 "NeedleGrid$Grid" "fieldX" "[I", .fieldLink RX2 40 "NeedleGrid$Grid" "fieldY" "[I", .fieldLink RX2 15 "NeedleGrid$Grid" "frictions" "[I", .static yX4_aimOf, .initialized RX4, .code yX4_aimOf cX4_aimOf 4 (some .int), .static yX4_ahead, .code yX4_ahead cX4_ahead 2 (some .int)] ++ wsX20)
def wsX2_wouldTurn : List Cond := .code yX2_wouldTurn cX2_wouldTurn 2 (some .boolean) :: ([.fieldLink RX2 9 "NeedleGrid$Grid" "directions" "[I", .methodLink RX2 95 yX2_directionAfterStep, .instanceMethod yX2_directionAfterStep, .selects RX2 yX2_directionAfterStep yX2_directionAfterStep, .initialized RX2, .code yX2_directionAfterStep cX2_directionAfterStep 8 (some .int), .fieldLink RX2 18 "NeedleGrid$Grid" "held" "[Z", .fieldLink RX2 37 "NeedleGrid$Grid" "fieldX" "[I", .fieldLink RX2 40 "NeedleGrid$Grid" "fieldY" "[I", .fieldLink RX2 15 "NeedleGrid$Grid" "frictions" "[I", .static yX4_aimOf, .initialized RX4, .code yX4_aimOf cX4_aimOf 4 (some .int), .static yX4_ahead, .code yX4_ahead cX4_ahead 2 (some .int)] ++ wsX20)
def wsX2_turnAll_r1 : List Cond := [Cond.fieldLink RX2 9 "NeedleGrid$Grid" "directions" "[I", Cond.methodLink RX2 95 yX2_directionAfterStep, Cond.instanceMethod yX2_directionAfterStep, Cond.selects RX2 yX2_directionAfterStep yX2_directionAfterStep, Cond.initialized RX2, Cond.code yX2_directionAfterStep cX2_directionAfterStep 8 (some .int), Cond.fieldLink RX2 18 "NeedleGrid$Grid" "held" "[Z", Cond.fieldLink RX2 37 "NeedleGrid$Grid" "fieldX" "[I", Cond.fieldLink RX2 40 "NeedleGrid$Grid" "fieldY" "[I", Cond.fieldLink RX2 15 "NeedleGrid$Grid" "frictions" "[I", Cond.static yX4_aimOf, Cond.initialized RX4, Cond.code yX4_aimOf cX4_aimOf 4 (some .int), Cond.static yX4_ahead, Cond.code yX4_ahead cX4_ahead 2 (some .int), Cond.methodLink RX2 71 yX2_measureField, Cond.instanceMethod yX2_measureField, Cond.selects RX2 yX2_measureField yX2_measureField, Cond.code yX2_measureField cX2_measureField 2 none, Cond.fieldLink RX2 31 "NeedleGrid$Grid" "stillX" "[I", Cond.fieldLink RX2 34 "NeedleGrid$Grid" "stillY" "[I", Cond.methodLink RX2 78 yX2_addNeedleToNeighbours, Cond.instanceMethod yX2_addNeedleToNeighbours, Cond.selects RX2 yX2_addNeedleToNeighbours yX2_addNeedleToNeighbours]
def wsX2_turnAll_r2 : List Cond := [Cond.code yX2_addNeedleToNeighbours cX2_addNeedleToNeighbours 5 none, Cond.fieldLink RX2 28 "NeedleGrid$Grid" "settings" "[I", Cond.static yX4_across, Cond.code yX4_across cX4_across 1 (some .int), Cond.fieldLink RX4 284 "NeedleGrid" "ACROSS" "[I", Cond.static yX4_down, Cond.code yX4_down cX4_down 1 (some .int), Cond.fieldLink RX4 287 "NeedleGrid" "DOWN" "[I", Cond.methodLink RX2 81 yX2_addToField, Cond.instanceMethod yX2_addToField, Cond.selects RX2 yX2_addToField yX2_addToField, Cond.code yX2_addToField cX2_addToField 4 none]
def wsX2_turnAll : List Cond := .code yX2_turnAll cX2_turnAll 4 (some .int) :: ((wsX2_turnAll_r1 ++ wsX2_turnAll_r2) ++ wsX20)
def wsX2_letGoBy_r1 : List Cond := [Cond.fieldLink RX2 53 "NeedleGrid$Grid" "stepsSoFar" "I", Cond.methodLink RX2 98 yX2_turnAll, Cond.instanceMethod yX2_turnAll, Cond.selects RX2 yX2_turnAll yX2_turnAll, Cond.initialized RX2, Cond.code yX2_turnAll cX2_turnAll 4 (some .int), Cond.fieldLink RX2 9 "NeedleGrid$Grid" "directions" "[I", Cond.methodLink RX2 95 yX2_directionAfterStep, Cond.instanceMethod yX2_directionAfterStep, Cond.selects RX2 yX2_directionAfterStep yX2_directionAfterStep, Cond.code yX2_directionAfterStep cX2_directionAfterStep 8 (some .int), Cond.fieldLink RX2 18 "NeedleGrid$Grid" "held" "[Z", Cond.fieldLink RX2 37 "NeedleGrid$Grid" "fieldX" "[I", Cond.fieldLink RX2 40 "NeedleGrid$Grid" "fieldY" "[I", Cond.fieldLink RX2 15 "NeedleGrid$Grid" "frictions" "[I", Cond.static yX4_aimOf, Cond.initialized RX4, Cond.code yX4_aimOf cX4_aimOf 4 (some .int), Cond.static yX4_ahead, Cond.code yX4_ahead cX4_ahead 2 (some .int), Cond.methodLink RX2 71 yX2_measureField, Cond.instanceMethod yX2_measureField, Cond.selects RX2 yX2_measureField yX2_measureField, Cond.code yX2_measureField cX2_measureField 2 none]
def wsX2_letGoBy_r2 : List Cond := [Cond.fieldLink RX2 31 "NeedleGrid$Grid" "stillX" "[I", Cond.fieldLink RX2 34 "NeedleGrid$Grid" "stillY" "[I", Cond.methodLink RX2 78 yX2_addNeedleToNeighbours, Cond.instanceMethod yX2_addNeedleToNeighbours, Cond.selects RX2 yX2_addNeedleToNeighbours yX2_addNeedleToNeighbours, Cond.code yX2_addNeedleToNeighbours cX2_addNeedleToNeighbours 5 none, Cond.fieldLink RX2 28 "NeedleGrid$Grid" "settings" "[I", Cond.static yX4_across, Cond.code yX4_across cX4_across 1 (some .int), Cond.fieldLink RX4 284 "NeedleGrid" "ACROSS" "[I", Cond.static yX4_down, Cond.code yX4_down cX4_down 1 (some .int), Cond.fieldLink RX4 287 "NeedleGrid" "DOWN" "[I", Cond.methodLink RX2 81 yX2_addToField, Cond.instanceMethod yX2_addToField, Cond.selects RX2 yX2_addToField yX2_addToField, Cond.code yX2_addToField cX2_addToField 4 none]
def wsX2_letGoBy : List Cond := .code yX2_letGoBy cX2_letGoBy 4 (some .int) :: ((wsX2_letGoBy_r1 ++ wsX2_letGoBy_r2) ++ wsX20)
def wsX2_takeBar : List Cond := .code yX2_takeBar cX2_takeBar 2 none :: ([.methodLink RX2 102 yX2_layBar, .instanceMethod yX2_layBar, .selects RX2 yX2_layBar yX2_layBar, .initialized RX2, .code yX2_layBar cX2_layBar 4 none, .fieldLink RX2 22 "NeedleGrid$Grid" "barDirections" "[I", .fieldLink RX2 25 "NeedleGrid$Grid" "barStrengths" "[I"] ++ wsX20)
def wsX2_takeAllBars : List Cond := .code yX2_takeAllBars cX2_takeAllBars 2 none :: ([.methodLink RX2 105 yX2_takeBar, .instanceMethod yX2_takeBar, .selects RX2 yX2_takeBar yX2_takeBar, .initialized RX2, .code yX2_takeBar cX2_takeBar 2 none, .methodLink RX2 102 yX2_layBar, .instanceMethod yX2_layBar, .selects RX2 yX2_layBar yX2_layBar, .code yX2_layBar cX2_layBar 4 none, .fieldLink RX2 22 "NeedleGrid$Grid" "barDirections" "[I", .fieldLink RX2 25 "NeedleGrid$Grid" "barStrengths" "[I"] ++ wsX20)
def wsX2_barCount : List Cond := .code yX2_barCount cX2_barCount 3 (some .int) :: ([.methodLink RX2 63 yX2_hasBar, .instanceMethod yX2_hasBar, .selects RX2 yX2_hasBar yX2_hasBar, .initialized RX2, .code yX2_hasBar cX2_hasBar 2 (some .boolean), .fieldLink RX2 25 "NeedleGrid$Grid" "barStrengths" "[I"] ++ wsX20)
def wsX2_cellOfBar : List Cond := .code yX2_cellOfBar cX2_cellOfBar 4 (some .int) :: ([.methodLink RX2 63 yX2_hasBar, .instanceMethod yX2_hasBar, .selects RX2 yX2_hasBar yX2_hasBar, .initialized RX2, .code yX2_hasBar cX2_hasBar 2 (some .boolean), .fieldLink RX2 25 "NeedleGrid$Grid" "barStrengths" "[I"] ++ wsX20)
def wsX2_heldCount : List Cond := .code yX2_heldCount cX2_heldCount 3 (some .int) :: ([.fieldLink RX2 18 "NeedleGrid$Grid" "held" "[Z"] ++ wsX20)
def wsX2_turningCount : List Cond := .code yX2_turningCount cX2_turningCount 3 (some .int) :: ([.methodLink RX2 108 yX2_wouldTurn, .instanceMethod yX2_wouldTurn, .selects RX2 yX2_wouldTurn yX2_wouldTurn, .initialized RX2, .code yX2_wouldTurn cX2_wouldTurn 2 (some .boolean), .fieldLink RX2 9 "NeedleGrid$Grid" "directions" "[I", .methodLink RX2 95 yX2_directionAfterStep, .instanceMethod yX2_directionAfterStep, .selects RX2 yX2_directionAfterStep yX2_directionAfterStep, .code yX2_directionAfterStep cX2_directionAfterStep 8 (some .int), .fieldLink RX2 18 "NeedleGrid$Grid" "held" "[Z", .fieldLink RX2 37 "NeedleGrid$Grid" "fieldX" "[I", .fieldLink RX2 40 "NeedleGrid$Grid" "fieldY" "[I", .fieldLink RX2 15 "NeedleGrid$Grid" "frictions" "[I", .static yX4_aimOf, .initialized RX4, .code yX4_aimOf cX4_aimOf 4 (some .int), .static yX4_ahead, .code yX4_ahead cX4_ahead 2 (some .int)] ++ wsX20)
def wsX2_aimedCount : List Cond := .code yX2_aimedCount cX2_aimedCount 3 (some .int) :: ([.methodLink RX2 89 yX2_aim, .instanceMethod yX2_aim, .selects RX2 yX2_aim yX2_aim, .initialized RX2, .code yX2_aim cX2_aim 2 (some .int), .fieldLink RX2 37 "NeedleGrid$Grid" "fieldX" "[I", .fieldLink RX2 40 "NeedleGrid$Grid" "fieldY" "[I", .static yX4_aimOf, .initialized RX4, .code yX4_aimOf cX4_aimOf 4 (some .int)] ++ wsX20)
def wsX2_obeyingCount : List Cond := .code yX2_obeyingCount cX2_obeyingCount 3 (some .int) :: ([.fieldLink RX2 9 "NeedleGrid$Grid" "directions" "[I", .methodLink RX2 89 yX2_aim, .instanceMethod yX2_aim, .selects RX2 yX2_aim yX2_aim, .initialized RX2, .code yX2_aim cX2_aim 2 (some .int), .fieldLink RX2 37 "NeedleGrid$Grid" "fieldX" "[I", .fieldLink RX2 40 "NeedleGrid$Grid" "fieldY" "[I", .static yX4_aimOf, .initialized RX4, .code yX4_aimOf cX4_aimOf 4 (some .int)] ++ wsX20)
def wsX2_awayTogether : List Cond := .code yX2_awayTogether cX2_awayTogether 4 (some .int) :: ([.methodLink RX2 111 yX2_awayFromAim, .instanceMethod yX2_awayFromAim, .selects RX2 yX2_awayFromAim yX2_awayFromAim, .initialized RX2, .code yX2_awayFromAim cX2_awayFromAim 4 (some .int), .fieldLink RX2 9 "NeedleGrid$Grid" "directions" "[I", .methodLink RX2 89 yX2_aim, .instanceMethod yX2_aim, .selects RX2 yX2_aim yX2_aim, .code yX2_aim cX2_aim 2 (some .int), .fieldLink RX2 37 "NeedleGrid$Grid" "fieldX" "[I", .fieldLink RX2 40 "NeedleGrid$Grid" "fieldY" "[I", .static yX4_aimOf, .initialized RX4, .code yX4_aimOf cX4_aimOf 4 (some .int), .static yX4_ahead, .code yX4_ahead cX4_ahead 2 (some .int)] ++ wsX20)
def wsX2_pointingCount : List Cond := .code yX2_pointingCount cX2_pointingCount 4 (some .int) :: ([.fieldLink RX2 9 "NeedleGrid$Grid" "directions" "[I"] ++ wsX20)
def wsX3_init_r1 : List Cond := [Cond.methodLink RX3 3 objectInit, Cond.instanceMethod objectInit, Cond.code objectInit ⟨#[0xb1]⟩ 1 none, Cond.classLink RX3 9 RX2, Cond.fieldLink RX3 11 "NeedleGrid$History" "ring" "[LNeedleGrid$Grid;", Cond.instantiable RX2 13, Cond.initialized RX2, Cond.methodLink RX3 17 yX2_init, Cond.instanceMethod yX2_init, Cond.code yX2_init cX2_init 2 none, Cond.methodLink RX2 3 objectInit, Cond.arrayClass .int, Cond.fieldLink RX2 9 "NeedleGrid$Grid" "directions" "[I", Cond.fieldLink RX2 15 "NeedleGrid$Grid" "frictions" "[I", Cond.arrayClass .boolean, Cond.fieldLink RX2 18 "NeedleGrid$Grid" "held" "[Z", Cond.fieldLink RX2 22 "NeedleGrid$Grid" "barDirections" "[I", Cond.fieldLink RX2 25 "NeedleGrid$Grid" "barStrengths" "[I", Cond.fieldLink RX2 28 "NeedleGrid$Grid" "settings" "[I", Cond.fieldLink RX2 31 "NeedleGrid$Grid" "stillX" "[I", Cond.fieldLink RX2 34 "NeedleGrid$Grid" "stillY" "[I", Cond.fieldLink RX2 37 "NeedleGrid$Grid" "fieldX" "[I", Cond.fieldLink RX2 40 "NeedleGrid$Grid" "fieldY" "[I", Cond.methodLink RX2 43 yX2_measureAll]
def wsX3_init_r2 : List Cond := [Cond.instanceMethod yX2_measureAll, Cond.selects RX2 yX2_measureAll yX2_measureAll, Cond.code yX2_measureAll cX2_measureAll 5 none, Cond.fieldLink RX2 46 "NeedleGrid$Grid" "turns" "I", Cond.fieldLink RX2 50 "NeedleGrid$Grid" "coilDirection" "I", Cond.static yX4_across, Cond.initialized RX4, Cond.code yX4_across cX4_across 1 (some .int), Cond.fieldLink RX4 284 "NeedleGrid" "ACROSS" "[I", Cond.static yX4_down, Cond.code yX4_down cX4_down 1 (some .int), Cond.fieldLink RX4 287 "NeedleGrid" "DOWN" "[I", Cond.methodLink RX2 63 yX2_hasBar, Cond.instanceMethod yX2_hasBar, Cond.selects RX2 yX2_hasBar yX2_hasBar, Cond.code yX2_hasBar cX2_hasBar 2 (some .boolean), Cond.methodLink RX2 67 yX2_addBarToStill, Cond.instanceMethod yX2_addBarToStill, Cond.selects RX2 yX2_addBarToStill yX2_addBarToStill, Cond.code yX2_addBarToStill cX2_addBarToStill 6 none, Cond.static yX4_pull, Cond.code yX4_pull cX4_pull 12 (some .int), Cond.methodLink RX4 290 yX4_across, Cond.methodLink RX4 293 yX4_down]
def wsX3_init_r3 : List Cond := [Cond.methodLink RX2 71 yX2_measureField, Cond.instanceMethod yX2_measureField, Cond.selects RX2 yX2_measureField yX2_measureField, Cond.code yX2_measureField cX2_measureField 2 none, Cond.methodLink RX2 78 yX2_addNeedleToNeighbours, Cond.instanceMethod yX2_addNeedleToNeighbours, Cond.selects RX2 yX2_addNeedleToNeighbours yX2_addNeedleToNeighbours, Cond.code yX2_addNeedleToNeighbours cX2_addNeedleToNeighbours 5 none, Cond.methodLink RX2 81 yX2_addToField, Cond.instanceMethod yX2_addToField, Cond.selects RX2 yX2_addToField yX2_addToField, Cond.code yX2_addToField cX2_addToField 4 none]
def wsX3_init : List Cond := .code yX3_init cX3_init 2 none :: ((wsX3_init_r1 ++ (wsX3_init_r2 ++ wsX3_init_r3)) ++ wsX30 ++ wsX20)
def wsX3_save : List Cond := .code yX3_save cX3_save 3 none :: ([.fieldLink RX3 11 "NeedleGrid$History" "ring" "[LNeedleGrid$Grid;", .fieldLink RX3 18 "NeedleGrid$History" "next" "I", .fieldLink RX3 26 "NeedleGrid$History" "amount" "I", .methodLink RX3 22 yX2_copyFrom, .instanceMethod yX2_copyFrom, .selects RX2 yX2_copyFrom yX2_copyFrom, .initialized RX2, .code yX2_copyFrom cX2_copyFrom 3 none, .fieldLink RX2 9 "NeedleGrid$Grid" "directions" "[I", .fieldLink RX2 15 "NeedleGrid$Grid" "frictions" "[I", .fieldLink RX2 18 "NeedleGrid$Grid" "held" "[Z", .fieldLink RX2 22 "NeedleGrid$Grid" "barDirections" "[I", .fieldLink RX2 25 "NeedleGrid$Grid" "barStrengths" "[I", .fieldLink RX2 31 "NeedleGrid$Grid" "stillX" "[I", .fieldLink RX2 34 "NeedleGrid$Grid" "stillY" "[I", .fieldLink RX2 37 "NeedleGrid$Grid" "fieldX" "[I", .fieldLink RX2 40 "NeedleGrid$Grid" "fieldY" "[I", .fieldLink RX2 28 "NeedleGrid$Grid" "settings" "[I", .fieldLink RX2 46 "NeedleGrid$Grid" "turns" "I", .fieldLink RX2 50 "NeedleGrid$Grid" "coilDirection" "I", .fieldLink RX2 53 "NeedleGrid$Grid" "stepsSoFar" "I"] ++ wsX30 ++ wsX20)
def wsX3_restoreInto : List Cond := .code yX3_restoreInto cX3_restoreInto 3 none :: ([.fieldLink RX3 18 "NeedleGrid$History" "next" "I", .fieldLink RX3 26 "NeedleGrid$History" "amount" "I", .fieldLink RX3 11 "NeedleGrid$History" "ring" "[LNeedleGrid$Grid;", .methodLink RX3 22 yX2_copyFrom, .instanceMethod yX2_copyFrom, .selects RX2 yX2_copyFrom yX2_copyFrom, .initialized RX2, .code yX2_copyFrom cX2_copyFrom 3 none, .fieldLink RX2 9 "NeedleGrid$Grid" "directions" "[I", .fieldLink RX2 15 "NeedleGrid$Grid" "frictions" "[I", .fieldLink RX2 18 "NeedleGrid$Grid" "held" "[Z", .fieldLink RX2 22 "NeedleGrid$Grid" "barDirections" "[I", .fieldLink RX2 25 "NeedleGrid$Grid" "barStrengths" "[I", .fieldLink RX2 31 "NeedleGrid$Grid" "stillX" "[I", .fieldLink RX2 34 "NeedleGrid$Grid" "stillY" "[I", .fieldLink RX2 37 "NeedleGrid$Grid" "fieldX" "[I", .fieldLink RX2 40 "NeedleGrid$Grid" "fieldY" "[I", .fieldLink RX2 28 "NeedleGrid$Grid" "settings" "[I", .fieldLink RX2 46 "NeedleGrid$Grid" "turns" "I", .fieldLink RX2 50 "NeedleGrid$Grid" "coilDirection" "I", .fieldLink RX2 53 "NeedleGrid$Grid" "stepsSoFar" "I"] ++ wsX30 ++ wsX20)
def wsX4_init_r1 : List Cond := [Cond.methodLink RX4 3 objectInit, Cond.instanceMethod objectInit, Cond.code objectInit ⟨#[0xb1]⟩ 1 none, Cond.classLink RX4 9 RX2, Cond.instantiable RX2 13, Cond.initialized RX2, Cond.fieldLink RX4 12 "NeedleGrid" "now" "LNeedleGrid$Grid;", Cond.fieldLink RX4 16 "NeedleGrid" "trial" "LNeedleGrid$Grid;", Cond.classLink RX4 19 RX3, Cond.instantiable RX3 3, Cond.initialized RX3, Cond.fieldLink RX4 22 "NeedleGrid" "history" "LNeedleGrid$History;", Cond.classLink RX4 26 RX1, Cond.instantiable RX1 3, Cond.initialized RX1, Cond.fieldLink RX4 29 "NeedleGrid" "text" "LNeedleGrid$BarText;", Cond.methodLink RX4 11 yX2_init, Cond.instanceMethod yX2_init, Cond.code yX2_init cX2_init 2 none, Cond.methodLink RX2 3 objectInit, Cond.arrayClass .int, Cond.fieldLink RX2 9 "NeedleGrid$Grid" "directions" "[I", Cond.fieldLink RX2 15 "NeedleGrid$Grid" "frictions" "[I", Cond.arrayClass .boolean]
def wsX4_init_r2 : List Cond := [Cond.fieldLink RX2 18 "NeedleGrid$Grid" "held" "[Z", Cond.fieldLink RX2 22 "NeedleGrid$Grid" "barDirections" "[I", Cond.fieldLink RX2 25 "NeedleGrid$Grid" "barStrengths" "[I", Cond.fieldLink RX2 28 "NeedleGrid$Grid" "settings" "[I", Cond.fieldLink RX2 31 "NeedleGrid$Grid" "stillX" "[I", Cond.fieldLink RX2 34 "NeedleGrid$Grid" "stillY" "[I", Cond.fieldLink RX2 37 "NeedleGrid$Grid" "fieldX" "[I", Cond.fieldLink RX2 40 "NeedleGrid$Grid" "fieldY" "[I", Cond.methodLink RX2 43 yX2_measureAll, Cond.instanceMethod yX2_measureAll, Cond.selects RX2 yX2_measureAll yX2_measureAll, Cond.code yX2_measureAll cX2_measureAll 5 none, Cond.fieldLink RX2 46 "NeedleGrid$Grid" "turns" "I", Cond.fieldLink RX2 50 "NeedleGrid$Grid" "coilDirection" "I", Cond.static yX4_across, Cond.initialized RX4, Cond.code yX4_across cX4_across 1 (some .int), Cond.fieldLink RX4 284 "NeedleGrid" "ACROSS" "[I", Cond.static yX4_down, Cond.code yX4_down cX4_down 1 (some .int), Cond.fieldLink RX4 287 "NeedleGrid" "DOWN" "[I", Cond.methodLink RX2 63 yX2_hasBar, Cond.instanceMethod yX2_hasBar, Cond.selects RX2 yX2_hasBar yX2_hasBar]
def wsX4_init_r3 : List Cond := [Cond.code yX2_hasBar cX2_hasBar 2 (some .boolean), Cond.methodLink RX2 67 yX2_addBarToStill, Cond.instanceMethod yX2_addBarToStill, Cond.selects RX2 yX2_addBarToStill yX2_addBarToStill, Cond.code yX2_addBarToStill cX2_addBarToStill 6 none, Cond.static yX4_pull, Cond.code yX4_pull cX4_pull 12 (some .int), Cond.methodLink RX4 290 yX4_across, Cond.methodLink RX4 293 yX4_down, Cond.methodLink RX2 71 yX2_measureField, Cond.instanceMethod yX2_measureField, Cond.selects RX2 yX2_measureField yX2_measureField, Cond.code yX2_measureField cX2_measureField 2 none, Cond.methodLink RX2 78 yX2_addNeedleToNeighbours, Cond.instanceMethod yX2_addNeedleToNeighbours, Cond.selects RX2 yX2_addNeedleToNeighbours yX2_addNeedleToNeighbours, Cond.code yX2_addNeedleToNeighbours cX2_addNeedleToNeighbours 5 none, Cond.methodLink RX2 81 yX2_addToField, Cond.instanceMethod yX2_addToField, Cond.selects RX2 yX2_addToField yX2_addToField, Cond.code yX2_addToField cX2_addToField 4 none, Cond.methodLink RX4 21 yX3_init, Cond.instanceMethod yX3_init, Cond.code yX3_init cX3_init 2 none]
def wsX4_init_r4 : List Cond := [Cond.methodLink RX3 3 objectInit, Cond.classLink RX3 9 RX2, Cond.fieldLink RX3 11 "NeedleGrid$History" "ring" "[LNeedleGrid$Grid;", Cond.methodLink RX3 17 yX2_init, Cond.instanceMethod yX1_init, Cond.code yX1_init cX1_init 1 none, Cond.methodLink RX1 3 objectInit, Cond.fieldLink RX1 9 "NeedleGrid$BarText" "codes" "[I", Cond.classLink RX1 15 RX0, Cond.instantiable RX0 6, Cond.initialized RX0, Cond.fieldLink RX1 18 "NeedleGrid$BarText" "reader" "LNeedleGrid$BarReader;", Cond.instanceMethod yX0_init, Cond.code yX0_init cX0_init 1 none, Cond.methodLink RX0 3 objectInit]
def wsX4_init : List Cond := .code yX4_init cX4_init 1 none :: ((wsX4_init_r1 ++ (wsX4_init_r2 ++ (wsX4_init_r3 ++ wsX4_init_r4))) ++ wsX20 ++ wsX40 ++ wsX30 ++ wsX10 ++ wsX00)
def wsX4_requireCell : List Cond := .code yX4_requireCell cX4_requireCell 1 none :: ([.classLink RX4 275 "java/lang/IndexOutOfBoundsException", .initialized "java/lang/IndexOutOfBoundsException"] ++ (vx_atS RX4 279 "java/lang/IndexOutOfBoundsException" ["java/lang/RuntimeException", "java/lang/Exception"]).filter goodWord)
def wsX4_requireBetween : List Cond := .code yX4_requireBetween cX4_requireBetween 3 none :: ([.classLink RX4 127 "java/lang/IllegalArgumentException", .initialized "java/lang/IllegalArgumentException"] ++ (vx_atS RX4 131 "java/lang/IllegalArgumentException" ["java/lang/RuntimeException", "java/lang/Exception"]).filter goodWord)
def wsX4_requireDirection : List Cond := .code yX4_requireDirection cX4_requireDirection 1 none :: ([.methodLink RX4 51 yX4_requireBetween, .static yX4_requireBetween, .initialized RX4, .code yX4_requireBetween cX4_requireBetween 3 none, .classLink RX4 127 "java/lang/IllegalArgumentException", .initialized "java/lang/IllegalArgumentException"] ++ (vx_atS RX4 131 "java/lang/IllegalArgumentException" ["java/lang/RuntimeException", "java/lang/Exception"]).filter goodWord)
def wsX4_needle_r1 : List Cond := [Cond.fieldLink RX4 22 "NeedleGrid" "history" "LNeedleGrid$History;", Cond.fieldLink RX4 12 "NeedleGrid" "now" "LNeedleGrid$Grid;", Cond.methodLink RX4 33 yX4_requireCell, Cond.static yX4_requireCell, Cond.initialized RX4, Cond.code yX4_requireCell cX4_requireCell 1 none, Cond.classLink RX4 275 "java/lang/IndexOutOfBoundsException", Cond.initialized "java/lang/IndexOutOfBoundsException", Cond.methodLink RX4 37 yX4_requireDirection, Cond.static yX4_requireDirection, Cond.code yX4_requireDirection cX4_requireDirection 1 none, Cond.methodLink RX4 51 yX4_requireBetween, Cond.static yX4_requireBetween, Cond.code yX4_requireBetween cX4_requireBetween 3 none, Cond.classLink RX4 127 "java/lang/IllegalArgumentException", Cond.initialized "java/lang/IllegalArgumentException", Cond.methodLink RX4 40 yX3_save, Cond.instanceMethod yX3_save, Cond.selects RX3 yX3_save yX3_save, Cond.initialized RX3, Cond.code yX3_save cX3_save 3 none, Cond.fieldLink RX3 11 "NeedleGrid$History" "ring" "[LNeedleGrid$Grid;", Cond.fieldLink RX3 18 "NeedleGrid$History" "next" "I", Cond.fieldLink RX3 26 "NeedleGrid$History" "amount" "I"]
def wsX4_needle_r2 : List Cond := [Cond.methodLink RX3 22 yX2_copyFrom, Cond.instanceMethod yX2_copyFrom, Cond.selects RX2 yX2_copyFrom yX2_copyFrom, Cond.initialized RX2, Cond.code yX2_copyFrom cX2_copyFrom 3 none, Cond.fieldLink RX2 9 "NeedleGrid$Grid" "directions" "[I", Cond.fieldLink RX2 15 "NeedleGrid$Grid" "frictions" "[I", Cond.fieldLink RX2 18 "NeedleGrid$Grid" "held" "[Z", Cond.fieldLink RX2 22 "NeedleGrid$Grid" "barDirections" "[I", Cond.fieldLink RX2 25 "NeedleGrid$Grid" "barStrengths" "[I", Cond.fieldLink RX2 31 "NeedleGrid$Grid" "stillX" "[I", Cond.fieldLink RX2 34 "NeedleGrid$Grid" "stillY" "[I", Cond.fieldLink RX2 37 "NeedleGrid$Grid" "fieldX" "[I", Cond.fieldLink RX2 40 "NeedleGrid$Grid" "fieldY" "[I", Cond.fieldLink RX2 28 "NeedleGrid$Grid" "settings" "[I", Cond.fieldLink RX2 46 "NeedleGrid$Grid" "turns" "I", Cond.fieldLink RX2 50 "NeedleGrid$Grid" "coilDirection" "I", Cond.fieldLink RX2 53 "NeedleGrid$Grid" "stepsSoFar" "I", Cond.methodLink RX4 48 yX2_measureField, Cond.instanceMethod yX2_measureField, Cond.selects RX2 yX2_measureField yX2_measureField, Cond.code yX2_measureField cX2_measureField 2 none, Cond.methodLink RX2 78 yX2_addNeedleToNeighbours, Cond.instanceMethod yX2_addNeedleToNeighbours]
def wsX4_needle_r3 : List Cond := [Cond.selects RX2 yX2_addNeedleToNeighbours yX2_addNeedleToNeighbours, Cond.code yX2_addNeedleToNeighbours cX2_addNeedleToNeighbours 5 none, Cond.static yX4_across, Cond.code yX4_across cX4_across 1 (some .int), Cond.fieldLink RX4 284 "NeedleGrid" "ACROSS" "[I", Cond.static yX4_down, Cond.code yX4_down cX4_down 1 (some .int), Cond.fieldLink RX4 287 "NeedleGrid" "DOWN" "[I", Cond.methodLink RX2 81 yX2_addToField, Cond.instanceMethod yX2_addToField, Cond.selects RX2 yX2_addToField yX2_addToField, Cond.code yX2_addToField cX2_addToField 4 none]
def wsX4_needle : List Cond := .code yX4_needle cX4_needle 4 (some .int) :: ((wsX4_needle_r1 ++ (wsX4_needle_r2 ++ wsX4_needle_r3)) ++ wsX40 ++ wsX20 ++ wsX30 ++ (vx_atS RX4 279 "java/lang/IndexOutOfBoundsException" ["java/lang/RuntimeException", "java/lang/Exception"]).filter goodWord ++ (vx_atS RX4 131 "java/lang/IllegalArgumentException" ["java/lang/RuntimeException", "java/lang/Exception"]).filter goodWord)
def wsX4_friction_r1 : List Cond := [Cond.fieldLink RX4 22 "NeedleGrid" "history" "LNeedleGrid$History;", Cond.fieldLink RX4 12 "NeedleGrid" "now" "LNeedleGrid$Grid;", Cond.methodLink RX4 33 yX4_requireCell, Cond.static yX4_requireCell, Cond.initialized RX4, Cond.code yX4_requireCell cX4_requireCell 1 none, Cond.classLink RX4 275 "java/lang/IndexOutOfBoundsException", Cond.initialized "java/lang/IndexOutOfBoundsException", Cond.methodLink RX4 51 yX4_requireBetween, Cond.static yX4_requireBetween, Cond.code yX4_requireBetween cX4_requireBetween 3 none, Cond.classLink RX4 127 "java/lang/IllegalArgumentException", Cond.initialized "java/lang/IllegalArgumentException", Cond.methodLink RX4 40 yX3_save, Cond.instanceMethod yX3_save, Cond.selects RX3 yX3_save yX3_save, Cond.initialized RX3, Cond.code yX3_save cX3_save 3 none, Cond.fieldLink RX3 11 "NeedleGrid$History" "ring" "[LNeedleGrid$Grid;", Cond.fieldLink RX3 18 "NeedleGrid$History" "next" "I", Cond.fieldLink RX3 26 "NeedleGrid$History" "amount" "I", Cond.methodLink RX3 22 yX2_copyFrom, Cond.instanceMethod yX2_copyFrom, Cond.selects RX2 yX2_copyFrom yX2_copyFrom]
def wsX4_friction_r2 : List Cond := [Cond.initialized RX2, Cond.code yX2_copyFrom cX2_copyFrom 3 none, Cond.fieldLink RX2 9 "NeedleGrid$Grid" "directions" "[I", Cond.fieldLink RX2 15 "NeedleGrid$Grid" "frictions" "[I", Cond.fieldLink RX2 18 "NeedleGrid$Grid" "held" "[Z", Cond.fieldLink RX2 22 "NeedleGrid$Grid" "barDirections" "[I", Cond.fieldLink RX2 25 "NeedleGrid$Grid" "barStrengths" "[I", Cond.fieldLink RX2 31 "NeedleGrid$Grid" "stillX" "[I", Cond.fieldLink RX2 34 "NeedleGrid$Grid" "stillY" "[I", Cond.fieldLink RX2 37 "NeedleGrid$Grid" "fieldX" "[I", Cond.fieldLink RX2 40 "NeedleGrid$Grid" "fieldY" "[I", Cond.fieldLink RX2 28 "NeedleGrid$Grid" "settings" "[I", Cond.fieldLink RX2 46 "NeedleGrid$Grid" "turns" "I", Cond.fieldLink RX2 50 "NeedleGrid$Grid" "coilDirection" "I", Cond.fieldLink RX2 53 "NeedleGrid$Grid" "stepsSoFar" "I"]
def wsX4_friction : List Cond := .code yX4_friction cX4_friction 4 (some .int) :: ((wsX4_friction_r1 ++ wsX4_friction_r2) ++ wsX40 ++ wsX20 ++ wsX30 ++ (vx_atS RX4 279 "java/lang/IndexOutOfBoundsException" ["java/lang/RuntimeException", "java/lang/Exception"]).filter goodWord ++ (vx_atS RX4 131 "java/lang/IllegalArgumentException" ["java/lang/RuntimeException", "java/lang/Exception"]).filter goodWord)
def wsX4_hold_r1 : List Cond := [Cond.fieldLink RX4 22 "NeedleGrid" "history" "LNeedleGrid$History;", Cond.fieldLink RX4 12 "NeedleGrid" "now" "LNeedleGrid$Grid;", Cond.methodLink RX4 33 yX4_requireCell, Cond.static yX4_requireCell, Cond.initialized RX4, Cond.code yX4_requireCell cX4_requireCell 1 none, Cond.classLink RX4 275 "java/lang/IndexOutOfBoundsException", Cond.initialized "java/lang/IndexOutOfBoundsException", Cond.methodLink RX4 40 yX3_save, Cond.instanceMethod yX3_save, Cond.selects RX3 yX3_save yX3_save, Cond.initialized RX3, Cond.code yX3_save cX3_save 3 none, Cond.fieldLink RX3 11 "NeedleGrid$History" "ring" "[LNeedleGrid$Grid;", Cond.fieldLink RX3 18 "NeedleGrid$History" "next" "I", Cond.fieldLink RX3 26 "NeedleGrid$History" "amount" "I", Cond.methodLink RX3 22 yX2_copyFrom, Cond.instanceMethod yX2_copyFrom, Cond.selects RX2 yX2_copyFrom yX2_copyFrom, Cond.initialized RX2, Cond.code yX2_copyFrom cX2_copyFrom 3 none, Cond.fieldLink RX2 9 "NeedleGrid$Grid" "directions" "[I", Cond.fieldLink RX2 15 "NeedleGrid$Grid" "frictions" "[I", Cond.fieldLink RX2 18 "NeedleGrid$Grid" "held" "[Z"]
def wsX4_hold_r2 : List Cond := [Cond.fieldLink RX2 22 "NeedleGrid$Grid" "barDirections" "[I", Cond.fieldLink RX2 25 "NeedleGrid$Grid" "barStrengths" "[I", Cond.fieldLink RX2 31 "NeedleGrid$Grid" "stillX" "[I", Cond.fieldLink RX2 34 "NeedleGrid$Grid" "stillY" "[I", Cond.fieldLink RX2 37 "NeedleGrid$Grid" "fieldX" "[I", Cond.fieldLink RX2 40 "NeedleGrid$Grid" "fieldY" "[I", Cond.fieldLink RX2 28 "NeedleGrid$Grid" "settings" "[I", Cond.fieldLink RX2 46 "NeedleGrid$Grid" "turns" "I", Cond.fieldLink RX2 50 "NeedleGrid$Grid" "coilDirection" "I", Cond.fieldLink RX2 53 "NeedleGrid$Grid" "stepsSoFar" "I"]
def wsX4_hold : List Cond := .code yX4_hold cX4_hold 4 (some .int) :: ((wsX4_hold_r1 ++ wsX4_hold_r2) ++ wsX40 ++ wsX20 ++ wsX30 ++ (vx_atS RX4 279 "java/lang/IndexOutOfBoundsException" ["java/lang/RuntimeException", "java/lang/Exception"]).filter goodWord)
def wsX4_exchange : List Cond := .code yX4_exchange cX4_exchange 4 none :: ([])
def wsX4_swap_r1 : List Cond := [Cond.fieldLink RX4 22 "NeedleGrid" "history" "LNeedleGrid$History;", Cond.fieldLink RX4 12 "NeedleGrid" "now" "LNeedleGrid$Grid;", Cond.methodLink RX4 33 yX4_requireCell, Cond.static yX4_requireCell, Cond.initialized RX4, Cond.code yX4_requireCell cX4_requireCell 1 none, Cond.classLink RX4 275 "java/lang/IndexOutOfBoundsException", Cond.initialized "java/lang/IndexOutOfBoundsException", Cond.methodLink RX4 40 yX3_save, Cond.instanceMethod yX3_save, Cond.selects RX3 yX3_save yX3_save, Cond.initialized RX3, Cond.code yX3_save cX3_save 3 none, Cond.fieldLink RX3 11 "NeedleGrid$History" "ring" "[LNeedleGrid$Grid;", Cond.fieldLink RX3 18 "NeedleGrid$History" "next" "I", Cond.fieldLink RX3 26 "NeedleGrid$History" "amount" "I", Cond.methodLink RX3 22 yX2_copyFrom, Cond.instanceMethod yX2_copyFrom, Cond.selects RX2 yX2_copyFrom yX2_copyFrom, Cond.initialized RX2, Cond.code yX2_copyFrom cX2_copyFrom 3 none, Cond.fieldLink RX2 9 "NeedleGrid$Grid" "directions" "[I", Cond.fieldLink RX2 15 "NeedleGrid$Grid" "frictions" "[I", Cond.fieldLink RX2 18 "NeedleGrid$Grid" "held" "[Z"]
def wsX4_swap_r2 : List Cond := [Cond.fieldLink RX2 22 "NeedleGrid$Grid" "barDirections" "[I", Cond.fieldLink RX2 25 "NeedleGrid$Grid" "barStrengths" "[I", Cond.fieldLink RX2 31 "NeedleGrid$Grid" "stillX" "[I", Cond.fieldLink RX2 34 "NeedleGrid$Grid" "stillY" "[I", Cond.fieldLink RX2 37 "NeedleGrid$Grid" "fieldX" "[I", Cond.fieldLink RX2 40 "NeedleGrid$Grid" "fieldY" "[I", Cond.fieldLink RX2 28 "NeedleGrid$Grid" "settings" "[I", Cond.fieldLink RX2 46 "NeedleGrid$Grid" "turns" "I", Cond.fieldLink RX2 50 "NeedleGrid$Grid" "coilDirection" "I", Cond.fieldLink RX2 53 "NeedleGrid$Grid" "stepsSoFar" "I", Cond.methodLink RX4 62 yX4_exchange, Cond.static yX4_exchange, Cond.code yX4_exchange cX4_exchange 4 none, Cond.methodLink RX4 48 yX2_measureField, Cond.instanceMethod yX2_measureField, Cond.selects RX2 yX2_measureField yX2_measureField, Cond.code yX2_measureField cX2_measureField 2 none, Cond.methodLink RX2 78 yX2_addNeedleToNeighbours, Cond.instanceMethod yX2_addNeedleToNeighbours, Cond.selects RX2 yX2_addNeedleToNeighbours yX2_addNeedleToNeighbours, Cond.code yX2_addNeedleToNeighbours cX2_addNeedleToNeighbours 5 none, Cond.static yX4_across, Cond.code yX4_across cX4_across 1 (some .int), Cond.fieldLink RX4 284 "NeedleGrid" "ACROSS" "[I"]
def wsX4_swap_r3 : List Cond := [Cond.static yX4_down, Cond.code yX4_down cX4_down 1 (some .int), Cond.fieldLink RX4 287 "NeedleGrid" "DOWN" "[I", Cond.methodLink RX2 81 yX2_addToField, Cond.instanceMethod yX2_addToField, Cond.selects RX2 yX2_addToField yX2_addToField, Cond.code yX2_addToField cX2_addToField 4 none]
def wsX4_swap : List Cond := .code yX4_swap cX4_swap 3 (some .int) :: ((wsX4_swap_r1 ++ (wsX4_swap_r2 ++ wsX4_swap_r3)) ++ wsX40 ++ wsX20 ++ wsX30 ++ (vx_atS RX4 279 "java/lang/IndexOutOfBoundsException" ["java/lang/RuntimeException", "java/lang/Exception"]).filter goodWord)
def wsX4_bar_r1 : List Cond := [Cond.classLink RX4 74 "java/lang/IllegalStateException", Cond.initialized "java/lang/IllegalStateException", Cond.fieldLink RX4 12 "NeedleGrid" "now" "LNeedleGrid$Grid;", Cond.fieldLink RX4 22 "NeedleGrid" "history" "LNeedleGrid$History;", Cond.methodLink RX4 33 yX4_requireCell, Cond.static yX4_requireCell, Cond.initialized RX4, Cond.code yX4_requireCell cX4_requireCell 1 none, Cond.classLink RX4 275 "java/lang/IndexOutOfBoundsException", Cond.initialized "java/lang/IndexOutOfBoundsException", Cond.methodLink RX4 37 yX4_requireDirection, Cond.static yX4_requireDirection, Cond.code yX4_requireDirection cX4_requireDirection 1 none, Cond.methodLink RX4 51 yX4_requireBetween, Cond.static yX4_requireBetween, Cond.code yX4_requireBetween cX4_requireBetween 3 none, Cond.classLink RX4 127 "java/lang/IllegalArgumentException", Cond.initialized "java/lang/IllegalArgumentException", Cond.methodLink RX4 66 yX2_hasBar, Cond.instanceMethod yX2_hasBar, Cond.selects RX2 yX2_hasBar yX2_hasBar, Cond.initialized RX2, Cond.code yX2_hasBar cX2_hasBar 2 (some .boolean), Cond.fieldLink RX2 25 "NeedleGrid$Grid" "barStrengths" "[I"]
def wsX4_bar_r2 : List Cond := [Cond.methodLink RX4 70 yX2_barCount, Cond.instanceMethod yX2_barCount, Cond.selects RX2 yX2_barCount yX2_barCount, Cond.code yX2_barCount cX2_barCount 3 (some .int), Cond.methodLink RX2 63 yX2_hasBar, Cond.methodLink RX4 40 yX3_save, Cond.instanceMethod yX3_save, Cond.selects RX3 yX3_save yX3_save, Cond.initialized RX3, Cond.code yX3_save cX3_save 3 none, Cond.fieldLink RX3 11 "NeedleGrid$History" "ring" "[LNeedleGrid$Grid;", Cond.fieldLink RX3 18 "NeedleGrid$History" "next" "I", Cond.fieldLink RX3 26 "NeedleGrid$History" "amount" "I", Cond.methodLink RX3 22 yX2_copyFrom, Cond.instanceMethod yX2_copyFrom, Cond.selects RX2 yX2_copyFrom yX2_copyFrom, Cond.code yX2_copyFrom cX2_copyFrom 3 none, Cond.fieldLink RX2 9 "NeedleGrid$Grid" "directions" "[I", Cond.fieldLink RX2 15 "NeedleGrid$Grid" "frictions" "[I", Cond.fieldLink RX2 18 "NeedleGrid$Grid" "held" "[Z", Cond.fieldLink RX2 22 "NeedleGrid$Grid" "barDirections" "[I", Cond.fieldLink RX2 31 "NeedleGrid$Grid" "stillX" "[I", Cond.fieldLink RX2 34 "NeedleGrid$Grid" "stillY" "[I", Cond.fieldLink RX2 37 "NeedleGrid$Grid" "fieldX" "[I"]
def wsX4_bar_r3 : List Cond := [Cond.fieldLink RX2 40 "NeedleGrid$Grid" "fieldY" "[I", Cond.fieldLink RX2 28 "NeedleGrid$Grid" "settings" "[I", Cond.fieldLink RX2 46 "NeedleGrid$Grid" "turns" "I", Cond.fieldLink RX2 50 "NeedleGrid$Grid" "coilDirection" "I", Cond.fieldLink RX2 53 "NeedleGrid$Grid" "stepsSoFar" "I", Cond.methodLink RX4 81 yX2_layBar, Cond.instanceMethod yX2_layBar, Cond.selects RX2 yX2_layBar yX2_layBar, Cond.code yX2_layBar cX2_layBar 4 none, Cond.methodLink RX4 84 yX2_measureAll, Cond.instanceMethod yX2_measureAll, Cond.selects RX2 yX2_measureAll yX2_measureAll, Cond.code yX2_measureAll cX2_measureAll 5 none, Cond.static yX4_across, Cond.code yX4_across cX4_across 1 (some .int), Cond.fieldLink RX4 284 "NeedleGrid" "ACROSS" "[I", Cond.static yX4_down, Cond.code yX4_down cX4_down 1 (some .int), Cond.fieldLink RX4 287 "NeedleGrid" "DOWN" "[I", Cond.methodLink RX2 67 yX2_addBarToStill, Cond.instanceMethod yX2_addBarToStill, Cond.selects RX2 yX2_addBarToStill yX2_addBarToStill, Cond.code yX2_addBarToStill cX2_addBarToStill 6 none, Cond.static yX4_pull]
def wsX4_bar_r4 : List Cond := [Cond.code yX4_pull cX4_pull 12 (some .int), Cond.methodLink RX4 290 yX4_across, Cond.methodLink RX4 293 yX4_down, Cond.methodLink RX2 71 yX2_measureField, Cond.instanceMethod yX2_measureField, Cond.selects RX2 yX2_measureField yX2_measureField, Cond.code yX2_measureField cX2_measureField 2 none, Cond.methodLink RX2 78 yX2_addNeedleToNeighbours, Cond.instanceMethod yX2_addNeedleToNeighbours, Cond.selects RX2 yX2_addNeedleToNeighbours yX2_addNeedleToNeighbours, Cond.code yX2_addNeedleToNeighbours cX2_addNeedleToNeighbours 5 none, Cond.methodLink RX2 81 yX2_addToField, Cond.instanceMethod yX2_addToField, Cond.selects RX2 yX2_addToField yX2_addToField, Cond.code yX2_addToField cX2_addToField 4 none]
def wsX4_bar : List Cond := .code yX4_bar cX4_bar 4 (some .int) :: ((wsX4_bar_r1 ++ (wsX4_bar_r2 ++ (wsX4_bar_r3 ++ wsX4_bar_r4))) ++ wsX40 ++ wsX20 ++ wsX30 ++ (vx_atS RX4 78 "java/lang/IllegalStateException" ["java/lang/RuntimeException", "java/lang/Exception"]).filter goodWord ++ (vx_atS RX4 279 "java/lang/IndexOutOfBoundsException" ["java/lang/RuntimeException", "java/lang/Exception"]).filter goodWord ++ (vx_atS RX4 131 "java/lang/IllegalArgumentException" ["java/lang/RuntimeException", "java/lang/Exception"]).filter goodWord)
def wsX4_unbar_r1 : List Cond := [Cond.classLink RX4 74 "java/lang/IllegalStateException", Cond.initialized "java/lang/IllegalStateException", Cond.fieldLink RX4 12 "NeedleGrid" "now" "LNeedleGrid$Grid;", Cond.fieldLink RX4 22 "NeedleGrid" "history" "LNeedleGrid$History;", Cond.methodLink RX4 33 yX4_requireCell, Cond.static yX4_requireCell, Cond.initialized RX4, Cond.code yX4_requireCell cX4_requireCell 1 none, Cond.classLink RX4 275 "java/lang/IndexOutOfBoundsException", Cond.initialized "java/lang/IndexOutOfBoundsException", Cond.methodLink RX4 66 yX2_hasBar, Cond.instanceMethod yX2_hasBar, Cond.selects RX2 yX2_hasBar yX2_hasBar, Cond.initialized RX2, Cond.code yX2_hasBar cX2_hasBar 2 (some .boolean), Cond.fieldLink RX2 25 "NeedleGrid$Grid" "barStrengths" "[I", Cond.methodLink RX4 40 yX3_save, Cond.instanceMethod yX3_save, Cond.selects RX3 yX3_save yX3_save, Cond.initialized RX3, Cond.code yX3_save cX3_save 3 none, Cond.fieldLink RX3 11 "NeedleGrid$History" "ring" "[LNeedleGrid$Grid;", Cond.fieldLink RX3 18 "NeedleGrid$History" "next" "I", Cond.fieldLink RX3 26 "NeedleGrid$History" "amount" "I"]
def wsX4_unbar_r2 : List Cond := [Cond.methodLink RX3 22 yX2_copyFrom, Cond.instanceMethod yX2_copyFrom, Cond.selects RX2 yX2_copyFrom yX2_copyFrom, Cond.code yX2_copyFrom cX2_copyFrom 3 none, Cond.fieldLink RX2 9 "NeedleGrid$Grid" "directions" "[I", Cond.fieldLink RX2 15 "NeedleGrid$Grid" "frictions" "[I", Cond.fieldLink RX2 18 "NeedleGrid$Grid" "held" "[Z", Cond.fieldLink RX2 22 "NeedleGrid$Grid" "barDirections" "[I", Cond.fieldLink RX2 31 "NeedleGrid$Grid" "stillX" "[I", Cond.fieldLink RX2 34 "NeedleGrid$Grid" "stillY" "[I", Cond.fieldLink RX2 37 "NeedleGrid$Grid" "fieldX" "[I", Cond.fieldLink RX2 40 "NeedleGrid$Grid" "fieldY" "[I", Cond.fieldLink RX2 28 "NeedleGrid$Grid" "settings" "[I", Cond.fieldLink RX2 46 "NeedleGrid$Grid" "turns" "I", Cond.fieldLink RX2 50 "NeedleGrid$Grid" "coilDirection" "I", Cond.fieldLink RX2 53 "NeedleGrid$Grid" "stepsSoFar" "I", Cond.methodLink RX4 89 yX2_takeBar, Cond.instanceMethod yX2_takeBar, Cond.selects RX2 yX2_takeBar yX2_takeBar, Cond.code yX2_takeBar cX2_takeBar 2 none, Cond.methodLink RX2 102 yX2_layBar, Cond.instanceMethod yX2_layBar, Cond.selects RX2 yX2_layBar yX2_layBar, Cond.code yX2_layBar cX2_layBar 4 none]
def wsX4_unbar_r3 : List Cond := [Cond.methodLink RX4 84 yX2_measureAll, Cond.instanceMethod yX2_measureAll, Cond.selects RX2 yX2_measureAll yX2_measureAll, Cond.code yX2_measureAll cX2_measureAll 5 none, Cond.static yX4_across, Cond.code yX4_across cX4_across 1 (some .int), Cond.fieldLink RX4 284 "NeedleGrid" "ACROSS" "[I", Cond.static yX4_down, Cond.code yX4_down cX4_down 1 (some .int), Cond.fieldLink RX4 287 "NeedleGrid" "DOWN" "[I", Cond.methodLink RX2 63 yX2_hasBar, Cond.methodLink RX2 67 yX2_addBarToStill, Cond.instanceMethod yX2_addBarToStill, Cond.selects RX2 yX2_addBarToStill yX2_addBarToStill, Cond.code yX2_addBarToStill cX2_addBarToStill 6 none, Cond.static yX4_pull, Cond.code yX4_pull cX4_pull 12 (some .int), Cond.methodLink RX4 290 yX4_across, Cond.methodLink RX4 293 yX4_down, Cond.methodLink RX2 71 yX2_measureField, Cond.instanceMethod yX2_measureField, Cond.selects RX2 yX2_measureField yX2_measureField, Cond.code yX2_measureField cX2_measureField 2 none, Cond.methodLink RX2 78 yX2_addNeedleToNeighbours]
def wsX4_unbar_r4 : List Cond := [Cond.instanceMethod yX2_addNeedleToNeighbours, Cond.selects RX2 yX2_addNeedleToNeighbours yX2_addNeedleToNeighbours, Cond.code yX2_addNeedleToNeighbours cX2_addNeedleToNeighbours 5 none, Cond.methodLink RX2 81 yX2_addToField, Cond.instanceMethod yX2_addToField, Cond.selects RX2 yX2_addToField yX2_addToField, Cond.code yX2_addToField cX2_addToField 4 none, Cond.methodLink RX4 70 yX2_barCount, Cond.instanceMethod yX2_barCount, Cond.selects RX2 yX2_barCount yX2_barCount, Cond.code yX2_barCount cX2_barCount 3 (some .int)]
def wsX4_unbar : List Cond := .code yX4_unbar cX4_unbar 2 (some .int) :: ((wsX4_unbar_r1 ++ (wsX4_unbar_r2 ++ (wsX4_unbar_r3 ++ wsX4_unbar_r4))) ++ wsX40 ++ wsX20 ++ wsX30 ++ (vx_atS RX4 78 "java/lang/IllegalStateException" ["java/lang/RuntimeException", "java/lang/Exception"]).filter goodWord ++ (vx_atS RX4 279 "java/lang/IndexOutOfBoundsException" ["java/lang/RuntimeException", "java/lang/Exception"]).filter goodWord)
def wsX4_coil_r1 : List Cond := [Cond.fieldLink RX4 22 "NeedleGrid" "history" "LNeedleGrid$History;", Cond.fieldLink RX4 12 "NeedleGrid" "now" "LNeedleGrid$Grid;", Cond.methodLink RX4 51 yX4_requireBetween, Cond.static yX4_requireBetween, Cond.initialized RX4, Cond.code yX4_requireBetween cX4_requireBetween 3 none, Cond.classLink RX4 127 "java/lang/IllegalArgumentException", Cond.initialized "java/lang/IllegalArgumentException", Cond.methodLink RX4 37 yX4_requireDirection, Cond.static yX4_requireDirection, Cond.code yX4_requireDirection cX4_requireDirection 1 none, Cond.methodLink RX4 40 yX3_save, Cond.instanceMethod yX3_save, Cond.selects RX3 yX3_save yX3_save, Cond.initialized RX3, Cond.code yX3_save cX3_save 3 none, Cond.fieldLink RX3 11 "NeedleGrid$History" "ring" "[LNeedleGrid$Grid;", Cond.fieldLink RX3 18 "NeedleGrid$History" "next" "I", Cond.fieldLink RX3 26 "NeedleGrid$History" "amount" "I", Cond.methodLink RX3 22 yX2_copyFrom, Cond.instanceMethod yX2_copyFrom, Cond.selects RX2 yX2_copyFrom yX2_copyFrom, Cond.initialized RX2, Cond.code yX2_copyFrom cX2_copyFrom 3 none]
def wsX4_coil_r2 : List Cond := [Cond.fieldLink RX2 9 "NeedleGrid$Grid" "directions" "[I", Cond.fieldLink RX2 15 "NeedleGrid$Grid" "frictions" "[I", Cond.fieldLink RX2 18 "NeedleGrid$Grid" "held" "[Z", Cond.fieldLink RX2 22 "NeedleGrid$Grid" "barDirections" "[I", Cond.fieldLink RX2 25 "NeedleGrid$Grid" "barStrengths" "[I", Cond.fieldLink RX2 31 "NeedleGrid$Grid" "stillX" "[I", Cond.fieldLink RX2 34 "NeedleGrid$Grid" "stillY" "[I", Cond.fieldLink RX2 37 "NeedleGrid$Grid" "fieldX" "[I", Cond.fieldLink RX2 40 "NeedleGrid$Grid" "fieldY" "[I", Cond.fieldLink RX2 28 "NeedleGrid$Grid" "settings" "[I", Cond.fieldLink RX2 46 "NeedleGrid$Grid" "turns" "I", Cond.fieldLink RX2 50 "NeedleGrid$Grid" "coilDirection" "I", Cond.fieldLink RX2 53 "NeedleGrid$Grid" "stepsSoFar" "I", Cond.methodLink RX4 84 yX2_measureAll, Cond.instanceMethod yX2_measureAll, Cond.selects RX2 yX2_measureAll yX2_measureAll, Cond.code yX2_measureAll cX2_measureAll 5 none, Cond.static yX4_across, Cond.code yX4_across cX4_across 1 (some .int), Cond.fieldLink RX4 284 "NeedleGrid" "ACROSS" "[I", Cond.static yX4_down, Cond.code yX4_down cX4_down 1 (some .int), Cond.fieldLink RX4 287 "NeedleGrid" "DOWN" "[I", Cond.methodLink RX2 63 yX2_hasBar]
def wsX4_coil_r3 : List Cond := [Cond.instanceMethod yX2_hasBar, Cond.selects RX2 yX2_hasBar yX2_hasBar, Cond.code yX2_hasBar cX2_hasBar 2 (some .boolean), Cond.methodLink RX2 67 yX2_addBarToStill, Cond.instanceMethod yX2_addBarToStill, Cond.selects RX2 yX2_addBarToStill yX2_addBarToStill, Cond.code yX2_addBarToStill cX2_addBarToStill 6 none, Cond.static yX4_pull, Cond.code yX4_pull cX4_pull 12 (some .int), Cond.methodLink RX4 290 yX4_across, Cond.methodLink RX4 293 yX4_down, Cond.methodLink RX2 71 yX2_measureField, Cond.instanceMethod yX2_measureField, Cond.selects RX2 yX2_measureField yX2_measureField, Cond.code yX2_measureField cX2_measureField 2 none, Cond.methodLink RX2 78 yX2_addNeedleToNeighbours, Cond.instanceMethod yX2_addNeedleToNeighbours, Cond.selects RX2 yX2_addNeedleToNeighbours yX2_addNeedleToNeighbours, Cond.code yX2_addNeedleToNeighbours cX2_addNeedleToNeighbours 5 none, Cond.methodLink RX2 81 yX2_addToField, Cond.instanceMethod yX2_addToField, Cond.selects RX2 yX2_addToField yX2_addToField, Cond.code yX2_addToField cX2_addToField 4 none]
def wsX4_coil : List Cond := .code yX4_coil cX4_coil 4 (some .int) :: ((wsX4_coil_r1 ++ (wsX4_coil_r2 ++ wsX4_coil_r3)) ++ wsX40 ++ wsX20 ++ wsX30 ++ (vx_atS RX4 131 "java/lang/IllegalArgumentException" ["java/lang/RuntimeException", "java/lang/Exception"]).filter goodWord)
def wsX4_requireSetting : List Cond := .code yX4_requireSetting cX4_requireSetting 1 none :: ([.classLink RX4 275 "java/lang/IndexOutOfBoundsException", .initialized "java/lang/IndexOutOfBoundsException"] ++ (vx_atS RX4 279 "java/lang/IndexOutOfBoundsException" ["java/lang/RuntimeException", "java/lang/Exception"]).filter goodWord)
def wsX4_set_r1 : List Cond := [Cond.fieldLink RX4 102 "NeedleGrid" "MOST_OF_SETTING" "[I", Cond.fieldLink RX4 22 "NeedleGrid" "history" "LNeedleGrid$History;", Cond.fieldLink RX4 12 "NeedleGrid" "now" "LNeedleGrid$Grid;", Cond.methodLink RX4 99 yX4_requireSetting, Cond.static yX4_requireSetting, Cond.initialized RX4, Cond.code yX4_requireSetting cX4_requireSetting 1 none, Cond.classLink RX4 275 "java/lang/IndexOutOfBoundsException", Cond.initialized "java/lang/IndexOutOfBoundsException", Cond.methodLink RX4 51 yX4_requireBetween, Cond.static yX4_requireBetween, Cond.code yX4_requireBetween cX4_requireBetween 3 none, Cond.classLink RX4 127 "java/lang/IllegalArgumentException", Cond.initialized "java/lang/IllegalArgumentException", Cond.methodLink RX4 40 yX3_save, Cond.instanceMethod yX3_save, Cond.selects RX3 yX3_save yX3_save, Cond.initialized RX3, Cond.code yX3_save cX3_save 3 none, Cond.fieldLink RX3 11 "NeedleGrid$History" "ring" "[LNeedleGrid$Grid;", Cond.fieldLink RX3 18 "NeedleGrid$History" "next" "I", Cond.fieldLink RX3 26 "NeedleGrid$History" "amount" "I", Cond.methodLink RX3 22 yX2_copyFrom, Cond.instanceMethod yX2_copyFrom]
def wsX4_set_r2 : List Cond := [Cond.selects RX2 yX2_copyFrom yX2_copyFrom, Cond.initialized RX2, Cond.code yX2_copyFrom cX2_copyFrom 3 none, Cond.fieldLink RX2 9 "NeedleGrid$Grid" "directions" "[I", Cond.fieldLink RX2 15 "NeedleGrid$Grid" "frictions" "[I", Cond.fieldLink RX2 18 "NeedleGrid$Grid" "held" "[Z", Cond.fieldLink RX2 22 "NeedleGrid$Grid" "barDirections" "[I", Cond.fieldLink RX2 25 "NeedleGrid$Grid" "barStrengths" "[I", Cond.fieldLink RX2 31 "NeedleGrid$Grid" "stillX" "[I", Cond.fieldLink RX2 34 "NeedleGrid$Grid" "stillY" "[I", Cond.fieldLink RX2 37 "NeedleGrid$Grid" "fieldX" "[I", Cond.fieldLink RX2 40 "NeedleGrid$Grid" "fieldY" "[I", Cond.fieldLink RX2 28 "NeedleGrid$Grid" "settings" "[I", Cond.fieldLink RX2 46 "NeedleGrid$Grid" "turns" "I", Cond.fieldLink RX2 50 "NeedleGrid$Grid" "coilDirection" "I", Cond.fieldLink RX2 53 "NeedleGrid$Grid" "stepsSoFar" "I", Cond.methodLink RX4 84 yX2_measureAll, Cond.instanceMethod yX2_measureAll, Cond.selects RX2 yX2_measureAll yX2_measureAll, Cond.code yX2_measureAll cX2_measureAll 5 none, Cond.static yX4_across, Cond.code yX4_across cX4_across 1 (some .int), Cond.fieldLink RX4 284 "NeedleGrid" "ACROSS" "[I", Cond.static yX4_down]
def wsX4_set_r3 : List Cond := [Cond.code yX4_down cX4_down 1 (some .int), Cond.fieldLink RX4 287 "NeedleGrid" "DOWN" "[I", Cond.methodLink RX2 63 yX2_hasBar, Cond.instanceMethod yX2_hasBar, Cond.selects RX2 yX2_hasBar yX2_hasBar, Cond.code yX2_hasBar cX2_hasBar 2 (some .boolean), Cond.methodLink RX2 67 yX2_addBarToStill, Cond.instanceMethod yX2_addBarToStill, Cond.selects RX2 yX2_addBarToStill yX2_addBarToStill, Cond.code yX2_addBarToStill cX2_addBarToStill 6 none, Cond.static yX4_pull, Cond.code yX4_pull cX4_pull 12 (some .int), Cond.methodLink RX4 290 yX4_across, Cond.methodLink RX4 293 yX4_down, Cond.methodLink RX2 71 yX2_measureField, Cond.instanceMethod yX2_measureField, Cond.selects RX2 yX2_measureField yX2_measureField, Cond.code yX2_measureField cX2_measureField 2 none, Cond.methodLink RX2 78 yX2_addNeedleToNeighbours, Cond.instanceMethod yX2_addNeedleToNeighbours, Cond.selects RX2 yX2_addNeedleToNeighbours yX2_addNeedleToNeighbours, Cond.code yX2_addNeedleToNeighbours cX2_addNeedleToNeighbours 5 none, Cond.methodLink RX2 81 yX2_addToField, Cond.instanceMethod yX2_addToField]
def wsX4_set_r4 : List Cond := [Cond.selects RX2 yX2_addToField yX2_addToField, Cond.code yX2_addToField cX2_addToField 4 none]
def wsX4_set : List Cond := .code yX4_set cX4_set 4 (some .int) :: ((wsX4_set_r1 ++ (wsX4_set_r2 ++ (wsX4_set_r3 ++ wsX4_set_r4))) ++ wsX40 ++ wsX20 ++ wsX30 ++ (vx_atS RX4 279 "java/lang/IndexOutOfBoundsException" ["java/lang/RuntimeException", "java/lang/Exception"]).filter goodWord ++ (vx_atS RX4 131 "java/lang/IllegalArgumentException" ["java/lang/RuntimeException", "java/lang/Exception"]).filter goodWord)
def wsX4_step_r1 : List Cond := [Cond.fieldLink RX4 22 "NeedleGrid" "history" "LNeedleGrid$History;", Cond.fieldLink RX4 12 "NeedleGrid" "now" "LNeedleGrid$Grid;", Cond.methodLink RX4 51 yX4_requireBetween, Cond.static yX4_requireBetween, Cond.initialized RX4, Cond.code yX4_requireBetween cX4_requireBetween 3 none, Cond.classLink RX4 127 "java/lang/IllegalArgumentException", Cond.initialized "java/lang/IllegalArgumentException", Cond.methodLink RX4 40 yX3_save, Cond.instanceMethod yX3_save, Cond.selects RX3 yX3_save yX3_save, Cond.initialized RX3, Cond.code yX3_save cX3_save 3 none, Cond.fieldLink RX3 11 "NeedleGrid$History" "ring" "[LNeedleGrid$Grid;", Cond.fieldLink RX3 18 "NeedleGrid$History" "next" "I", Cond.fieldLink RX3 26 "NeedleGrid$History" "amount" "I", Cond.methodLink RX3 22 yX2_copyFrom, Cond.instanceMethod yX2_copyFrom, Cond.selects RX2 yX2_copyFrom yX2_copyFrom, Cond.initialized RX2, Cond.code yX2_copyFrom cX2_copyFrom 3 none, Cond.fieldLink RX2 9 "NeedleGrid$Grid" "directions" "[I", Cond.fieldLink RX2 15 "NeedleGrid$Grid" "frictions" "[I", Cond.fieldLink RX2 18 "NeedleGrid$Grid" "held" "[Z"]
def wsX4_step_r2 : List Cond := [Cond.fieldLink RX2 22 "NeedleGrid$Grid" "barDirections" "[I", Cond.fieldLink RX2 25 "NeedleGrid$Grid" "barStrengths" "[I", Cond.fieldLink RX2 31 "NeedleGrid$Grid" "stillX" "[I", Cond.fieldLink RX2 34 "NeedleGrid$Grid" "stillY" "[I", Cond.fieldLink RX2 37 "NeedleGrid$Grid" "fieldX" "[I", Cond.fieldLink RX2 40 "NeedleGrid$Grid" "fieldY" "[I", Cond.fieldLink RX2 28 "NeedleGrid$Grid" "settings" "[I", Cond.fieldLink RX2 46 "NeedleGrid$Grid" "turns" "I", Cond.fieldLink RX2 50 "NeedleGrid$Grid" "coilDirection" "I", Cond.fieldLink RX2 53 "NeedleGrid$Grid" "stepsSoFar" "I", Cond.methodLink RX4 108 yX2_letGoBy, Cond.instanceMethod yX2_letGoBy, Cond.selects RX2 yX2_letGoBy yX2_letGoBy, Cond.code yX2_letGoBy cX2_letGoBy 4 (some .int), Cond.methodLink RX2 98 yX2_turnAll, Cond.instanceMethod yX2_turnAll, Cond.selects RX2 yX2_turnAll yX2_turnAll, Cond.code yX2_turnAll cX2_turnAll 4 (some .int), Cond.methodLink RX2 95 yX2_directionAfterStep, Cond.instanceMethod yX2_directionAfterStep, Cond.selects RX2 yX2_directionAfterStep yX2_directionAfterStep, Cond.code yX2_directionAfterStep cX2_directionAfterStep 8 (some .int), Cond.static yX4_aimOf, Cond.code yX4_aimOf cX4_aimOf 4 (some .int)]
def wsX4_step_r3 : List Cond := [Cond.static yX4_ahead, Cond.code yX4_ahead cX4_ahead 2 (some .int), Cond.methodLink RX2 71 yX2_measureField, Cond.instanceMethod yX2_measureField, Cond.selects RX2 yX2_measureField yX2_measureField, Cond.code yX2_measureField cX2_measureField 2 none, Cond.methodLink RX2 78 yX2_addNeedleToNeighbours, Cond.instanceMethod yX2_addNeedleToNeighbours, Cond.selects RX2 yX2_addNeedleToNeighbours yX2_addNeedleToNeighbours, Cond.code yX2_addNeedleToNeighbours cX2_addNeedleToNeighbours 5 none, Cond.static yX4_across, Cond.code yX4_across cX4_across 1 (some .int), Cond.fieldLink RX4 284 "NeedleGrid" "ACROSS" "[I", Cond.static yX4_down, Cond.code yX4_down cX4_down 1 (some .int), Cond.fieldLink RX4 287 "NeedleGrid" "DOWN" "[I", Cond.methodLink RX2 81 yX2_addToField, Cond.instanceMethod yX2_addToField, Cond.selects RX2 yX2_addToField yX2_addToField, Cond.code yX2_addToField cX2_addToField 4 none]
def wsX4_step : List Cond := .code yX4_step cX4_step 2 (some .int) :: ((wsX4_step_r1 ++ (wsX4_step_r2 ++ wsX4_step_r3)) ++ wsX40 ++ wsX30 ++ wsX20 ++ (vx_atS RX4 131 "java/lang/IllegalArgumentException" ["java/lang/RuntimeException", "java/lang/Exception"]).filter goodWord)
def wsX4_append : List Cond := .code yX4_append cX4_append 2 (some .int) :: ([.classLink RX4 74 "java/lang/IllegalStateException", .initialized "java/lang/IllegalStateException", .fieldLink RX4 29 "NeedleGrid" "text" "LNeedleGrid$BarText;", .methodLink RX4 51 yX4_requireBetween, .static yX4_requireBetween, .initialized RX4, .code yX4_requireBetween cX4_requireBetween 3 none, .classLink RX4 127 "java/lang/IllegalArgumentException", .initialized "java/lang/IllegalArgumentException", .methodLink RX4 117 yX1_add, .instanceMethod yX1_add, .selects RX1 yX1_add yX1_add, .initialized RX1, .code yX1_add cX1_add 2 none, .fieldLink RX1 22 "NeedleGrid$BarText" "length" "I", .fieldLink RX1 9 "NeedleGrid$BarText" "codes" "[I"] ++ wsX40 ++ wsX10 ++ (vx_atS RX4 78 "java/lang/IllegalStateException" ["java/lang/RuntimeException", "java/lang/Exception"]).filter goodWord ++ (vx_atS RX4 131 "java/lang/IllegalArgumentException" ["java/lang/RuntimeException", "java/lang/Exception"]).filter goodWord)
def wsX4_clearBuffer : List Cond := .code yX4_clearBuffer cX4_clearBuffer 2 (some .int) :: ([.fieldLink RX4 29 "NeedleGrid" "text" "LNeedleGrid$BarText;"] ++ wsX40 ++ wsX10)
def wsX4_firstError_r1 : List Cond := [Cond.fieldLink RX4 29 "NeedleGrid" "text" "LNeedleGrid$BarText;", Cond.methodLink RX4 120 yX1_goodLength, Cond.instanceMethod yX1_goodLength, Cond.selects RX1 yX1_goodLength yX1_goodLength, Cond.initialized RX1, Cond.code yX1_goodLength cX1_goodLength 2 (some .int), Cond.fieldLink RX1 18 "NeedleGrid$BarText" "reader" "LNeedleGrid$BarReader;", Cond.fieldLink RX1 22 "NeedleGrid$BarText" "length" "I", Cond.fieldLink RX1 9 "NeedleGrid$BarText" "codes" "[I", Cond.methodLink RX1 26 yX0_begin, Cond.instanceMethod yX0_begin, Cond.selects RX0 yX0_begin yX0_begin, Cond.initialized RX0, Cond.code yX0_begin cX0_begin 1 none, Cond.fieldLink RX0 11 "NeedleGrid$BarReader" "due" "I", Cond.fieldLink RX0 15 "NeedleGrid$BarReader" "parts" "I", Cond.methodLink RX1 29 yX0_take, Cond.instanceMethod yX0_take, Cond.selects RX0 yX0_take yX0_take, Cond.code yX0_take cX0_take 3 (some .boolean), Cond.fieldLink RX0 18 "NeedleGrid$BarReader" "column" "I", Cond.fieldLink RX0 25 "NeedleGrid$BarReader" "row" "I", Cond.fieldLink RX0 28 "NeedleGrid$BarReader" "direction" "I", Cond.fieldLink RX0 31 "NeedleGrid$BarReader" "strength" "I"]
def wsX4_firstError_r2 : List Cond := [Cond.methodLink RX0 21 yX0_goOn, Cond.instanceMethod yX0_goOn, Cond.selects RX0 yX0_goOn yX0_goOn, Cond.code yX0_goOn cX0_goOn 3 (some .boolean), Cond.methodLink RX0 34 yX0_takeBehindStrength, Cond.instanceMethod yX0_takeBehindStrength, Cond.selects RX0 yX0_takeBehindStrength yX0_takeBehindStrength, Cond.code yX0_takeBehindStrength cX0_takeBehindStrength 3 (some .boolean)]
def wsX4_firstError : List Cond := .code yX4_firstError cX4_firstError 1 (some .int) :: ((wsX4_firstError_r1 ++ wsX4_firstError_r2) ++ wsX40 ++ wsX10 ++ wsX00)
def wsX4_bars_r1 : List Cond := [Cond.classLink RX4 127 "java/lang/IllegalArgumentException", Cond.initialized "java/lang/IllegalArgumentException", Cond.fieldLink RX4 29 "NeedleGrid" "text" "LNeedleGrid$BarText;", Cond.fieldLink RX4 22 "NeedleGrid" "history" "LNeedleGrid$History;", Cond.fieldLink RX4 12 "NeedleGrid" "now" "LNeedleGrid$Grid;", Cond.methodLink RX4 123 yX1_isComplete, Cond.instanceMethod yX1_isComplete, Cond.selects RX1 yX1_isComplete yX1_isComplete, Cond.initialized RX1, Cond.code yX1_isComplete cX1_isComplete 1 (some .boolean), Cond.fieldLink RX1 22 "NeedleGrid$BarText" "length" "I", Cond.fieldLink RX1 18 "NeedleGrid$BarText" "reader" "LNeedleGrid$BarReader;", Cond.methodLink RX1 33 yX1_goodLength, Cond.instanceMethod yX1_goodLength, Cond.selects RX1 yX1_goodLength yX1_goodLength, Cond.code yX1_goodLength cX1_goodLength 2 (some .int), Cond.fieldLink RX1 9 "NeedleGrid$BarText" "codes" "[I", Cond.methodLink RX1 26 yX0_begin, Cond.instanceMethod yX0_begin, Cond.selects RX0 yX0_begin yX0_begin, Cond.initialized RX0, Cond.code yX0_begin cX0_begin 1 none, Cond.fieldLink RX0 11 "NeedleGrid$BarReader" "due" "I", Cond.fieldLink RX0 15 "NeedleGrid$BarReader" "parts" "I"]
def wsX4_bars_r2 : List Cond := [Cond.methodLink RX1 29 yX0_take, Cond.instanceMethod yX0_take, Cond.selects RX0 yX0_take yX0_take, Cond.code yX0_take cX0_take 3 (some .boolean), Cond.fieldLink RX0 18 "NeedleGrid$BarReader" "column" "I", Cond.fieldLink RX0 25 "NeedleGrid$BarReader" "row" "I", Cond.fieldLink RX0 28 "NeedleGrid$BarReader" "direction" "I", Cond.fieldLink RX0 31 "NeedleGrid$BarReader" "strength" "I", Cond.methodLink RX0 21 yX0_goOn, Cond.instanceMethod yX0_goOn, Cond.selects RX0 yX0_goOn yX0_goOn, Cond.code yX0_goOn cX0_goOn 3 (some .boolean), Cond.methodLink RX0 34 yX0_takeBehindStrength, Cond.instanceMethod yX0_takeBehindStrength, Cond.selects RX0 yX0_takeBehindStrength yX0_takeBehindStrength, Cond.code yX0_takeBehindStrength cX0_takeBehindStrength 3 (some .boolean), Cond.methodLink RX1 37 yX0_isBehindStrength, Cond.instanceMethod yX0_isBehindStrength, Cond.selects RX0 yX0_isBehindStrength yX0_isBehindStrength, Cond.code yX0_isBehindStrength cX0_isBehindStrength 1 (some .boolean), Cond.methodLink RX4 40 yX3_save, Cond.instanceMethod yX3_save, Cond.selects RX3 yX3_save yX3_save, Cond.initialized RX3]
def wsX4_bars_r3 : List Cond := [Cond.code yX3_save cX3_save 3 none, Cond.fieldLink RX3 11 "NeedleGrid$History" "ring" "[LNeedleGrid$Grid;", Cond.fieldLink RX3 18 "NeedleGrid$History" "next" "I", Cond.fieldLink RX3 26 "NeedleGrid$History" "amount" "I", Cond.methodLink RX3 22 yX2_copyFrom, Cond.instanceMethod yX2_copyFrom, Cond.selects RX2 yX2_copyFrom yX2_copyFrom, Cond.initialized RX2, Cond.code yX2_copyFrom cX2_copyFrom 3 none, Cond.fieldLink RX2 9 "NeedleGrid$Grid" "directions" "[I", Cond.fieldLink RX2 15 "NeedleGrid$Grid" "frictions" "[I", Cond.fieldLink RX2 18 "NeedleGrid$Grid" "held" "[Z", Cond.fieldLink RX2 22 "NeedleGrid$Grid" "barDirections" "[I", Cond.fieldLink RX2 25 "NeedleGrid$Grid" "barStrengths" "[I", Cond.fieldLink RX2 31 "NeedleGrid$Grid" "stillX" "[I", Cond.fieldLink RX2 34 "NeedleGrid$Grid" "stillY" "[I", Cond.fieldLink RX2 37 "NeedleGrid$Grid" "fieldX" "[I", Cond.fieldLink RX2 40 "NeedleGrid$Grid" "fieldY" "[I", Cond.fieldLink RX2 28 "NeedleGrid$Grid" "settings" "[I", Cond.fieldLink RX2 46 "NeedleGrid$Grid" "turns" "I", Cond.fieldLink RX2 50 "NeedleGrid$Grid" "coilDirection" "I", Cond.fieldLink RX2 53 "NeedleGrid$Grid" "stepsSoFar" "I", Cond.methodLink RX4 132 yX2_takeAllBars, Cond.instanceMethod yX2_takeAllBars]
def wsX4_bars_r4 : List Cond := [Cond.selects RX2 yX2_takeAllBars yX2_takeAllBars, Cond.code yX2_takeAllBars cX2_takeAllBars 2 none, Cond.methodLink RX2 105 yX2_takeBar, Cond.instanceMethod yX2_takeBar, Cond.selects RX2 yX2_takeBar yX2_takeBar, Cond.code yX2_takeBar cX2_takeBar 2 none, Cond.methodLink RX2 102 yX2_layBar, Cond.instanceMethod yX2_layBar, Cond.selects RX2 yX2_layBar yX2_layBar, Cond.code yX2_layBar cX2_layBar 4 none, Cond.methodLink RX4 135 yX1_layInto, Cond.instanceMethod yX1_layInto, Cond.selects RX1 yX1_layInto yX1_layInto, Cond.code yX1_layInto cX1_layInto 3 none, Cond.methodLink RX1 41 yX0_layInto, Cond.instanceMethod yX0_layInto, Cond.selects RX0 yX0_layInto yX0_layInto, Cond.code yX0_layInto cX0_layInto 3 none, Cond.methodLink RX0 38 yX2_layBar, Cond.methodLink RX4 84 yX2_measureAll, Cond.instanceMethod yX2_measureAll, Cond.selects RX2 yX2_measureAll yX2_measureAll, Cond.code yX2_measureAll cX2_measureAll 5 none, Cond.static yX4_across]
def wsX4_bars_r5 : List Cond := [Cond.initialized RX4, Cond.code yX4_across cX4_across 1 (some .int), Cond.fieldLink RX4 284 "NeedleGrid" "ACROSS" "[I", Cond.static yX4_down, Cond.code yX4_down cX4_down 1 (some .int), Cond.fieldLink RX4 287 "NeedleGrid" "DOWN" "[I", Cond.methodLink RX2 63 yX2_hasBar, Cond.instanceMethod yX2_hasBar, Cond.selects RX2 yX2_hasBar yX2_hasBar, Cond.code yX2_hasBar cX2_hasBar 2 (some .boolean), Cond.methodLink RX2 67 yX2_addBarToStill, Cond.instanceMethod yX2_addBarToStill, Cond.selects RX2 yX2_addBarToStill yX2_addBarToStill, Cond.code yX2_addBarToStill cX2_addBarToStill 6 none, Cond.static yX4_pull, Cond.code yX4_pull cX4_pull 12 (some .int), Cond.methodLink RX4 290 yX4_across, Cond.methodLink RX4 293 yX4_down, Cond.methodLink RX2 71 yX2_measureField, Cond.instanceMethod yX2_measureField, Cond.selects RX2 yX2_measureField yX2_measureField, Cond.code yX2_measureField cX2_measureField 2 none, Cond.methodLink RX2 78 yX2_addNeedleToNeighbours, Cond.instanceMethod yX2_addNeedleToNeighbours]
def wsX4_bars_r6 : List Cond := [Cond.selects RX2 yX2_addNeedleToNeighbours yX2_addNeedleToNeighbours, Cond.code yX2_addNeedleToNeighbours cX2_addNeedleToNeighbours 5 none, Cond.methodLink RX2 81 yX2_addToField, Cond.instanceMethod yX2_addToField, Cond.selects RX2 yX2_addToField yX2_addToField, Cond.code yX2_addToField cX2_addToField 4 none, Cond.methodLink RX4 70 yX2_barCount, Cond.instanceMethod yX2_barCount, Cond.selects RX2 yX2_barCount yX2_barCount, Cond.code yX2_barCount cX2_barCount 3 (some .int)]
def wsX4_bars : List Cond := .code yX4_bars cX4_bars 1 (some .int) :: ((wsX4_bars_r1 ++ (wsX4_bars_r2 ++ (wsX4_bars_r3 ++ (wsX4_bars_r4 ++ (wsX4_bars_r5 ++ wsX4_bars_r6))))) ++ wsX40 ++ wsX10 ++ wsX00 ++ wsX30 ++ wsX20 ++ (vx_atS RX4 131 "java/lang/IllegalArgumentException" ["java/lang/RuntimeException", "java/lang/Exception"]).filter goodWord)
def wsX4_undo_r1 : List Cond := [Cond.classLink RX4 74 "java/lang/IllegalStateException", Cond.initialized "java/lang/IllegalStateException", Cond.fieldLink RX4 22 "NeedleGrid" "history" "LNeedleGrid$History;", Cond.fieldLink RX4 12 "NeedleGrid" "now" "LNeedleGrid$Grid;", Cond.methodLink RX4 143 yX3_restoreInto, Cond.instanceMethod yX3_restoreInto, Cond.selects RX3 yX3_restoreInto yX3_restoreInto, Cond.initialized RX3, Cond.code yX3_restoreInto cX3_restoreInto 3 none, Cond.fieldLink RX3 18 "NeedleGrid$History" "next" "I", Cond.fieldLink RX3 26 "NeedleGrid$History" "amount" "I", Cond.fieldLink RX3 11 "NeedleGrid$History" "ring" "[LNeedleGrid$Grid;", Cond.methodLink RX3 22 yX2_copyFrom, Cond.instanceMethod yX2_copyFrom, Cond.selects RX2 yX2_copyFrom yX2_copyFrom, Cond.initialized RX2, Cond.code yX2_copyFrom cX2_copyFrom 3 none, Cond.fieldLink RX2 9 "NeedleGrid$Grid" "directions" "[I", Cond.fieldLink RX2 15 "NeedleGrid$Grid" "frictions" "[I", Cond.fieldLink RX2 18 "NeedleGrid$Grid" "held" "[Z", Cond.fieldLink RX2 22 "NeedleGrid$Grid" "barDirections" "[I", Cond.fieldLink RX2 25 "NeedleGrid$Grid" "barStrengths" "[I", Cond.fieldLink RX2 31 "NeedleGrid$Grid" "stillX" "[I", Cond.fieldLink RX2 34 "NeedleGrid$Grid" "stillY" "[I"]
def wsX4_undo_r2 : List Cond := [Cond.fieldLink RX2 37 "NeedleGrid$Grid" "fieldX" "[I", Cond.fieldLink RX2 40 "NeedleGrid$Grid" "fieldY" "[I", Cond.fieldLink RX2 28 "NeedleGrid$Grid" "settings" "[I", Cond.fieldLink RX2 46 "NeedleGrid$Grid" "turns" "I", Cond.fieldLink RX2 50 "NeedleGrid$Grid" "coilDirection" "I", Cond.fieldLink RX2 53 "NeedleGrid$Grid" "stepsSoFar" "I"]
def wsX4_undo : List Cond := .code yX4_undo cX4_undo 1 (some .int) :: ((wsX4_undo_r1 ++ wsX4_undo_r2) ++ wsX40 ++ wsX30 ++ wsX20 ++ (vx_atS RX4 78 "java/lang/IllegalStateException" ["java/lang/RuntimeException", "java/lang/Exception"]).filter goodWord)
def wsX4_cell_r1 : List Cond := [Cond.classLink RX4 127 "java/lang/IllegalArgumentException", Cond.initialized "java/lang/IllegalArgumentException", Cond.fieldLink RX4 12 "NeedleGrid" "now" "LNeedleGrid$Grid;", Cond.constant RX4 149 (100000), Cond.methodLink RX4 33 yX4_requireCell, Cond.static yX4_requireCell, Cond.initialized RX4, Cond.code yX4_requireCell cX4_requireCell 1 none, Cond.classLink RX4 275 "java/lang/IndexOutOfBoundsException", Cond.initialized "java/lang/IndexOutOfBoundsException", Cond.methodLink RX4 153 yX2_aim, Cond.instanceMethod yX2_aim, Cond.selects RX2 yX2_aim yX2_aim, Cond.initialized RX2, Cond.code yX2_aim cX2_aim 2 (some .int), Cond.fieldLink RX2 37 "NeedleGrid$Grid" "fieldX" "[I", Cond.fieldLink RX2 40 "NeedleGrid$Grid" "fieldY" "[I", Cond.static yX4_aimOf, Cond.code yX4_aimOf cX4_aimOf 4 (some .int), Cond.methodLink RX4 156 yX2_wouldTurn, Cond.instanceMethod yX2_wouldTurn, Cond.selects RX2 yX2_wouldTurn yX2_wouldTurn, Cond.code yX2_wouldTurn cX2_wouldTurn 2 (some .boolean), Cond.fieldLink RX2 9 "NeedleGrid$Grid" "directions" "[I"]
def wsX4_cell_r2 : List Cond := [Cond.methodLink RX2 95 yX2_directionAfterStep, Cond.instanceMethod yX2_directionAfterStep, Cond.selects RX2 yX2_directionAfterStep yX2_directionAfterStep, Cond.code yX2_directionAfterStep cX2_directionAfterStep 8 (some .int), Cond.fieldLink RX2 18 "NeedleGrid$Grid" "held" "[Z", Cond.fieldLink RX2 15 "NeedleGrid$Grid" "frictions" "[I", Cond.static yX4_ahead, Cond.code yX4_ahead cX4_ahead 2 (some .int), Cond.methodLink RX4 159 yX2_awayFromAim, Cond.instanceMethod yX2_awayFromAim, Cond.selects RX2 yX2_awayFromAim yX2_awayFromAim, Cond.code yX2_awayFromAim cX2_awayFromAim 4 (some .int), Cond.methodLink RX2 89 yX2_aim]
def wsX4_cell : List Cond := .code yX4_cell cX4_cell 3 (some .int) :: ((wsX4_cell_r1 ++ wsX4_cell_r2) ++ wsX40 ++ wsX20 ++ (vx_atS RX4 131 "java/lang/IllegalArgumentException" ["java/lang/RuntimeException", "java/lang/Exception"]).filter goodWord ++ (vx_atS RX4 279 "java/lang/IndexOutOfBoundsException" ["java/lang/RuntimeException", "java/lang/Exception"]).filter goodWord)
def wsX4_barOf : List Cond := .code yX4_barOf cX4_barOf 4 (some .int) :: ([.classLink RX4 127 "java/lang/IllegalArgumentException", .initialized "java/lang/IllegalArgumentException", .fieldLink RX4 12 "NeedleGrid" "now" "LNeedleGrid$Grid;", .methodLink RX4 51 yX4_requireBetween, .static yX4_requireBetween, .initialized RX4, .code yX4_requireBetween cX4_requireBetween 3 none, .methodLink RX4 166 yX2_cellOfBar, .instanceMethod yX2_cellOfBar, .selects RX2 yX2_cellOfBar yX2_cellOfBar, .initialized RX2, .code yX2_cellOfBar cX2_cellOfBar 4 (some .int), .methodLink RX2 63 yX2_hasBar, .instanceMethod yX2_hasBar, .selects RX2 yX2_hasBar yX2_hasBar, .code yX2_hasBar cX2_hasBar 2 (some .boolean), .fieldLink RX2 25 "NeedleGrid$Grid" "barStrengths" "[I"] ++ wsX40 ++ wsX20 ++ (vx_atS RX4 131 "java/lang/IllegalArgumentException" ["java/lang/RuntimeException", "java/lang/Exception"]).filter goodWord)
def wsX4_count_r1 : List Cond := [Cond.classLink RX4 127 "java/lang/IllegalArgumentException", Cond.initialized "java/lang/IllegalArgumentException", Cond.fieldLink RX4 12 "NeedleGrid" "now" "LNeedleGrid$Grid;", Cond.fieldLink RX4 22 "NeedleGrid" "history" "LNeedleGrid$History;", Cond.methodLink RX4 70 yX2_barCount, Cond.instanceMethod yX2_barCount, Cond.selects RX2 yX2_barCount yX2_barCount, Cond.initialized RX2, Cond.code yX2_barCount cX2_barCount 3 (some .int), Cond.methodLink RX2 63 yX2_hasBar, Cond.instanceMethod yX2_hasBar, Cond.selects RX2 yX2_hasBar yX2_hasBar, Cond.code yX2_hasBar cX2_hasBar 2 (some .boolean), Cond.fieldLink RX2 25 "NeedleGrid$Grid" "barStrengths" "[I", Cond.methodLink RX4 178 yX2_heldCount, Cond.instanceMethod yX2_heldCount, Cond.selects RX2 yX2_heldCount yX2_heldCount, Cond.code yX2_heldCount cX2_heldCount 3 (some .int), Cond.fieldLink RX2 18 "NeedleGrid$Grid" "held" "[Z", Cond.methodLink RX4 181 yX2_turningCount, Cond.instanceMethod yX2_turningCount, Cond.selects RX2 yX2_turningCount yX2_turningCount, Cond.code yX2_turningCount cX2_turningCount 3 (some .int), Cond.methodLink RX2 108 yX2_wouldTurn]
def wsX4_count_r2 : List Cond := [Cond.instanceMethod yX2_wouldTurn, Cond.selects RX2 yX2_wouldTurn yX2_wouldTurn, Cond.code yX2_wouldTurn cX2_wouldTurn 2 (some .boolean), Cond.fieldLink RX2 9 "NeedleGrid$Grid" "directions" "[I", Cond.methodLink RX2 95 yX2_directionAfterStep, Cond.instanceMethod yX2_directionAfterStep, Cond.selects RX2 yX2_directionAfterStep yX2_directionAfterStep, Cond.code yX2_directionAfterStep cX2_directionAfterStep 8 (some .int), Cond.fieldLink RX2 37 "NeedleGrid$Grid" "fieldX" "[I", Cond.fieldLink RX2 40 "NeedleGrid$Grid" "fieldY" "[I", Cond.fieldLink RX2 15 "NeedleGrid$Grid" "frictions" "[I", Cond.static yX4_aimOf, Cond.initialized RX4, Cond.code yX4_aimOf cX4_aimOf 4 (some .int), Cond.static yX4_ahead, Cond.code yX4_ahead cX4_ahead 2 (some .int), Cond.methodLink RX4 184 yX2_obeyingCount, Cond.instanceMethod yX2_obeyingCount, Cond.selects RX2 yX2_obeyingCount yX2_obeyingCount, Cond.code yX2_obeyingCount cX2_obeyingCount 3 (some .int), Cond.methodLink RX2 89 yX2_aim, Cond.instanceMethod yX2_aim, Cond.selects RX2 yX2_aim yX2_aim, Cond.code yX2_aim cX2_aim 2 (some .int)]
def wsX4_count_r3 : List Cond := [Cond.methodLink RX4 187 yX2_awayTogether, Cond.instanceMethod yX2_awayTogether, Cond.selects RX2 yX2_awayTogether yX2_awayTogether, Cond.code yX2_awayTogether cX2_awayTogether 4 (some .int), Cond.methodLink RX2 111 yX2_awayFromAim, Cond.instanceMethod yX2_awayFromAim, Cond.selects RX2 yX2_awayFromAim yX2_awayFromAim, Cond.code yX2_awayFromAim cX2_awayFromAim 4 (some .int)]
def wsX4_count : List Cond := .code yX4_count cX4_count 2 (some .int) :: ((wsX4_count_r1 ++ (wsX4_count_r2 ++ wsX4_count_r3)) ++ wsX40 ++ wsX20 ++ wsX30 ++ (vx_atS RX4 131 "java/lang/IllegalArgumentException" ["java/lang/RuntimeException", "java/lang/Exception"]).filter goodWord)
def wsX4_pointing : List Cond := .code yX4_pointing cX4_pointing 2 (some .int) :: ([.fieldLink RX4 12 "NeedleGrid" "now" "LNeedleGrid$Grid;", .methodLink RX4 37 yX4_requireDirection, .static yX4_requireDirection, .initialized RX4, .code yX4_requireDirection cX4_requireDirection 1 none, .methodLink RX4 51 yX4_requireBetween, .static yX4_requireBetween, .code yX4_requireBetween cX4_requireBetween 3 none, .classLink RX4 127 "java/lang/IllegalArgumentException", .initialized "java/lang/IllegalArgumentException", .methodLink RX4 192 yX2_pointingCount, .instanceMethod yX2_pointingCount, .selects RX2 yX2_pointingCount yX2_pointingCount, .initialized RX2, .code yX2_pointingCount cX2_pointingCount 4 (some .int), .fieldLink RX2 9 "NeedleGrid$Grid" "directions" "[I"] ++ wsX40 ++ wsX20 ++ (vx_atS RX4 131 "java/lang/IllegalArgumentException" ["java/lang/RuntimeException", "java/lang/Exception"]).filter goodWord)
def wsX4_setting : List Cond := .code yX4_setting cX4_setting 2 (some .int) :: ([.fieldLink RX4 12 "NeedleGrid" "now" "LNeedleGrid$Grid;", .methodLink RX4 99 yX4_requireSetting, .static yX4_requireSetting, .initialized RX4, .code yX4_requireSetting cX4_requireSetting 1 none, .classLink RX4 275 "java/lang/IndexOutOfBoundsException", .initialized "java/lang/IndexOutOfBoundsException"] ++ wsX40 ++ wsX20 ++ (vx_atS RX4 279 "java/lang/IndexOutOfBoundsException" ["java/lang/RuntimeException", "java/lang/Exception"]).filter goodWord)
def wsX4_restsIn_r1 : List Cond := [Cond.fieldLink RX4 16 "NeedleGrid" "trial" "LNeedleGrid$Grid;", Cond.fieldLink RX4 12 "NeedleGrid" "now" "LNeedleGrid$Grid;", Cond.methodLink RX4 195 yX2_copyFrom, Cond.instanceMethod yX2_copyFrom, Cond.selects RX2 yX2_copyFrom yX2_copyFrom, Cond.initialized RX2, Cond.code yX2_copyFrom cX2_copyFrom 3 none, Cond.fieldLink RX2 9 "NeedleGrid$Grid" "directions" "[I", Cond.fieldLink RX2 15 "NeedleGrid$Grid" "frictions" "[I", Cond.fieldLink RX2 18 "NeedleGrid$Grid" "held" "[Z", Cond.fieldLink RX2 22 "NeedleGrid$Grid" "barDirections" "[I", Cond.fieldLink RX2 25 "NeedleGrid$Grid" "barStrengths" "[I", Cond.fieldLink RX2 31 "NeedleGrid$Grid" "stillX" "[I", Cond.fieldLink RX2 34 "NeedleGrid$Grid" "stillY" "[I", Cond.fieldLink RX2 37 "NeedleGrid$Grid" "fieldX" "[I", Cond.fieldLink RX2 40 "NeedleGrid$Grid" "fieldY" "[I", Cond.fieldLink RX2 28 "NeedleGrid$Grid" "settings" "[I", Cond.fieldLink RX2 46 "NeedleGrid$Grid" "turns" "I", Cond.fieldLink RX2 50 "NeedleGrid$Grid" "coilDirection" "I", Cond.fieldLink RX2 53 "NeedleGrid$Grid" "stepsSoFar" "I", Cond.methodLink RX4 108 yX2_letGoBy, Cond.instanceMethod yX2_letGoBy, Cond.selects RX2 yX2_letGoBy yX2_letGoBy, Cond.code yX2_letGoBy cX2_letGoBy 4 (some .int)]
def wsX4_restsIn_r2 : List Cond := [Cond.methodLink RX2 98 yX2_turnAll, Cond.instanceMethod yX2_turnAll, Cond.selects RX2 yX2_turnAll yX2_turnAll, Cond.code yX2_turnAll cX2_turnAll 4 (some .int), Cond.methodLink RX2 95 yX2_directionAfterStep, Cond.instanceMethod yX2_directionAfterStep, Cond.selects RX2 yX2_directionAfterStep yX2_directionAfterStep, Cond.code yX2_directionAfterStep cX2_directionAfterStep 8 (some .int), Cond.static yX4_aimOf, Cond.initialized RX4, Cond.code yX4_aimOf cX4_aimOf 4 (some .int), Cond.static yX4_ahead, Cond.code yX4_ahead cX4_ahead 2 (some .int), Cond.methodLink RX2 71 yX2_measureField, Cond.instanceMethod yX2_measureField, Cond.selects RX2 yX2_measureField yX2_measureField, Cond.code yX2_measureField cX2_measureField 2 none, Cond.methodLink RX2 78 yX2_addNeedleToNeighbours, Cond.instanceMethod yX2_addNeedleToNeighbours, Cond.selects RX2 yX2_addNeedleToNeighbours yX2_addNeedleToNeighbours, Cond.code yX2_addNeedleToNeighbours cX2_addNeedleToNeighbours 5 none, Cond.static yX4_across, Cond.code yX4_across cX4_across 1 (some .int), Cond.fieldLink RX4 284 "NeedleGrid" "ACROSS" "[I"]
def wsX4_restsIn_r3 : List Cond := [Cond.static yX4_down, Cond.code yX4_down cX4_down 1 (some .int), Cond.fieldLink RX4 287 "NeedleGrid" "DOWN" "[I", Cond.methodLink RX2 81 yX2_addToField, Cond.instanceMethod yX2_addToField, Cond.selects RX2 yX2_addToField yX2_addToField, Cond.code yX2_addToField cX2_addToField 4 none]
def wsX4_restsIn : List Cond := .code yX4_restsIn cX4_restsIn 2 (some .int) :: ((wsX4_restsIn_r1 ++ (wsX4_restsIn_r2 ++ wsX4_restsIn_r3)) ++ wsX40 ++ wsX20)
def wsX4_points_r1 : List Cond := [Cond.fieldLink RX4 16 "NeedleGrid" "trial" "LNeedleGrid$Grid;", Cond.fieldLink RX4 12 "NeedleGrid" "now" "LNeedleGrid$Grid;", Cond.methodLink RX4 33 yX4_requireCell, Cond.static yX4_requireCell, Cond.initialized RX4, Cond.code yX4_requireCell cX4_requireCell 1 none, Cond.classLink RX4 275 "java/lang/IndexOutOfBoundsException", Cond.initialized "java/lang/IndexOutOfBoundsException", Cond.methodLink RX4 51 yX4_requireBetween, Cond.static yX4_requireBetween, Cond.code yX4_requireBetween cX4_requireBetween 3 none, Cond.classLink RX4 127 "java/lang/IllegalArgumentException", Cond.initialized "java/lang/IllegalArgumentException", Cond.methodLink RX4 195 yX2_copyFrom, Cond.instanceMethod yX2_copyFrom, Cond.selects RX2 yX2_copyFrom yX2_copyFrom, Cond.initialized RX2, Cond.code yX2_copyFrom cX2_copyFrom 3 none, Cond.fieldLink RX2 9 "NeedleGrid$Grid" "directions" "[I", Cond.fieldLink RX2 15 "NeedleGrid$Grid" "frictions" "[I", Cond.fieldLink RX2 18 "NeedleGrid$Grid" "held" "[Z", Cond.fieldLink RX2 22 "NeedleGrid$Grid" "barDirections" "[I", Cond.fieldLink RX2 25 "NeedleGrid$Grid" "barStrengths" "[I", Cond.fieldLink RX2 31 "NeedleGrid$Grid" "stillX" "[I"]
def wsX4_points_r2 : List Cond := [Cond.fieldLink RX2 34 "NeedleGrid$Grid" "stillY" "[I", Cond.fieldLink RX2 37 "NeedleGrid$Grid" "fieldX" "[I", Cond.fieldLink RX2 40 "NeedleGrid$Grid" "fieldY" "[I", Cond.fieldLink RX2 28 "NeedleGrid$Grid" "settings" "[I", Cond.fieldLink RX2 46 "NeedleGrid$Grid" "turns" "I", Cond.fieldLink RX2 50 "NeedleGrid$Grid" "coilDirection" "I", Cond.fieldLink RX2 53 "NeedleGrid$Grid" "stepsSoFar" "I", Cond.methodLink RX4 108 yX2_letGoBy, Cond.instanceMethod yX2_letGoBy, Cond.selects RX2 yX2_letGoBy yX2_letGoBy, Cond.code yX2_letGoBy cX2_letGoBy 4 (some .int), Cond.methodLink RX2 98 yX2_turnAll, Cond.instanceMethod yX2_turnAll, Cond.selects RX2 yX2_turnAll yX2_turnAll, Cond.code yX2_turnAll cX2_turnAll 4 (some .int), Cond.methodLink RX2 95 yX2_directionAfterStep, Cond.instanceMethod yX2_directionAfterStep, Cond.selects RX2 yX2_directionAfterStep yX2_directionAfterStep, Cond.code yX2_directionAfterStep cX2_directionAfterStep 8 (some .int), Cond.static yX4_aimOf, Cond.code yX4_aimOf cX4_aimOf 4 (some .int), Cond.static yX4_ahead, Cond.code yX4_ahead cX4_ahead 2 (some .int), Cond.methodLink RX2 71 yX2_measureField]
def wsX4_points_r3 : List Cond := [Cond.instanceMethod yX2_measureField, Cond.selects RX2 yX2_measureField yX2_measureField, Cond.code yX2_measureField cX2_measureField 2 none, Cond.methodLink RX2 78 yX2_addNeedleToNeighbours, Cond.instanceMethod yX2_addNeedleToNeighbours, Cond.selects RX2 yX2_addNeedleToNeighbours yX2_addNeedleToNeighbours, Cond.code yX2_addNeedleToNeighbours cX2_addNeedleToNeighbours 5 none, Cond.static yX4_across, Cond.code yX4_across cX4_across 1 (some .int), Cond.fieldLink RX4 284 "NeedleGrid" "ACROSS" "[I", Cond.static yX4_down, Cond.code yX4_down cX4_down 1 (some .int), Cond.fieldLink RX4 287 "NeedleGrid" "DOWN" "[I", Cond.methodLink RX2 81 yX2_addToField, Cond.instanceMethod yX2_addToField, Cond.selects RX2 yX2_addToField yX2_addToField, Cond.code yX2_addToField cX2_addToField 4 none]
def wsX4_points : List Cond := .code yX4_points cX4_points 3 (some .int) :: ((wsX4_points_r1 ++ (wsX4_points_r2 ++ wsX4_points_r3)) ++ wsX40 ++ wsX20 ++ (vx_atS RX4 279 "java/lang/IndexOutOfBoundsException" ["java/lang/RuntimeException", "java/lang/Exception"]).filter goodWord ++ (vx_atS RX4 131 "java/lang/IllegalArgumentException" ["java/lang/RuntimeException", "java/lang/Exception"]).filter goodWord)
def wsX4_ifBar_r1 : List Cond := [Cond.fieldLink RX4 12 "NeedleGrid" "now" "LNeedleGrid$Grid;", Cond.methodLink RX4 33 yX4_requireCell, Cond.static yX4_requireCell, Cond.initialized RX4, Cond.code yX4_requireCell cX4_requireCell 1 none, Cond.classLink RX4 275 "java/lang/IndexOutOfBoundsException", Cond.initialized "java/lang/IndexOutOfBoundsException", Cond.methodLink RX4 37 yX4_requireDirection, Cond.static yX4_requireDirection, Cond.code yX4_requireDirection cX4_requireDirection 1 none, Cond.methodLink RX4 51 yX4_requireBetween, Cond.static yX4_requireBetween, Cond.code yX4_requireBetween cX4_requireBetween 3 none, Cond.classLink RX4 127 "java/lang/IllegalArgumentException", Cond.initialized "java/lang/IllegalArgumentException", Cond.methodLink RX4 198 yX2_aimIfBar, Cond.instanceMethod yX2_aimIfBar, Cond.selects RX2 yX2_aimIfBar yX2_aimIfBar, Cond.initialized RX2, Cond.code yX2_aimIfBar cX2_aimIfBar 10 (some .int), Cond.fieldLink RX2 22 "NeedleGrid$Grid" "barDirections" "[I", Cond.fieldLink RX2 25 "NeedleGrid$Grid" "barStrengths" "[I", Cond.fieldLink RX2 37 "NeedleGrid$Grid" "fieldX" "[I", Cond.fieldLink RX2 40 "NeedleGrid$Grid" "fieldY" "[I"]
def wsX4_ifBar_r2 : List Cond := [Cond.static yX4_pull, Cond.code yX4_pull cX4_pull 12 (some .int), Cond.methodLink RX4 290 yX4_across, Cond.static yX4_across, Cond.code yX4_across cX4_across 1 (some .int), Cond.fieldLink RX4 284 "NeedleGrid" "ACROSS" "[I", Cond.methodLink RX4 293 yX4_down, Cond.static yX4_down, Cond.code yX4_down cX4_down 1 (some .int), Cond.fieldLink RX4 287 "NeedleGrid" "DOWN" "[I", Cond.static yX4_aimOf, Cond.code yX4_aimOf cX4_aimOf 4 (some .int), Cond.methodLink RX4 153 yX2_aim, Cond.instanceMethod yX2_aim, Cond.selects RX2 yX2_aim yX2_aim, Cond.code yX2_aim cX2_aim 2 (some .int)]
def wsX4_ifBar : List Cond := .code yX4_ifBar cX4_ifBar 6 (some .int) :: ((wsX4_ifBar_r1 ++ wsX4_ifBar_r2) ++ wsX40 ++ wsX20 ++ (vx_atS RX4 279 "java/lang/IndexOutOfBoundsException" ["java/lang/RuntimeException", "java/lang/Exception"]).filter goodWord ++ (vx_atS RX4 131 "java/lang/IllegalArgumentException" ["java/lang/RuntimeException", "java/lang/Exception"]).filter goodWord)
def wsX4_bestBar_r1 : List Cond := [Cond.fieldLink RX4 12 "NeedleGrid" "now" "LNeedleGrid$Grid;", Cond.methodLink RX4 33 yX4_requireCell, Cond.static yX4_requireCell, Cond.initialized RX4, Cond.code yX4_requireCell cX4_requireCell 1 none, Cond.classLink RX4 275 "java/lang/IndexOutOfBoundsException", Cond.initialized "java/lang/IndexOutOfBoundsException", Cond.methodLink RX4 37 yX4_requireDirection, Cond.static yX4_requireDirection, Cond.code yX4_requireDirection cX4_requireDirection 1 none, Cond.methodLink RX4 51 yX4_requireBetween, Cond.static yX4_requireBetween, Cond.code yX4_requireBetween cX4_requireBetween 3 none, Cond.classLink RX4 127 "java/lang/IllegalArgumentException", Cond.initialized "java/lang/IllegalArgumentException", Cond.methodLink RX4 198 yX2_aimIfBar, Cond.instanceMethod yX2_aimIfBar, Cond.selects RX2 yX2_aimIfBar yX2_aimIfBar, Cond.initialized RX2, Cond.code yX2_aimIfBar cX2_aimIfBar 10 (some .int), Cond.fieldLink RX2 22 "NeedleGrid$Grid" "barDirections" "[I", Cond.fieldLink RX2 25 "NeedleGrid$Grid" "barStrengths" "[I", Cond.fieldLink RX2 37 "NeedleGrid$Grid" "fieldX" "[I", Cond.fieldLink RX2 40 "NeedleGrid$Grid" "fieldY" "[I"]
def wsX4_bestBar_r2 : List Cond := [Cond.static yX4_pull, Cond.code yX4_pull cX4_pull 12 (some .int), Cond.methodLink RX4 290 yX4_across, Cond.static yX4_across, Cond.code yX4_across cX4_across 1 (some .int), Cond.fieldLink RX4 284 "NeedleGrid" "ACROSS" "[I", Cond.methodLink RX4 293 yX4_down, Cond.static yX4_down, Cond.code yX4_down cX4_down 1 (some .int), Cond.fieldLink RX4 287 "NeedleGrid" "DOWN" "[I", Cond.static yX4_aimOf, Cond.code yX4_aimOf cX4_aimOf 4 (some .int)]
def wsX4_bestBar : List Cond := .code yX4_bestBar cX4_bestBar 6 (some .int) :: ((wsX4_bestBar_r1 ++ wsX4_bestBar_r2) ++ wsX40 ++ wsX20 ++ (vx_atS RX4 279 "java/lang/IndexOutOfBoundsException" ["java/lang/RuntimeException", "java/lang/Exception"]).filter goodWord ++ (vx_atS RX4 131 "java/lang/IllegalArgumentException" ["java/lang/RuntimeException", "java/lang/Exception"]).filter goodWord)
def wsX4_leastTurns_r1 : List Cond := [Cond.fieldLink RX4 12 "NeedleGrid" "now" "LNeedleGrid$Grid;", Cond.methodLink RX4 33 yX4_requireCell, Cond.static yX4_requireCell, Cond.initialized RX4, Cond.code yX4_requireCell cX4_requireCell 1 none, Cond.classLink RX4 275 "java/lang/IndexOutOfBoundsException", Cond.initialized "java/lang/IndexOutOfBoundsException", Cond.methodLink RX4 202 yX2_aimIfTurns, Cond.instanceMethod yX2_aimIfTurns, Cond.selects RX2 yX2_aimIfTurns yX2_aimIfTurns, Cond.initialized RX2, Cond.code yX2_aimIfTurns cX2_aimIfTurns 6 (some .int), Cond.fieldLink RX2 28 "NeedleGrid$Grid" "settings" "[I", Cond.fieldLink RX2 46 "NeedleGrid$Grid" "turns" "I", Cond.fieldLink RX2 37 "NeedleGrid$Grid" "fieldX" "[I", Cond.fieldLink RX2 50 "NeedleGrid$Grid" "coilDirection" "I", Cond.fieldLink RX2 40 "NeedleGrid$Grid" "fieldY" "[I", Cond.static yX4_across, Cond.code yX4_across cX4_across 1 (some .int), Cond.fieldLink RX4 284 "NeedleGrid" "ACROSS" "[I", Cond.static yX4_down, Cond.code yX4_down cX4_down 1 (some .int), Cond.fieldLink RX4 287 "NeedleGrid" "DOWN" "[I", Cond.static yX4_aimOf]
def wsX4_leastTurns_r2 : List Cond := [Cond.code yX4_aimOf cX4_aimOf 4 (some .int)]
def wsX4_leastTurns : List Cond := .code yX4_leastTurns cX4_leastTurns 3 (some .int) :: ((wsX4_leastTurns_r1 ++ wsX4_leastTurns_r2) ++ wsX40 ++ wsX20 ++ (vx_atS RX4 279 "java/lang/IndexOutOfBoundsException" ["java/lang/RuntimeException", "java/lang/Exception"]).filter goodWord)
def wsX4_obedience : List Cond := .code yX4_obedience cX4_obedience 2 (some .double) :: ([.fieldLink RX4 12 "NeedleGrid" "now" "LNeedleGrid$Grid;", .methodLink RX4 206 yX2_aimedCount, .instanceMethod yX2_aimedCount, .selects RX2 yX2_aimedCount yX2_aimedCount, .initialized RX2, .code yX2_aimedCount cX2_aimedCount 3 (some .int), .methodLink RX2 89 yX2_aim, .instanceMethod yX2_aim, .selects RX2 yX2_aim yX2_aim, .code yX2_aim cX2_aim 2 (some .int), .fieldLink RX2 37 "NeedleGrid$Grid" "fieldX" "[I", .fieldLink RX2 40 "NeedleGrid$Grid" "fieldY" "[I", .static yX4_aimOf, .initialized RX4, .code yX4_aimOf cX4_aimOf 4 (some .int), .methodLink RX4 184 yX2_obeyingCount, .instanceMethod yX2_obeyingCount, .selects RX2 yX2_obeyingCount yX2_obeyingCount, .code yX2_obeyingCount cX2_obeyingCount 3 (some .int), .fieldLink RX2 9 "NeedleGrid$Grid" "directions" "[I"] ++ wsX40 ++ wsX20)
def wsX4_mixed : List Cond := .code yX4_mixed cX4_mixed 4 (some .long) :: ([.constantLong RX4 267 (31)])
def wsX4_withCells_r1 : List Cond := [Cond.methodLink RX4 258 yX4_cell, Cond.instanceMethod yX4_cell, Cond.selects RX4 yX4_cell yX4_cell, Cond.initialized RX4, Cond.code yX4_cell cX4_cell 3 (some .int), Cond.classLink RX4 127 "java/lang/IllegalArgumentException", Cond.initialized "java/lang/IllegalArgumentException", Cond.fieldLink RX4 12 "NeedleGrid" "now" "LNeedleGrid$Grid;", Cond.constant RX4 149 (100000), Cond.methodLink RX4 33 yX4_requireCell, Cond.static yX4_requireCell, Cond.code yX4_requireCell cX4_requireCell 1 none, Cond.classLink RX4 275 "java/lang/IndexOutOfBoundsException", Cond.initialized "java/lang/IndexOutOfBoundsException", Cond.methodLink RX4 153 yX2_aim, Cond.instanceMethod yX2_aim, Cond.selects RX2 yX2_aim yX2_aim, Cond.initialized RX2, Cond.code yX2_aim cX2_aim 2 (some .int), Cond.fieldLink RX2 37 "NeedleGrid$Grid" "fieldX" "[I", Cond.fieldLink RX2 40 "NeedleGrid$Grid" "fieldY" "[I", Cond.static yX4_aimOf, Cond.code yX4_aimOf cX4_aimOf 4 (some .int), Cond.methodLink RX4 156 yX2_wouldTurn]
def wsX4_withCells_r2 : List Cond := [Cond.instanceMethod yX2_wouldTurn, Cond.selects RX2 yX2_wouldTurn yX2_wouldTurn, Cond.code yX2_wouldTurn cX2_wouldTurn 2 (some .boolean), Cond.fieldLink RX2 9 "NeedleGrid$Grid" "directions" "[I", Cond.methodLink RX2 95 yX2_directionAfterStep, Cond.instanceMethod yX2_directionAfterStep, Cond.selects RX2 yX2_directionAfterStep yX2_directionAfterStep, Cond.code yX2_directionAfterStep cX2_directionAfterStep 8 (some .int), Cond.fieldLink RX2 18 "NeedleGrid$Grid" "held" "[Z", Cond.fieldLink RX2 15 "NeedleGrid$Grid" "frictions" "[I", Cond.static yX4_ahead, Cond.code yX4_ahead cX4_ahead 2 (some .int), Cond.methodLink RX4 159 yX2_awayFromAim, Cond.instanceMethod yX2_awayFromAim, Cond.selects RX2 yX2_awayFromAim yX2_awayFromAim, Cond.code yX2_awayFromAim cX2_awayFromAim 4 (some .int), Cond.methodLink RX2 89 yX2_aim, Cond.methodLink RX4 214 yX4_mixed, Cond.static yX4_mixed, Cond.code yX4_mixed cX4_mixed 4 (some .long), Cond.constantLong RX4 267 (31)]
def wsX4_withCells : List Cond := .code yX4_withCells cX4_withCells 7 (some .long) :: ((wsX4_withCells_r1 ++ wsX4_withCells_r2) ++ wsX40 ++ wsX20 ++ (vx_atS RX4 131 "java/lang/IllegalArgumentException" ["java/lang/RuntimeException", "java/lang/Exception"]).filter goodWord ++ (vx_atS RX4 279 "java/lang/IndexOutOfBoundsException" ["java/lang/RuntimeException", "java/lang/Exception"]).filter goodWord)
def wsX4_withBars_r1 : List Cond := [Cond.fieldLink RX4 12 "NeedleGrid" "now" "LNeedleGrid$Grid;", Cond.methodLink RX4 70 yX2_barCount, Cond.instanceMethod yX2_barCount, Cond.selects RX2 yX2_barCount yX2_barCount, Cond.initialized RX2, Cond.code yX2_barCount cX2_barCount 3 (some .int), Cond.methodLink RX2 63 yX2_hasBar, Cond.instanceMethod yX2_hasBar, Cond.selects RX2 yX2_hasBar yX2_hasBar, Cond.code yX2_hasBar cX2_hasBar 2 (some .boolean), Cond.fieldLink RX2 25 "NeedleGrid$Grid" "barStrengths" "[I", Cond.methodLink RX4 261 yX4_barOf, Cond.instanceMethod yX4_barOf, Cond.selects RX4 yX4_barOf yX4_barOf, Cond.initialized RX4, Cond.code yX4_barOf cX4_barOf 4 (some .int), Cond.classLink RX4 127 "java/lang/IllegalArgumentException", Cond.initialized "java/lang/IllegalArgumentException", Cond.methodLink RX4 51 yX4_requireBetween, Cond.static yX4_requireBetween, Cond.code yX4_requireBetween cX4_requireBetween 3 none, Cond.methodLink RX4 166 yX2_cellOfBar, Cond.instanceMethod yX2_cellOfBar, Cond.selects RX2 yX2_cellOfBar yX2_cellOfBar]
def wsX4_withBars_r2 : List Cond := [Cond.code yX2_cellOfBar cX2_cellOfBar 4 (some .int), Cond.methodLink RX4 214 yX4_mixed, Cond.static yX4_mixed, Cond.code yX4_mixed cX4_mixed 4 (some .long), Cond.constantLong RX4 267 (31)]
def wsX4_withBars : List Cond := .code yX4_withBars cX4_withBars 8 (some .long) :: ((wsX4_withBars_r1 ++ wsX4_withBars_r2) ++ wsX40 ++ wsX20 ++ (vx_atS RX4 131 "java/lang/IllegalArgumentException" ["java/lang/RuntimeException", "java/lang/Exception"]).filter goodWord)
def wsX4_bitsOf : List Cond := .code yX4_bitsOf cX4_bitsOf 6 (some .long) :: ([.constantLong RX4 269 (1023), .constantDouble RX4 271 (4611686018427387904), .constantDouble RX4 273 (4841369599423283200)])
def wsX4_withBuffer : List Cond := .code yX4_withBuffer cX4_withBuffer 6 (some .long) :: ([.fieldLink RX4 29 "NeedleGrid" "text" "LNeedleGrid$BarText;", .methodLink RX4 214 yX4_mixed, .static yX4_mixed, .initialized RX4, .code yX4_mixed cX4_mixed 4 (some .long), .constantLong RX4 267 (31)] ++ wsX40 ++ wsX10)
def wsX4_digest_r1 : List Cond := [Cond.constantLong RX4 209 (3167), Cond.methodLink RX4 211 yX4_count, Cond.instanceMethod yX4_count, Cond.selects RX4 yX4_count yX4_count, Cond.initialized RX4, Cond.code yX4_count cX4_count 2 (some .int), Cond.classLink RX4 127 "java/lang/IllegalArgumentException", Cond.initialized "java/lang/IllegalArgumentException", Cond.fieldLink RX4 12 "NeedleGrid" "now" "LNeedleGrid$Grid;", Cond.fieldLink RX4 22 "NeedleGrid" "history" "LNeedleGrid$History;", Cond.methodLink RX4 70 yX2_barCount, Cond.instanceMethod yX2_barCount, Cond.selects RX2 yX2_barCount yX2_barCount, Cond.initialized RX2, Cond.code yX2_barCount cX2_barCount 3 (some .int), Cond.methodLink RX2 63 yX2_hasBar, Cond.instanceMethod yX2_hasBar, Cond.selects RX2 yX2_hasBar yX2_hasBar, Cond.code yX2_hasBar cX2_hasBar 2 (some .boolean), Cond.fieldLink RX2 25 "NeedleGrid$Grid" "barStrengths" "[I", Cond.methodLink RX4 178 yX2_heldCount, Cond.instanceMethod yX2_heldCount, Cond.selects RX2 yX2_heldCount yX2_heldCount, Cond.code yX2_heldCount cX2_heldCount 3 (some .int)]
def wsX4_digest_r2 : List Cond := [Cond.fieldLink RX2 18 "NeedleGrid$Grid" "held" "[Z", Cond.methodLink RX4 181 yX2_turningCount, Cond.instanceMethod yX2_turningCount, Cond.selects RX2 yX2_turningCount yX2_turningCount, Cond.code yX2_turningCount cX2_turningCount 3 (some .int), Cond.methodLink RX2 108 yX2_wouldTurn, Cond.instanceMethod yX2_wouldTurn, Cond.selects RX2 yX2_wouldTurn yX2_wouldTurn, Cond.code yX2_wouldTurn cX2_wouldTurn 2 (some .boolean), Cond.fieldLink RX2 9 "NeedleGrid$Grid" "directions" "[I", Cond.methodLink RX2 95 yX2_directionAfterStep, Cond.instanceMethod yX2_directionAfterStep, Cond.selects RX2 yX2_directionAfterStep yX2_directionAfterStep, Cond.code yX2_directionAfterStep cX2_directionAfterStep 8 (some .int), Cond.fieldLink RX2 37 "NeedleGrid$Grid" "fieldX" "[I", Cond.fieldLink RX2 40 "NeedleGrid$Grid" "fieldY" "[I", Cond.fieldLink RX2 15 "NeedleGrid$Grid" "frictions" "[I", Cond.static yX4_aimOf, Cond.code yX4_aimOf cX4_aimOf 4 (some .int), Cond.static yX4_ahead, Cond.code yX4_ahead cX4_ahead 2 (some .int), Cond.methodLink RX4 184 yX2_obeyingCount, Cond.instanceMethod yX2_obeyingCount, Cond.selects RX2 yX2_obeyingCount yX2_obeyingCount]
def wsX4_digest_r3 : List Cond := [Cond.code yX2_obeyingCount cX2_obeyingCount 3 (some .int), Cond.methodLink RX2 89 yX2_aim, Cond.instanceMethod yX2_aim, Cond.selects RX2 yX2_aim yX2_aim, Cond.code yX2_aim cX2_aim 2 (some .int), Cond.methodLink RX4 187 yX2_awayTogether, Cond.instanceMethod yX2_awayTogether, Cond.selects RX2 yX2_awayTogether yX2_awayTogether, Cond.code yX2_awayTogether cX2_awayTogether 4 (some .int), Cond.methodLink RX2 111 yX2_awayFromAim, Cond.instanceMethod yX2_awayFromAim, Cond.selects RX2 yX2_awayFromAim yX2_awayFromAim, Cond.code yX2_awayFromAim cX2_awayFromAim 4 (some .int), Cond.methodLink RX4 214 yX4_mixed, Cond.static yX4_mixed, Cond.code yX4_mixed cX4_mixed 4 (some .long), Cond.constantLong RX4 267 (31), Cond.methodLink RX4 218 yX4_setting, Cond.instanceMethod yX4_setting, Cond.selects RX4 yX4_setting yX4_setting, Cond.code yX4_setting cX4_setting 2 (some .int), Cond.methodLink RX4 99 yX4_requireSetting, Cond.static yX4_requireSetting, Cond.code yX4_requireSetting cX4_requireSetting 1 none]
def wsX4_digest_r4 : List Cond := [Cond.classLink RX4 275 "java/lang/IndexOutOfBoundsException", Cond.initialized "java/lang/IndexOutOfBoundsException", Cond.methodLink RX4 221 yX4_withCells, Cond.instanceMethod yX4_withCells, Cond.selects RX4 yX4_withCells yX4_withCells, Cond.code yX4_withCells cX4_withCells 7 (some .long), Cond.methodLink RX4 258 yX4_cell, Cond.instanceMethod yX4_cell, Cond.selects RX4 yX4_cell yX4_cell, Cond.code yX4_cell cX4_cell 3 (some .int), Cond.constant RX4 149 (100000), Cond.methodLink RX4 33 yX4_requireCell, Cond.static yX4_requireCell, Cond.code yX4_requireCell cX4_requireCell 1 none, Cond.methodLink RX4 153 yX2_aim, Cond.methodLink RX4 156 yX2_wouldTurn, Cond.methodLink RX4 159 yX2_awayFromAim, Cond.methodLink RX4 225 yX4_withBars, Cond.instanceMethod yX4_withBars, Cond.selects RX4 yX4_withBars yX4_withBars, Cond.code yX4_withBars cX4_withBars 8 (some .long), Cond.methodLink RX4 261 yX4_barOf, Cond.instanceMethod yX4_barOf, Cond.selects RX4 yX4_barOf yX4_barOf]
def wsX4_digest_r5 : List Cond := [Cond.code yX4_barOf cX4_barOf 4 (some .int), Cond.methodLink RX4 51 yX4_requireBetween, Cond.static yX4_requireBetween, Cond.code yX4_requireBetween cX4_requireBetween 3 none, Cond.methodLink RX4 166 yX2_cellOfBar, Cond.instanceMethod yX2_cellOfBar, Cond.selects RX2 yX2_cellOfBar yX2_cellOfBar, Cond.code yX2_cellOfBar cX2_cellOfBar 4 (some .int), Cond.methodLink RX4 228 yX4_pointing, Cond.instanceMethod yX4_pointing, Cond.selects RX4 yX4_pointing yX4_pointing, Cond.code yX4_pointing cX4_pointing 2 (some .int), Cond.methodLink RX4 37 yX4_requireDirection, Cond.static yX4_requireDirection, Cond.code yX4_requireDirection cX4_requireDirection 1 none, Cond.methodLink RX4 192 yX2_pointingCount, Cond.instanceMethod yX2_pointingCount, Cond.selects RX2 yX2_pointingCount yX2_pointingCount, Cond.code yX2_pointingCount cX2_pointingCount 4 (some .int), Cond.methodLink RX4 231 yX4_restsIn, Cond.instanceMethod yX4_restsIn, Cond.selects RX4 yX4_restsIn yX4_restsIn, Cond.code yX4_restsIn cX4_restsIn 2 (some .int), Cond.fieldLink RX4 16 "NeedleGrid" "trial" "LNeedleGrid$Grid;"]
def wsX4_digest_r6 : List Cond := [Cond.methodLink RX4 195 yX2_copyFrom, Cond.instanceMethod yX2_copyFrom, Cond.selects RX2 yX2_copyFrom yX2_copyFrom, Cond.code yX2_copyFrom cX2_copyFrom 3 none, Cond.fieldLink RX2 22 "NeedleGrid$Grid" "barDirections" "[I", Cond.fieldLink RX2 31 "NeedleGrid$Grid" "stillX" "[I", Cond.fieldLink RX2 34 "NeedleGrid$Grid" "stillY" "[I", Cond.fieldLink RX2 28 "NeedleGrid$Grid" "settings" "[I", Cond.fieldLink RX2 46 "NeedleGrid$Grid" "turns" "I", Cond.fieldLink RX2 50 "NeedleGrid$Grid" "coilDirection" "I", Cond.fieldLink RX2 53 "NeedleGrid$Grid" "stepsSoFar" "I", Cond.methodLink RX4 108 yX2_letGoBy, Cond.instanceMethod yX2_letGoBy, Cond.selects RX2 yX2_letGoBy yX2_letGoBy, Cond.code yX2_letGoBy cX2_letGoBy 4 (some .int), Cond.methodLink RX2 98 yX2_turnAll, Cond.instanceMethod yX2_turnAll, Cond.selects RX2 yX2_turnAll yX2_turnAll, Cond.code yX2_turnAll cX2_turnAll 4 (some .int), Cond.methodLink RX2 71 yX2_measureField, Cond.instanceMethod yX2_measureField, Cond.selects RX2 yX2_measureField yX2_measureField, Cond.code yX2_measureField cX2_measureField 2 none, Cond.methodLink RX2 78 yX2_addNeedleToNeighbours]
def wsX4_digest_r7 : List Cond := [Cond.instanceMethod yX2_addNeedleToNeighbours, Cond.selects RX2 yX2_addNeedleToNeighbours yX2_addNeedleToNeighbours, Cond.code yX2_addNeedleToNeighbours cX2_addNeedleToNeighbours 5 none, Cond.static yX4_across, Cond.code yX4_across cX4_across 1 (some .int), Cond.fieldLink RX4 284 "NeedleGrid" "ACROSS" "[I", Cond.static yX4_down, Cond.code yX4_down cX4_down 1 (some .int), Cond.fieldLink RX4 287 "NeedleGrid" "DOWN" "[I", Cond.methodLink RX2 81 yX2_addToField, Cond.instanceMethod yX2_addToField, Cond.selects RX2 yX2_addToField yX2_addToField, Cond.code yX2_addToField cX2_addToField 4 none, Cond.methodLink RX4 234 yX4_points, Cond.instanceMethod yX4_points, Cond.selects RX4 yX4_points yX4_points, Cond.code yX4_points cX4_points 3 (some .int), Cond.methodLink RX4 237 yX4_ifBar, Cond.instanceMethod yX4_ifBar, Cond.selects RX4 yX4_ifBar yX4_ifBar, Cond.code yX4_ifBar cX4_ifBar 6 (some .int), Cond.methodLink RX4 198 yX2_aimIfBar, Cond.instanceMethod yX2_aimIfBar, Cond.selects RX2 yX2_aimIfBar yX2_aimIfBar]
def wsX4_digest_r8 : List Cond := [Cond.code yX2_aimIfBar cX2_aimIfBar 10 (some .int), Cond.static yX4_pull, Cond.code yX4_pull cX4_pull 12 (some .int), Cond.methodLink RX4 290 yX4_across, Cond.methodLink RX4 293 yX4_down, Cond.methodLink RX4 241 yX4_bestBar, Cond.instanceMethod yX4_bestBar, Cond.selects RX4 yX4_bestBar yX4_bestBar, Cond.code yX4_bestBar cX4_bestBar 6 (some .int), Cond.methodLink RX4 244 yX4_leastTurns, Cond.instanceMethod yX4_leastTurns, Cond.selects RX4 yX4_leastTurns yX4_leastTurns, Cond.code yX4_leastTurns cX4_leastTurns 3 (some .int), Cond.methodLink RX4 202 yX2_aimIfTurns, Cond.instanceMethod yX2_aimIfTurns, Cond.selects RX2 yX2_aimIfTurns yX2_aimIfTurns, Cond.code yX2_aimIfTurns cX2_aimIfTurns 6 (some .int), Cond.methodLink RX4 247 yX4_obedience, Cond.instanceMethod yX4_obedience, Cond.selects RX4 yX4_obedience yX4_obedience, Cond.code yX4_obedience cX4_obedience 2 (some .double), Cond.methodLink RX4 206 yX2_aimedCount, Cond.instanceMethod yX2_aimedCount, Cond.selects RX2 yX2_aimedCount yX2_aimedCount]
def wsX4_digest_r9 : List Cond := [Cond.code yX2_aimedCount cX2_aimedCount 3 (some .int), Cond.methodLink RX4 251 yX4_bitsOf, Cond.static yX4_bitsOf, Cond.code yX4_bitsOf cX4_bitsOf 6 (some .long), Cond.constantLong RX4 269 (1023), Cond.constantDouble RX4 271 (4611686018427387904), Cond.constantDouble RX4 273 (4841369599423283200), Cond.methodLink RX4 255 yX4_withBuffer, Cond.instanceMethod yX4_withBuffer, Cond.selects RX4 yX4_withBuffer yX4_withBuffer, Cond.code yX4_withBuffer cX4_withBuffer 6 (some .long), Cond.fieldLink RX4 29 "NeedleGrid" "text" "LNeedleGrid$BarText;"]
def wsX4_digest : List Cond := .code yX4_digest cX4_digest 4 (some .long) :: ((wsX4_digest_r1 ++ (wsX4_digest_r2 ++ (wsX4_digest_r3 ++ (wsX4_digest_r4 ++ (wsX4_digest_r5 ++ (wsX4_digest_r6 ++ (wsX4_digest_r7 ++ (wsX4_digest_r8 ++ wsX4_digest_r9)))))))) ++ wsX40 ++ wsX20 ++ wsX30 ++ wsX10 ++ (vx_atS RX4 131 "java/lang/IllegalArgumentException" ["java/lang/RuntimeException", "java/lang/Exception"]).filter goodWord ++ (vx_atS RX4 279 "java/lang/IndexOutOfBoundsException" ["java/lang/RuntimeException", "java/lang/Exception"]).filter goodWord)
def wsX5_init : List Cond := .code yX5_init cX5_init 2 none :: ([.methodLink RX5 1 objectInit, .instanceMethod objectInit, .code objectInit ⟨#[0xb1]⟩ 1 none, .arrayClass .int, .fieldLink RX5 7 "NeedleGridModel" "now" "[I", .fieldLink RX5 13 "NeedleGridModel" "then" "[I", .fieldLink RX5 16 "NeedleGridModel" "past" "[I", .fieldLink RX5 19 "NeedleGridModel" "text" "[I", .fieldLink RX5 22 "NeedleGridModel" "told" "[I", .fieldLink RX5 25 "NeedleGridModel" "next" "[I"] ++ wsX50)
def wsX5_thrown : List Cond := .code yX5_thrown cX5_thrown 1 (some .int) :: ([.fieldLink RX5 28 "NeedleGridModel" "thrown" "I"] ++ wsX50)
def wsX5_fails : List Cond := .code yX5_fails cX5_fails 2 (some .int) :: ([.fieldLink RX5 28 "NeedleGridModel" "thrown" "I"] ++ wsX50)
def wsX5_in : List Cond := .code yX5_in cX5_in 3 (some .boolean) :: ([])
def wsX5_isCell : List Cond := .code yX5_isCell cX5_isCell 1 (some .boolean) :: ([.methodLink RX5 32 yX5_in, .static yX5_in, .initialized RX5, .code yX5_in cX5_in 3 (some .boolean)])
def wsX5_isDirection : List Cond := .code yX5_isDirection cX5_isDirection 1 (some .boolean) :: ([.methodLink RX5 32 yX5_in, .static yX5_in, .initialized RX5, .code yX5_in cX5_in 3 (some .boolean)])
def wsX5_size : List Cond := .code yX5_size cX5_size 1 (some .int) :: ([])
def wsX5_copies : List Cond := .code yX5_copies cX5_copies 5 none :: ([])
def wsX5_saves : List Cond := .code yX5_saves cX5_saves 2 none :: ([.fieldLink RX5 36 "NeedleGridModel" "kept" "I", .fieldLink RX5 16 "NeedleGridModel" "past" "[I", .fieldLink RX5 7 "NeedleGridModel" "now" "[I", .methodLink RX5 39 yX5_copies, .static yX5_copies, .initialized RX5, .code yX5_copies cX5_copies 5 none] ++ wsX50)
def wsX5_undo : List Cond := .code yX5_undo cX5_undo 1 (some .int) :: ([.fieldLink RX5 28 "NeedleGridModel" "thrown" "I", .fieldLink RX5 36 "NeedleGridModel" "kept" "I", .fieldLink RX5 16 "NeedleGridModel" "past" "[I", .fieldLink RX5 7 "NeedleGridModel" "now" "[I", .methodLink RX5 43 yX5_fails, .instanceMethod yX5_fails, .selects RX5 yX5_fails yX5_fails, .initialized RX5, .code yX5_fails cX5_fails 2 (some .int), .methodLink RX5 39 yX5_copies, .static yX5_copies, .code yX5_copies cX5_copies 5 none] ++ wsX50)
def wsX5_xOf : List Cond := .code yX5_xOf cX5_xOf 1 (some .int) :: ([.methodLink RX5 32 yX5_in, .static yX5_in, .initialized RX5, .code yX5_in cX5_in 3 (some .boolean)])
def wsX5_yOf : List Cond := .code yX5_yOf cX5_yOf 1 (some .int) :: ([.methodLink RX5 32 yX5_in, .static yX5_in, .initialized RX5, .code yX5_in cX5_in 3 (some .boolean)])
def wsX5_adds : List Cond := .code yX5_adds cX5_adds 3 none :: ([.fieldLink RX5 47 "NeedleGridModel" "fx" "I", .fieldLink RX5 53 "NeedleGridModel" "fy" "I", .methodLink RX5 50 yX5_xOf, .static yX5_xOf, .initialized RX5, .code yX5_xOf cX5_xOf 1 (some .int), .methodLink RX5 32 yX5_in, .static yX5_in, .code yX5_in cX5_in 3 (some .boolean), .methodLink RX5 56 yX5_yOf, .static yX5_yOf, .code yX5_yOf cX5_yOf 1 (some .int)] ++ wsX50)
def wsX5_addsBar : List Cond := .code yX5_addsBar cX5_addsBar 11 none :: ([.methodLink RX5 50 yX5_xOf, .static yX5_xOf, .initialized RX5, .code yX5_xOf cX5_xOf 1 (some .int), .methodLink RX5 32 yX5_in, .static yX5_in, .code yX5_in cX5_in 3 (some .boolean), .methodLink RX5 56 yX5_yOf, .static yX5_yOf, .code yX5_yOf cX5_yOf 1 (some .int), .methodLink RX5 59 yX5_adds, .instanceMethod yX5_adds, .selects RX5 yX5_adds yX5_adds, .code yX5_adds cX5_adds 3 none, .fieldLink RX5 47 "NeedleGridModel" "fx" "I", .fieldLink RX5 53 "NeedleGridModel" "fy" "I"] ++ wsX50)
def wsX5_lays : List Cond := .code yX5_lays cX5_lays 5 none :: ([.fieldLink RX5 47 "NeedleGridModel" "fx" "I", .fieldLink RX5 53 "NeedleGridModel" "fy" "I", .methodLink RX5 59 yX5_adds, .instanceMethod yX5_adds, .selects RX5 yX5_adds yX5_adds, .initialized RX5, .code yX5_adds cX5_adds 3 none, .methodLink RX5 50 yX5_xOf, .static yX5_xOf, .code yX5_xOf cX5_xOf 1 (some .int), .methodLink RX5 32 yX5_in, .static yX5_in, .code yX5_in cX5_in 3 (some .boolean), .methodLink RX5 56 yX5_yOf, .static yX5_yOf, .code yX5_yOf cX5_yOf 1 (some .int), .methodLink RX5 63 yX5_addsBar, .instanceMethod yX5_addsBar, .selects RX5 yX5_addsBar yX5_addsBar, .code yX5_addsBar cX5_addsBar 11 none, .methodLink RX5 67 yX5_size, .static yX5_size, .code yX5_size cX5_size 1 (some .int)] ++ wsX50)
def wsX5_aim_r1 : List Cond := [Cond.fieldLink RX5 47 "NeedleGridModel" "fx" "I", Cond.fieldLink RX5 53 "NeedleGridModel" "fy" "I", Cond.methodLink RX5 70 yX5_lays, Cond.instanceMethod yX5_lays, Cond.selects RX5 yX5_lays yX5_lays, Cond.initialized RX5, Cond.code yX5_lays cX5_lays 5 none, Cond.methodLink RX5 59 yX5_adds, Cond.instanceMethod yX5_adds, Cond.selects RX5 yX5_adds yX5_adds, Cond.code yX5_adds cX5_adds 3 none, Cond.methodLink RX5 50 yX5_xOf, Cond.static yX5_xOf, Cond.code yX5_xOf cX5_xOf 1 (some .int), Cond.methodLink RX5 32 yX5_in, Cond.static yX5_in, Cond.code yX5_in cX5_in 3 (some .boolean), Cond.methodLink RX5 56 yX5_yOf, Cond.static yX5_yOf, Cond.code yX5_yOf cX5_yOf 1 (some .int), Cond.methodLink RX5 63 yX5_addsBar, Cond.instanceMethod yX5_addsBar, Cond.selects RX5 yX5_addsBar yX5_addsBar, Cond.code yX5_addsBar cX5_addsBar 11 none]
def wsX5_aim_r2 : List Cond := [Cond.methodLink RX5 67 yX5_size, Cond.static yX5_size, Cond.code yX5_size cX5_size 1 (some .int)]
def wsX5_aim : List Cond := .code yX5_aim cX5_aim 5 (some .int) :: ((wsX5_aim_r1 ++ wsX5_aim_r2) ++ wsX50)
def wsX5_turned_r1 : List Cond := [Cond.fieldLink RX5 47 "NeedleGridModel" "fx" "I", Cond.fieldLink RX5 53 "NeedleGridModel" "fy" "I", Cond.methodLink RX5 74 yX5_aim, Cond.instanceMethod yX5_aim, Cond.selects RX5 yX5_aim yX5_aim, Cond.initialized RX5, Cond.code yX5_aim cX5_aim 5 (some .int), Cond.methodLink RX5 70 yX5_lays, Cond.instanceMethod yX5_lays, Cond.selects RX5 yX5_lays yX5_lays, Cond.code yX5_lays cX5_lays 5 none, Cond.methodLink RX5 59 yX5_adds, Cond.instanceMethod yX5_adds, Cond.selects RX5 yX5_adds yX5_adds, Cond.code yX5_adds cX5_adds 3 none, Cond.methodLink RX5 50 yX5_xOf, Cond.static yX5_xOf, Cond.code yX5_xOf cX5_xOf 1 (some .int), Cond.methodLink RX5 32 yX5_in, Cond.static yX5_in, Cond.code yX5_in cX5_in 3 (some .boolean), Cond.methodLink RX5 56 yX5_yOf, Cond.static yX5_yOf, Cond.code yX5_yOf cX5_yOf 1 (some .int)]
def wsX5_turned_r2 : List Cond := [Cond.methodLink RX5 63 yX5_addsBar, Cond.instanceMethod yX5_addsBar, Cond.selects RX5 yX5_addsBar yX5_addsBar, Cond.code yX5_addsBar cX5_addsBar 11 none, Cond.methodLink RX5 67 yX5_size, Cond.static yX5_size, Cond.code yX5_size cX5_size 1 (some .int)]
def wsX5_turned : List Cond := .code yX5_turned cX5_turned 5 (some .int) :: ((wsX5_turned_r1 ++ wsX5_turned_r2) ++ wsX50)
def wsX5_allTurn_r1 : List Cond := [Cond.fieldLink RX5 25 "NeedleGridModel" "next" "[I", Cond.methodLink RX5 78 yX5_turned, Cond.instanceMethod yX5_turned, Cond.selects RX5 yX5_turned yX5_turned, Cond.initialized RX5, Cond.code yX5_turned cX5_turned 5 (some .int), Cond.fieldLink RX5 47 "NeedleGridModel" "fx" "I", Cond.fieldLink RX5 53 "NeedleGridModel" "fy" "I", Cond.methodLink RX5 74 yX5_aim, Cond.instanceMethod yX5_aim, Cond.selects RX5 yX5_aim yX5_aim, Cond.code yX5_aim cX5_aim 5 (some .int), Cond.methodLink RX5 70 yX5_lays, Cond.instanceMethod yX5_lays, Cond.selects RX5 yX5_lays yX5_lays, Cond.code yX5_lays cX5_lays 5 none, Cond.methodLink RX5 59 yX5_adds, Cond.instanceMethod yX5_adds, Cond.selects RX5 yX5_adds yX5_adds, Cond.code yX5_adds cX5_adds 3 none, Cond.methodLink RX5 50 yX5_xOf, Cond.static yX5_xOf, Cond.code yX5_xOf cX5_xOf 1 (some .int), Cond.methodLink RX5 32 yX5_in]
def wsX5_allTurn_r2 : List Cond := [Cond.static yX5_in, Cond.code yX5_in cX5_in 3 (some .boolean), Cond.methodLink RX5 56 yX5_yOf, Cond.static yX5_yOf, Cond.code yX5_yOf cX5_yOf 1 (some .int), Cond.methodLink RX5 63 yX5_addsBar, Cond.instanceMethod yX5_addsBar, Cond.selects RX5 yX5_addsBar yX5_addsBar, Cond.code yX5_addsBar cX5_addsBar 11 none, Cond.methodLink RX5 67 yX5_size, Cond.static yX5_size, Cond.code yX5_size cX5_size 1 (some .int)]
def wsX5_allTurn : List Cond := .code yX5_allTurn cX5_allTurn 4 (some .int) :: ((wsX5_allTurn_r1 ++ wsX5_allTurn_r2) ++ wsX50)
def wsX5_away_r1 : List Cond := [Cond.methodLink RX5 74 yX5_aim, Cond.instanceMethod yX5_aim, Cond.selects RX5 yX5_aim yX5_aim, Cond.initialized RX5, Cond.code yX5_aim cX5_aim 5 (some .int), Cond.fieldLink RX5 47 "NeedleGridModel" "fx" "I", Cond.fieldLink RX5 53 "NeedleGridModel" "fy" "I", Cond.methodLink RX5 70 yX5_lays, Cond.instanceMethod yX5_lays, Cond.selects RX5 yX5_lays yX5_lays, Cond.code yX5_lays cX5_lays 5 none, Cond.methodLink RX5 59 yX5_adds, Cond.instanceMethod yX5_adds, Cond.selects RX5 yX5_adds yX5_adds, Cond.code yX5_adds cX5_adds 3 none, Cond.methodLink RX5 50 yX5_xOf, Cond.static yX5_xOf, Cond.code yX5_xOf cX5_xOf 1 (some .int), Cond.methodLink RX5 32 yX5_in, Cond.static yX5_in, Cond.code yX5_in cX5_in 3 (some .boolean), Cond.methodLink RX5 56 yX5_yOf, Cond.static yX5_yOf, Cond.code yX5_yOf cX5_yOf 1 (some .int)]
def wsX5_away_r2 : List Cond := [Cond.methodLink RX5 63 yX5_addsBar, Cond.instanceMethod yX5_addsBar, Cond.selects RX5 yX5_addsBar yX5_addsBar, Cond.code yX5_addsBar cX5_addsBar 11 none, Cond.methodLink RX5 67 yX5_size, Cond.static yX5_size, Cond.code yX5_size cX5_size 1 (some .int)]
def wsX5_away : List Cond := .code yX5_away cX5_away 5 (some .int) :: ((wsX5_away_r1 ++ wsX5_away_r2) ++ wsX50)
def wsX5_changes : List Cond := .code yX5_changes cX5_changes 4 (some .int) :: ([.fieldLink RX5 7 "NeedleGridModel" "now" "[I"] ++ wsX50)
def wsX5_needle_r1 : List Cond := [Cond.fieldLink RX5 28 "NeedleGridModel" "thrown" "I", Cond.methodLink RX5 81 yX5_isCell, Cond.static yX5_isCell, Cond.initialized RX5, Cond.code yX5_isCell cX5_isCell 1 (some .boolean), Cond.methodLink RX5 32 yX5_in, Cond.static yX5_in, Cond.code yX5_in cX5_in 3 (some .boolean), Cond.methodLink RX5 43 yX5_fails, Cond.instanceMethod yX5_fails, Cond.selects RX5 yX5_fails yX5_fails, Cond.code yX5_fails cX5_fails 2 (some .int), Cond.methodLink RX5 85 yX5_isDirection, Cond.static yX5_isDirection, Cond.code yX5_isDirection cX5_isDirection 1 (some .boolean), Cond.methodLink RX5 88 yX5_saves, Cond.instanceMethod yX5_saves, Cond.selects RX5 yX5_saves yX5_saves, Cond.code yX5_saves cX5_saves 2 none, Cond.fieldLink RX5 36 "NeedleGridModel" "kept" "I", Cond.fieldLink RX5 16 "NeedleGridModel" "past" "[I", Cond.fieldLink RX5 7 "NeedleGridModel" "now" "[I", Cond.methodLink RX5 39 yX5_copies, Cond.static yX5_copies]
def wsX5_needle_r2 : List Cond := [Cond.code yX5_copies cX5_copies 5 none, Cond.methodLink RX5 91 yX5_changes, Cond.instanceMethod yX5_changes, Cond.selects RX5 yX5_changes yX5_changes, Cond.code yX5_changes cX5_changes 4 (some .int)]
def wsX5_needle : List Cond := .code yX5_needle cX5_needle 3 (some .int) :: ((wsX5_needle_r1 ++ wsX5_needle_r2) ++ wsX50)
def wsX5_friction_r1 : List Cond := [Cond.fieldLink RX5 28 "NeedleGridModel" "thrown" "I", Cond.methodLink RX5 81 yX5_isCell, Cond.static yX5_isCell, Cond.initialized RX5, Cond.code yX5_isCell cX5_isCell 1 (some .boolean), Cond.methodLink RX5 32 yX5_in, Cond.static yX5_in, Cond.code yX5_in cX5_in 3 (some .boolean), Cond.methodLink RX5 43 yX5_fails, Cond.instanceMethod yX5_fails, Cond.selects RX5 yX5_fails yX5_fails, Cond.code yX5_fails cX5_fails 2 (some .int), Cond.methodLink RX5 88 yX5_saves, Cond.instanceMethod yX5_saves, Cond.selects RX5 yX5_saves yX5_saves, Cond.code yX5_saves cX5_saves 2 none, Cond.fieldLink RX5 36 "NeedleGridModel" "kept" "I", Cond.fieldLink RX5 16 "NeedleGridModel" "past" "[I", Cond.fieldLink RX5 7 "NeedleGridModel" "now" "[I", Cond.methodLink RX5 39 yX5_copies, Cond.static yX5_copies, Cond.code yX5_copies cX5_copies 5 none, Cond.methodLink RX5 91 yX5_changes, Cond.instanceMethod yX5_changes]
def wsX5_friction_r2 : List Cond := [Cond.selects RX5 yX5_changes yX5_changes, Cond.code yX5_changes cX5_changes 4 (some .int)]
def wsX5_friction : List Cond := .code yX5_friction cX5_friction 3 (some .int) :: ((wsX5_friction_r1 ++ wsX5_friction_r2) ++ wsX50)
def wsX5_hold_r1 : List Cond := [Cond.fieldLink RX5 28 "NeedleGridModel" "thrown" "I", Cond.methodLink RX5 81 yX5_isCell, Cond.static yX5_isCell, Cond.initialized RX5, Cond.code yX5_isCell cX5_isCell 1 (some .boolean), Cond.methodLink RX5 32 yX5_in, Cond.static yX5_in, Cond.code yX5_in cX5_in 3 (some .boolean), Cond.methodLink RX5 43 yX5_fails, Cond.instanceMethod yX5_fails, Cond.selects RX5 yX5_fails yX5_fails, Cond.code yX5_fails cX5_fails 2 (some .int), Cond.methodLink RX5 88 yX5_saves, Cond.instanceMethod yX5_saves, Cond.selects RX5 yX5_saves yX5_saves, Cond.code yX5_saves cX5_saves 2 none, Cond.fieldLink RX5 36 "NeedleGridModel" "kept" "I", Cond.fieldLink RX5 16 "NeedleGridModel" "past" "[I", Cond.fieldLink RX5 7 "NeedleGridModel" "now" "[I", Cond.methodLink RX5 39 yX5_copies, Cond.static yX5_copies, Cond.code yX5_copies cX5_copies 5 none, Cond.methodLink RX5 91 yX5_changes, Cond.instanceMethod yX5_changes]
def wsX5_hold_r2 : List Cond := [Cond.selects RX5 yX5_changes yX5_changes, Cond.code yX5_changes cX5_changes 4 (some .int)]
def wsX5_hold : List Cond := .code yX5_hold cX5_hold 3 (some .int) :: ((wsX5_hold_r1 ++ wsX5_hold_r2) ++ wsX50)
def wsX5_swap_r1 : List Cond := [Cond.fieldLink RX5 28 "NeedleGridModel" "thrown" "I", Cond.fieldLink RX5 7 "NeedleGridModel" "now" "[I", Cond.methodLink RX5 81 yX5_isCell, Cond.static yX5_isCell, Cond.initialized RX5, Cond.code yX5_isCell cX5_isCell 1 (some .boolean), Cond.methodLink RX5 32 yX5_in, Cond.static yX5_in, Cond.code yX5_in cX5_in 3 (some .boolean), Cond.methodLink RX5 43 yX5_fails, Cond.instanceMethod yX5_fails, Cond.selects RX5 yX5_fails yX5_fails, Cond.code yX5_fails cX5_fails 2 (some .int), Cond.methodLink RX5 88 yX5_saves, Cond.instanceMethod yX5_saves, Cond.selects RX5 yX5_saves yX5_saves, Cond.code yX5_saves cX5_saves 2 none, Cond.fieldLink RX5 36 "NeedleGridModel" "kept" "I", Cond.fieldLink RX5 16 "NeedleGridModel" "past" "[I", Cond.methodLink RX5 39 yX5_copies, Cond.static yX5_copies, Cond.code yX5_copies cX5_copies 5 none, Cond.methodLink RX5 91 yX5_changes, Cond.instanceMethod yX5_changes]
def wsX5_swap_r2 : List Cond := [Cond.selects RX5 yX5_changes yX5_changes, Cond.code yX5_changes cX5_changes 4 (some .int)]
def wsX5_swap : List Cond := .code yX5_swap cX5_swap 3 (some .int) :: ((wsX5_swap_r1 ++ wsX5_swap_r2) ++ wsX50)
def wsX5_lying : List Cond := .code yX5_lying cX5_lying 3 (some .int) :: ([])
def wsX5_isBar : List Cond := .code yX5_isBar cX5_isBar 2 (some .boolean) :: ([.methodLink RX5 85 yX5_isDirection, .static yX5_isDirection, .initialized RX5, .code yX5_isDirection cX5_isDirection 1 (some .boolean), .methodLink RX5 32 yX5_in, .static yX5_in, .code yX5_in cX5_in 3 (some .boolean)])
def wsX5_laysBar : List Cond := .code yX5_laysBar cX5_laysBar 4 none :: ([])
def wsX5_bar_r1 : List Cond := [Cond.fieldLink RX5 28 "NeedleGridModel" "thrown" "I", Cond.fieldLink RX5 7 "NeedleGridModel" "now" "[I", Cond.methodLink RX5 81 yX5_isCell, Cond.static yX5_isCell, Cond.initialized RX5, Cond.code yX5_isCell cX5_isCell 1 (some .boolean), Cond.methodLink RX5 32 yX5_in, Cond.static yX5_in, Cond.code yX5_in cX5_in 3 (some .boolean), Cond.methodLink RX5 43 yX5_fails, Cond.instanceMethod yX5_fails, Cond.selects RX5 yX5_fails yX5_fails, Cond.code yX5_fails cX5_fails 2 (some .int), Cond.methodLink RX5 95 yX5_isBar, Cond.static yX5_isBar, Cond.code yX5_isBar cX5_isBar 2 (some .boolean), Cond.methodLink RX5 85 yX5_isDirection, Cond.static yX5_isDirection, Cond.code yX5_isDirection cX5_isDirection 1 (some .boolean), Cond.methodLink RX5 99 yX5_lying, Cond.static yX5_lying, Cond.code yX5_lying cX5_lying 3 (some .int), Cond.methodLink RX5 88 yX5_saves, Cond.instanceMethod yX5_saves]
def wsX5_bar_r2 : List Cond := [Cond.selects RX5 yX5_saves yX5_saves, Cond.code yX5_saves cX5_saves 2 none, Cond.fieldLink RX5 36 "NeedleGridModel" "kept" "I", Cond.fieldLink RX5 16 "NeedleGridModel" "past" "[I", Cond.methodLink RX5 39 yX5_copies, Cond.static yX5_copies, Cond.code yX5_copies cX5_copies 5 none, Cond.methodLink RX5 103 yX5_laysBar, Cond.static yX5_laysBar, Cond.code yX5_laysBar cX5_laysBar 4 none]
def wsX5_bar : List Cond := .code yX5_bar cX5_bar 4 (some .int) :: ((wsX5_bar_r1 ++ wsX5_bar_r2) ++ wsX50)
def wsX5_unbar_r1 : List Cond := [Cond.fieldLink RX5 28 "NeedleGridModel" "thrown" "I", Cond.fieldLink RX5 7 "NeedleGridModel" "now" "[I", Cond.methodLink RX5 81 yX5_isCell, Cond.static yX5_isCell, Cond.initialized RX5, Cond.code yX5_isCell cX5_isCell 1 (some .boolean), Cond.methodLink RX5 32 yX5_in, Cond.static yX5_in, Cond.code yX5_in cX5_in 3 (some .boolean), Cond.methodLink RX5 43 yX5_fails, Cond.instanceMethod yX5_fails, Cond.selects RX5 yX5_fails yX5_fails, Cond.code yX5_fails cX5_fails 2 (some .int), Cond.methodLink RX5 88 yX5_saves, Cond.instanceMethod yX5_saves, Cond.selects RX5 yX5_saves yX5_saves, Cond.code yX5_saves cX5_saves 2 none, Cond.fieldLink RX5 36 "NeedleGridModel" "kept" "I", Cond.fieldLink RX5 16 "NeedleGridModel" "past" "[I", Cond.methodLink RX5 39 yX5_copies, Cond.static yX5_copies, Cond.code yX5_copies cX5_copies 5 none, Cond.methodLink RX5 103 yX5_laysBar, Cond.static yX5_laysBar]
def wsX5_unbar_r2 : List Cond := [Cond.code yX5_laysBar cX5_laysBar 4 none, Cond.methodLink RX5 99 yX5_lying, Cond.static yX5_lying, Cond.code yX5_lying cX5_lying 3 (some .int)]
def wsX5_unbar : List Cond := .code yX5_unbar cX5_unbar 2 (some .int) :: ((wsX5_unbar_r1 ++ wsX5_unbar_r2) ++ wsX50)
def wsX5_coil_r1 : List Cond := [Cond.fieldLink RX5 28 "NeedleGridModel" "thrown" "I", Cond.fieldLink RX5 7 "NeedleGridModel" "now" "[I", Cond.methodLink RX5 32 yX5_in, Cond.static yX5_in, Cond.initialized RX5, Cond.code yX5_in cX5_in 3 (some .boolean), Cond.methodLink RX5 85 yX5_isDirection, Cond.static yX5_isDirection, Cond.code yX5_isDirection cX5_isDirection 1 (some .boolean), Cond.methodLink RX5 43 yX5_fails, Cond.instanceMethod yX5_fails, Cond.selects RX5 yX5_fails yX5_fails, Cond.code yX5_fails cX5_fails 2 (some .int), Cond.methodLink RX5 88 yX5_saves, Cond.instanceMethod yX5_saves, Cond.selects RX5 yX5_saves yX5_saves, Cond.code yX5_saves cX5_saves 2 none, Cond.fieldLink RX5 36 "NeedleGridModel" "kept" "I", Cond.fieldLink RX5 16 "NeedleGridModel" "past" "[I", Cond.methodLink RX5 39 yX5_copies, Cond.static yX5_copies, Cond.code yX5_copies cX5_copies 5 none, Cond.methodLink RX5 91 yX5_changes, Cond.instanceMethod yX5_changes]
def wsX5_coil_r2 : List Cond := [Cond.selects RX5 yX5_changes yX5_changes, Cond.code yX5_changes cX5_changes 4 (some .int)]
def wsX5_coil : List Cond := .code yX5_coil cX5_coil 3 (some .int) :: ((wsX5_coil_r1 ++ wsX5_coil_r2) ++ wsX50)
def wsX5_set : List Cond := .code yX5_set cX5_set 3 (some .int) :: ([.fieldLink RX5 28 "NeedleGridModel" "thrown" "I", .methodLink RX5 32 yX5_in, .static yX5_in, .initialized RX5, .code yX5_in cX5_in 3 (some .boolean), .methodLink RX5 43 yX5_fails, .instanceMethod yX5_fails, .selects RX5 yX5_fails yX5_fails, .code yX5_fails cX5_fails 2 (some .int), .methodLink RX5 88 yX5_saves, .instanceMethod yX5_saves, .selects RX5 yX5_saves yX5_saves, .code yX5_saves cX5_saves 2 none, .fieldLink RX5 36 "NeedleGridModel" "kept" "I", .fieldLink RX5 16 "NeedleGridModel" "past" "[I", .fieldLink RX5 7 "NeedleGridModel" "now" "[I", .methodLink RX5 39 yX5_copies, .static yX5_copies, .code yX5_copies cX5_copies 5 none, .methodLink RX5 91 yX5_changes, .instanceMethod yX5_changes, .selects RX5 yX5_changes yX5_changes, .code yX5_changes cX5_changes 4 (some .int)] ++ wsX50)
def wsX5_step_r1 : List Cond := [Cond.fieldLink RX5 28 "NeedleGridModel" "thrown" "I", Cond.fieldLink RX5 7 "NeedleGridModel" "now" "[I", Cond.methodLink RX5 32 yX5_in, Cond.static yX5_in, Cond.initialized RX5, Cond.code yX5_in cX5_in 3 (some .boolean), Cond.methodLink RX5 43 yX5_fails, Cond.instanceMethod yX5_fails, Cond.selects RX5 yX5_fails yX5_fails, Cond.code yX5_fails cX5_fails 2 (some .int), Cond.methodLink RX5 88 yX5_saves, Cond.instanceMethod yX5_saves, Cond.selects RX5 yX5_saves yX5_saves, Cond.code yX5_saves cX5_saves 2 none, Cond.fieldLink RX5 36 "NeedleGridModel" "kept" "I", Cond.fieldLink RX5 16 "NeedleGridModel" "past" "[I", Cond.methodLink RX5 39 yX5_copies, Cond.static yX5_copies, Cond.code yX5_copies cX5_copies 5 none, Cond.methodLink RX5 107 yX5_allTurn, Cond.instanceMethod yX5_allTurn, Cond.selects RX5 yX5_allTurn yX5_allTurn, Cond.code yX5_allTurn cX5_allTurn 4 (some .int), Cond.fieldLink RX5 25 "NeedleGridModel" "next" "[I"]
def wsX5_step_r2 : List Cond := [Cond.methodLink RX5 78 yX5_turned, Cond.instanceMethod yX5_turned, Cond.selects RX5 yX5_turned yX5_turned, Cond.code yX5_turned cX5_turned 5 (some .int), Cond.fieldLink RX5 47 "NeedleGridModel" "fx" "I", Cond.fieldLink RX5 53 "NeedleGridModel" "fy" "I", Cond.methodLink RX5 74 yX5_aim, Cond.instanceMethod yX5_aim, Cond.selects RX5 yX5_aim yX5_aim, Cond.code yX5_aim cX5_aim 5 (some .int), Cond.methodLink RX5 70 yX5_lays, Cond.instanceMethod yX5_lays, Cond.selects RX5 yX5_lays yX5_lays, Cond.code yX5_lays cX5_lays 5 none, Cond.methodLink RX5 59 yX5_adds, Cond.instanceMethod yX5_adds, Cond.selects RX5 yX5_adds yX5_adds, Cond.code yX5_adds cX5_adds 3 none, Cond.methodLink RX5 50 yX5_xOf, Cond.static yX5_xOf, Cond.code yX5_xOf cX5_xOf 1 (some .int), Cond.methodLink RX5 56 yX5_yOf, Cond.static yX5_yOf, Cond.code yX5_yOf cX5_yOf 1 (some .int)]
def wsX5_step_r3 : List Cond := [Cond.methodLink RX5 63 yX5_addsBar, Cond.instanceMethod yX5_addsBar, Cond.selects RX5 yX5_addsBar yX5_addsBar, Cond.code yX5_addsBar cX5_addsBar 11 none, Cond.methodLink RX5 67 yX5_size, Cond.static yX5_size, Cond.code yX5_size cX5_size 1 (some .int)]
def wsX5_step : List Cond := .code yX5_step cX5_step 4 (some .int) :: ((wsX5_step_r1 ++ (wsX5_step_r2 ++ wsX5_step_r3)) ++ wsX50)
def wsX5_append : List Cond := .code yX5_append cX5_append 2 (some .int) :: ([.fieldLink RX5 28 "NeedleGridModel" "thrown" "I", .fieldLink RX5 110 "NeedleGridModel" "typed" "I", .fieldLink RX5 19 "NeedleGridModel" "text" "[I", .methodLink RX5 32 yX5_in, .static yX5_in, .initialized RX5, .code yX5_in cX5_in 3 (some .boolean), .methodLink RX5 43 yX5_fails, .instanceMethod yX5_fails, .selects RX5 yX5_fails yX5_fails, .code yX5_fails cX5_fails 2 (some .int)] ++ wsX50)
def wsX5_clearBuffer : List Cond := .code yX5_clearBuffer cX5_clearBuffer 2 (some .int) :: ([.fieldLink RX5 28 "NeedleGridModel" "thrown" "I", .fieldLink RX5 110 "NeedleGridModel" "typed" "I"] ++ wsX50)
def wsX5_isAt : List Cond := .code yX5_isAt cX5_isAt 3 (some .boolean) :: ([.fieldLink RX5 113 "NeedleGridModel" "at" "I", .fieldLink RX5 110 "NeedleGridModel" "typed" "I", .fieldLink RX5 19 "NeedleGridModel" "text" "[I", .methodLink RX5 32 yX5_in, .static yX5_in, .initialized RX5, .code yX5_in cX5_in 3 (some .boolean)] ++ wsX50)
def wsX5_stops : List Cond := .code yX5_stops cX5_stops 1 (some .boolean) :: ([.fieldLink RX5 113 "NeedleGridModel" "at" "I", .fieldLink RX5 110 "NeedleGridModel" "typed" "I", .fieldLink RX5 116 "NeedleGridModel" "isFault" "Z"] ++ wsX50)
def wsX5_isPart : List Cond := .code yX5_isPart cX5_isPart 4 (some .boolean) :: ([.fieldLink RX5 19 "NeedleGridModel" "text" "[I", .fieldLink RX5 113 "NeedleGridModel" "at" "I", .fieldLink RX5 22 "NeedleGridModel" "told" "[I", .fieldLink RX5 127 "NeedleGridModel" "tolds" "I", .methodLink RX5 120 yX5_isAt, .instanceMethod yX5_isAt, .selects RX5 yX5_isAt yX5_isAt, .initialized RX5, .code yX5_isAt cX5_isAt 3 (some .boolean), .fieldLink RX5 110 "NeedleGridModel" "typed" "I", .methodLink RX5 32 yX5_in, .static yX5_in, .code yX5_in cX5_in 3 (some .boolean), .methodLink RX5 123 yX5_stops, .instanceMethod yX5_stops, .selects RX5 yX5_stops yX5_stops, .code yX5_stops cX5_stops 1 (some .boolean), .fieldLink RX5 116 "NeedleGridModel" "isFault" "Z"] ++ wsX50)
def wsX5_isText : List Cond := .code yX5_isText cX5_isText 2 (some .boolean) :: ([.fieldLink RX5 113 "NeedleGridModel" "at" "I", .fieldLink RX5 127 "NeedleGridModel" "tolds" "I", .fieldLink RX5 116 "NeedleGridModel" "isFault" "Z", .fieldLink RX5 110 "NeedleGridModel" "typed" "I", .methodLink RX5 130 yX5_isPart, .instanceMethod yX5_isPart, .selects RX5 yX5_isPart yX5_isPart, .initialized RX5, .code yX5_isPart cX5_isPart 4 (some .boolean), .fieldLink RX5 19 "NeedleGridModel" "text" "[I", .fieldLink RX5 22 "NeedleGridModel" "told" "[I", .methodLink RX5 120 yX5_isAt, .instanceMethod yX5_isAt, .selects RX5 yX5_isAt yX5_isAt, .code yX5_isAt cX5_isAt 3 (some .boolean), .methodLink RX5 32 yX5_in, .static yX5_in, .code yX5_in cX5_in 3 (some .boolean), .methodLink RX5 123 yX5_stops, .instanceMethod yX5_stops, .selects RX5 yX5_stops yX5_stops, .code yX5_stops cX5_stops 1 (some .boolean)] ++ wsX50)
def wsX5_firstError_r1 : List Cond := [Cond.fieldLink RX5 28 "NeedleGridModel" "thrown" "I", Cond.fieldLink RX5 116 "NeedleGridModel" "isFault" "Z", Cond.fieldLink RX5 113 "NeedleGridModel" "at" "I", Cond.fieldLink RX5 110 "NeedleGridModel" "typed" "I", Cond.methodLink RX5 133 yX5_isText, Cond.instanceMethod yX5_isText, Cond.selects RX5 yX5_isText yX5_isText, Cond.initialized RX5, Cond.code yX5_isText cX5_isText 2 (some .boolean), Cond.fieldLink RX5 127 "NeedleGridModel" "tolds" "I", Cond.methodLink RX5 130 yX5_isPart, Cond.instanceMethod yX5_isPart, Cond.selects RX5 yX5_isPart yX5_isPart, Cond.code yX5_isPart cX5_isPart 4 (some .boolean), Cond.fieldLink RX5 19 "NeedleGridModel" "text" "[I", Cond.fieldLink RX5 22 "NeedleGridModel" "told" "[I", Cond.methodLink RX5 120 yX5_isAt, Cond.instanceMethod yX5_isAt, Cond.selects RX5 yX5_isAt yX5_isAt, Cond.code yX5_isAt cX5_isAt 3 (some .boolean), Cond.methodLink RX5 32 yX5_in, Cond.static yX5_in, Cond.code yX5_in cX5_in 3 (some .boolean), Cond.methodLink RX5 123 yX5_stops]
def wsX5_firstError_r2 : List Cond := [Cond.instanceMethod yX5_stops, Cond.selects RX5 yX5_stops yX5_stops, Cond.code yX5_stops cX5_stops 1 (some .boolean)]
def wsX5_firstError : List Cond := .code yX5_firstError cX5_firstError 2 (some .int) :: ((wsX5_firstError_r1 ++ wsX5_firstError_r2) ++ wsX50)
def wsX5_bars_r1 : List Cond := [Cond.fieldLink RX5 28 "NeedleGridModel" "thrown" "I", Cond.fieldLink RX5 110 "NeedleGridModel" "typed" "I", Cond.fieldLink RX5 7 "NeedleGridModel" "now" "[I", Cond.fieldLink RX5 127 "NeedleGridModel" "tolds" "I", Cond.fieldLink RX5 22 "NeedleGridModel" "told" "[I", Cond.methodLink RX5 133 yX5_isText, Cond.instanceMethod yX5_isText, Cond.selects RX5 yX5_isText yX5_isText, Cond.initialized RX5, Cond.code yX5_isText cX5_isText 2 (some .boolean), Cond.fieldLink RX5 113 "NeedleGridModel" "at" "I", Cond.fieldLink RX5 116 "NeedleGridModel" "isFault" "Z", Cond.methodLink RX5 130 yX5_isPart, Cond.instanceMethod yX5_isPart, Cond.selects RX5 yX5_isPart yX5_isPart, Cond.code yX5_isPart cX5_isPart 4 (some .boolean), Cond.fieldLink RX5 19 "NeedleGridModel" "text" "[I", Cond.methodLink RX5 120 yX5_isAt, Cond.instanceMethod yX5_isAt, Cond.selects RX5 yX5_isAt yX5_isAt, Cond.code yX5_isAt cX5_isAt 3 (some .boolean), Cond.methodLink RX5 32 yX5_in, Cond.static yX5_in, Cond.code yX5_in cX5_in 3 (some .boolean)]
def wsX5_bars_r2 : List Cond := [Cond.methodLink RX5 123 yX5_stops, Cond.instanceMethod yX5_stops, Cond.selects RX5 yX5_stops yX5_stops, Cond.code yX5_stops cX5_stops 1 (some .boolean), Cond.methodLink RX5 43 yX5_fails, Cond.instanceMethod yX5_fails, Cond.selects RX5 yX5_fails yX5_fails, Cond.code yX5_fails cX5_fails 2 (some .int), Cond.methodLink RX5 88 yX5_saves, Cond.instanceMethod yX5_saves, Cond.selects RX5 yX5_saves yX5_saves, Cond.code yX5_saves cX5_saves 2 none, Cond.fieldLink RX5 36 "NeedleGridModel" "kept" "I", Cond.fieldLink RX5 16 "NeedleGridModel" "past" "[I", Cond.methodLink RX5 39 yX5_copies, Cond.static yX5_copies, Cond.code yX5_copies cX5_copies 5 none, Cond.methodLink RX5 103 yX5_laysBar, Cond.static yX5_laysBar, Cond.code yX5_laysBar cX5_laysBar 4 none, Cond.methodLink RX5 99 yX5_lying, Cond.static yX5_lying, Cond.code yX5_lying cX5_lying 3 (some .int)]
def wsX5_bars : List Cond := .code yX5_bars cX5_bars 2 (some .int) :: ((wsX5_bars_r1 ++ wsX5_bars_r2) ++ wsX50)
def wsX5_ofCell_r1 : List Cond := [Cond.fieldLink RX5 7 "NeedleGridModel" "now" "[I", Cond.fieldLink RX5 47 "NeedleGridModel" "fx" "I", Cond.constant RX5 136 (100000), Cond.fieldLink RX5 53 "NeedleGridModel" "fy" "I", Cond.methodLink RX5 74 yX5_aim, Cond.instanceMethod yX5_aim, Cond.selects RX5 yX5_aim yX5_aim, Cond.initialized RX5, Cond.code yX5_aim cX5_aim 5 (some .int), Cond.methodLink RX5 70 yX5_lays, Cond.instanceMethod yX5_lays, Cond.selects RX5 yX5_lays yX5_lays, Cond.code yX5_lays cX5_lays 5 none, Cond.methodLink RX5 59 yX5_adds, Cond.instanceMethod yX5_adds, Cond.selects RX5 yX5_adds yX5_adds, Cond.code yX5_adds cX5_adds 3 none, Cond.methodLink RX5 50 yX5_xOf, Cond.static yX5_xOf, Cond.code yX5_xOf cX5_xOf 1 (some .int), Cond.methodLink RX5 32 yX5_in, Cond.static yX5_in, Cond.code yX5_in cX5_in 3 (some .boolean), Cond.methodLink RX5 56 yX5_yOf]
def wsX5_ofCell_r2 : List Cond := [Cond.static yX5_yOf, Cond.code yX5_yOf cX5_yOf 1 (some .int), Cond.methodLink RX5 63 yX5_addsBar, Cond.instanceMethod yX5_addsBar, Cond.selects RX5 yX5_addsBar yX5_addsBar, Cond.code yX5_addsBar cX5_addsBar 11 none, Cond.methodLink RX5 67 yX5_size, Cond.static yX5_size, Cond.code yX5_size cX5_size 1 (some .int), Cond.methodLink RX5 78 yX5_turned, Cond.instanceMethod yX5_turned, Cond.selects RX5 yX5_turned yX5_turned, Cond.code yX5_turned cX5_turned 5 (some .int), Cond.methodLink RX5 137 yX5_away, Cond.instanceMethod yX5_away, Cond.selects RX5 yX5_away yX5_away, Cond.code yX5_away cX5_away 5 (some .int)]
def wsX5_ofCell : List Cond := .code yX5_ofCell cX5_ofCell 4 (some .int) :: ((wsX5_ofCell_r1 ++ wsX5_ofCell_r2) ++ wsX50)
def wsX5_cell_r1 : List Cond := [Cond.fieldLink RX5 28 "NeedleGridModel" "thrown" "I", Cond.methodLink RX5 81 yX5_isCell, Cond.static yX5_isCell, Cond.initialized RX5, Cond.code yX5_isCell cX5_isCell 1 (some .boolean), Cond.methodLink RX5 32 yX5_in, Cond.static yX5_in, Cond.code yX5_in cX5_in 3 (some .boolean), Cond.methodLink RX5 43 yX5_fails, Cond.instanceMethod yX5_fails, Cond.selects RX5 yX5_fails yX5_fails, Cond.code yX5_fails cX5_fails 2 (some .int), Cond.methodLink RX5 140 yX5_ofCell, Cond.instanceMethod yX5_ofCell, Cond.selects RX5 yX5_ofCell yX5_ofCell, Cond.code yX5_ofCell cX5_ofCell 4 (some .int), Cond.fieldLink RX5 7 "NeedleGridModel" "now" "[I", Cond.fieldLink RX5 47 "NeedleGridModel" "fx" "I", Cond.constant RX5 136 (100000), Cond.fieldLink RX5 53 "NeedleGridModel" "fy" "I", Cond.methodLink RX5 74 yX5_aim, Cond.instanceMethod yX5_aim, Cond.selects RX5 yX5_aim yX5_aim, Cond.code yX5_aim cX5_aim 5 (some .int)]
def wsX5_cell_r2 : List Cond := [Cond.methodLink RX5 70 yX5_lays, Cond.instanceMethod yX5_lays, Cond.selects RX5 yX5_lays yX5_lays, Cond.code yX5_lays cX5_lays 5 none, Cond.methodLink RX5 59 yX5_adds, Cond.instanceMethod yX5_adds, Cond.selects RX5 yX5_adds yX5_adds, Cond.code yX5_adds cX5_adds 3 none, Cond.methodLink RX5 50 yX5_xOf, Cond.static yX5_xOf, Cond.code yX5_xOf cX5_xOf 1 (some .int), Cond.methodLink RX5 56 yX5_yOf, Cond.static yX5_yOf, Cond.code yX5_yOf cX5_yOf 1 (some .int), Cond.methodLink RX5 63 yX5_addsBar, Cond.instanceMethod yX5_addsBar, Cond.selects RX5 yX5_addsBar yX5_addsBar, Cond.code yX5_addsBar cX5_addsBar 11 none, Cond.methodLink RX5 67 yX5_size, Cond.static yX5_size, Cond.code yX5_size cX5_size 1 (some .int), Cond.methodLink RX5 78 yX5_turned, Cond.instanceMethod yX5_turned, Cond.selects RX5 yX5_turned yX5_turned]
def wsX5_cell_r3 : List Cond := [Cond.code yX5_turned cX5_turned 5 (some .int), Cond.methodLink RX5 137 yX5_away, Cond.instanceMethod yX5_away, Cond.selects RX5 yX5_away yX5_away, Cond.code yX5_away cX5_away 5 (some .int)]
def wsX5_cell : List Cond := .code yX5_cell cX5_cell 3 (some .int) :: ((wsX5_cell_r1 ++ (wsX5_cell_r2 ++ wsX5_cell_r3)) ++ wsX50)
def wsX5_ofBar : List Cond := .code yX5_ofBar cX5_ofBar 5 (some .int) :: ([.fieldLink RX5 7 "NeedleGridModel" "now" "[I"] ++ wsX50)
def wsX5_barOf : List Cond := .code yX5_barOf cX5_barOf 3 (some .int) :: ([.fieldLink RX5 28 "NeedleGridModel" "thrown" "I", .methodLink RX5 32 yX5_in, .static yX5_in, .initialized RX5, .code yX5_in cX5_in 3 (some .boolean), .methodLink RX5 143 yX5_ofBar, .instanceMethod yX5_ofBar, .selects RX5 yX5_ofBar yX5_ofBar, .code yX5_ofBar cX5_ofBar 5 (some .int), .fieldLink RX5 7 "NeedleGridModel" "now" "[I", .methodLink RX5 43 yX5_fails, .instanceMethod yX5_fails, .selects RX5 yX5_fails yX5_fails, .code yX5_fails cX5_fails 2 (some .int)] ++ wsX50)
def wsX5_counted_r1 : List Cond := [Cond.fieldLink RX5 7 "NeedleGridModel" "now" "[I", Cond.fieldLink RX5 36 "NeedleGridModel" "kept" "I", Cond.methodLink RX5 99 yX5_lying, Cond.static yX5_lying, Cond.initialized RX5, Cond.code yX5_lying cX5_lying 3 (some .int), Cond.methodLink RX5 137 yX5_away, Cond.instanceMethod yX5_away, Cond.selects RX5 yX5_away yX5_away, Cond.code yX5_away cX5_away 5 (some .int), Cond.methodLink RX5 74 yX5_aim, Cond.instanceMethod yX5_aim, Cond.selects RX5 yX5_aim yX5_aim, Cond.code yX5_aim cX5_aim 5 (some .int), Cond.fieldLink RX5 47 "NeedleGridModel" "fx" "I", Cond.fieldLink RX5 53 "NeedleGridModel" "fy" "I", Cond.methodLink RX5 70 yX5_lays, Cond.instanceMethod yX5_lays, Cond.selects RX5 yX5_lays yX5_lays, Cond.code yX5_lays cX5_lays 5 none, Cond.methodLink RX5 59 yX5_adds, Cond.instanceMethod yX5_adds, Cond.selects RX5 yX5_adds yX5_adds, Cond.code yX5_adds cX5_adds 3 none]
def wsX5_counted_r2 : List Cond := [Cond.methodLink RX5 50 yX5_xOf, Cond.static yX5_xOf, Cond.code yX5_xOf cX5_xOf 1 (some .int), Cond.methodLink RX5 32 yX5_in, Cond.static yX5_in, Cond.code yX5_in cX5_in 3 (some .boolean), Cond.methodLink RX5 56 yX5_yOf, Cond.static yX5_yOf, Cond.code yX5_yOf cX5_yOf 1 (some .int), Cond.methodLink RX5 63 yX5_addsBar, Cond.instanceMethod yX5_addsBar, Cond.selects RX5 yX5_addsBar yX5_addsBar, Cond.code yX5_addsBar cX5_addsBar 11 none, Cond.methodLink RX5 67 yX5_size, Cond.static yX5_size, Cond.code yX5_size cX5_size 1 (some .int), Cond.methodLink RX5 140 yX5_ofCell, Cond.instanceMethod yX5_ofCell, Cond.selects RX5 yX5_ofCell yX5_ofCell, Cond.code yX5_ofCell cX5_ofCell 4 (some .int), Cond.constant RX5 136 (100000), Cond.methodLink RX5 78 yX5_turned, Cond.instanceMethod yX5_turned, Cond.selects RX5 yX5_turned yX5_turned]
def wsX5_counted_r3 : List Cond := [Cond.code yX5_turned cX5_turned 5 (some .int)]
def wsX5_counted : List Cond := .code yX5_counted cX5_counted 5 (some .int) :: ((wsX5_counted_r1 ++ (wsX5_counted_r2 ++ wsX5_counted_r3)) ++ wsX50)
def wsX5_count_r1 : List Cond := [Cond.fieldLink RX5 28 "NeedleGridModel" "thrown" "I", Cond.methodLink RX5 32 yX5_in, Cond.static yX5_in, Cond.initialized RX5, Cond.code yX5_in cX5_in 3 (some .boolean), Cond.methodLink RX5 146 yX5_counted, Cond.instanceMethod yX5_counted, Cond.selects RX5 yX5_counted yX5_counted, Cond.code yX5_counted cX5_counted 5 (some .int), Cond.fieldLink RX5 7 "NeedleGridModel" "now" "[I", Cond.fieldLink RX5 36 "NeedleGridModel" "kept" "I", Cond.methodLink RX5 99 yX5_lying, Cond.static yX5_lying, Cond.code yX5_lying cX5_lying 3 (some .int), Cond.methodLink RX5 137 yX5_away, Cond.instanceMethod yX5_away, Cond.selects RX5 yX5_away yX5_away, Cond.code yX5_away cX5_away 5 (some .int), Cond.methodLink RX5 74 yX5_aim, Cond.instanceMethod yX5_aim, Cond.selects RX5 yX5_aim yX5_aim, Cond.code yX5_aim cX5_aim 5 (some .int), Cond.fieldLink RX5 47 "NeedleGridModel" "fx" "I", Cond.fieldLink RX5 53 "NeedleGridModel" "fy" "I"]
def wsX5_count_r2 : List Cond := [Cond.methodLink RX5 70 yX5_lays, Cond.instanceMethod yX5_lays, Cond.selects RX5 yX5_lays yX5_lays, Cond.code yX5_lays cX5_lays 5 none, Cond.methodLink RX5 59 yX5_adds, Cond.instanceMethod yX5_adds, Cond.selects RX5 yX5_adds yX5_adds, Cond.code yX5_adds cX5_adds 3 none, Cond.methodLink RX5 50 yX5_xOf, Cond.static yX5_xOf, Cond.code yX5_xOf cX5_xOf 1 (some .int), Cond.methodLink RX5 56 yX5_yOf, Cond.static yX5_yOf, Cond.code yX5_yOf cX5_yOf 1 (some .int), Cond.methodLink RX5 63 yX5_addsBar, Cond.instanceMethod yX5_addsBar, Cond.selects RX5 yX5_addsBar yX5_addsBar, Cond.code yX5_addsBar cX5_addsBar 11 none, Cond.methodLink RX5 67 yX5_size, Cond.static yX5_size, Cond.code yX5_size cX5_size 1 (some .int), Cond.methodLink RX5 140 yX5_ofCell, Cond.instanceMethod yX5_ofCell, Cond.selects RX5 yX5_ofCell yX5_ofCell]
def wsX5_count_r3 : List Cond := [Cond.code yX5_ofCell cX5_ofCell 4 (some .int), Cond.constant RX5 136 (100000), Cond.methodLink RX5 78 yX5_turned, Cond.instanceMethod yX5_turned, Cond.selects RX5 yX5_turned yX5_turned, Cond.code yX5_turned cX5_turned 5 (some .int), Cond.methodLink RX5 43 yX5_fails, Cond.instanceMethod yX5_fails, Cond.selects RX5 yX5_fails yX5_fails, Cond.code yX5_fails cX5_fails 2 (some .int)]
def wsX5_count : List Cond := .code yX5_count cX5_count 2 (some .int) :: ((wsX5_count_r1 ++ (wsX5_count_r2 ++ wsX5_count_r3)) ++ wsX50)
def wsX5_towards : List Cond := .code yX5_towards cX5_towards 4 (some .int) :: ([.fieldLink RX5 7 "NeedleGridModel" "now" "[I"] ++ wsX50)
def wsX5_pointing : List Cond := .code yX5_pointing cX5_pointing 2 (some .int) :: ([.fieldLink RX5 28 "NeedleGridModel" "thrown" "I", .methodLink RX5 85 yX5_isDirection, .static yX5_isDirection, .initialized RX5, .code yX5_isDirection cX5_isDirection 1 (some .boolean), .methodLink RX5 32 yX5_in, .static yX5_in, .code yX5_in cX5_in 3 (some .boolean), .methodLink RX5 149 yX5_towards, .instanceMethod yX5_towards, .selects RX5 yX5_towards yX5_towards, .code yX5_towards cX5_towards 4 (some .int), .fieldLink RX5 7 "NeedleGridModel" "now" "[I", .methodLink RX5 43 yX5_fails, .instanceMethod yX5_fails, .selects RX5 yX5_fails yX5_fails, .code yX5_fails cX5_fails 2 (some .int)] ++ wsX50)
def wsX5_setting : List Cond := .code yX5_setting cX5_setting 2 (some .int) :: ([.fieldLink RX5 28 "NeedleGridModel" "thrown" "I", .fieldLink RX5 7 "NeedleGridModel" "now" "[I", .methodLink RX5 32 yX5_in, .static yX5_in, .initialized RX5, .code yX5_in cX5_in 3 (some .boolean), .methodLink RX5 43 yX5_fails, .instanceMethod yX5_fails, .selects RX5 yX5_fails yX5_fails, .code yX5_fails cX5_fails 2 (some .int)] ++ wsX50)
def wsX5_rests_r1 : List Cond := [Cond.fieldLink RX5 7 "NeedleGridModel" "now" "[I", Cond.fieldLink RX5 13 "NeedleGridModel" "then" "[I", Cond.methodLink RX5 39 yX5_copies, Cond.static yX5_copies, Cond.initialized RX5, Cond.code yX5_copies cX5_copies 5 none, Cond.methodLink RX5 107 yX5_allTurn, Cond.instanceMethod yX5_allTurn, Cond.selects RX5 yX5_allTurn yX5_allTurn, Cond.code yX5_allTurn cX5_allTurn 4 (some .int), Cond.fieldLink RX5 25 "NeedleGridModel" "next" "[I", Cond.methodLink RX5 78 yX5_turned, Cond.instanceMethod yX5_turned, Cond.selects RX5 yX5_turned yX5_turned, Cond.code yX5_turned cX5_turned 5 (some .int), Cond.fieldLink RX5 47 "NeedleGridModel" "fx" "I", Cond.fieldLink RX5 53 "NeedleGridModel" "fy" "I", Cond.methodLink RX5 74 yX5_aim, Cond.instanceMethod yX5_aim, Cond.selects RX5 yX5_aim yX5_aim, Cond.code yX5_aim cX5_aim 5 (some .int), Cond.methodLink RX5 70 yX5_lays, Cond.instanceMethod yX5_lays, Cond.selects RX5 yX5_lays yX5_lays]
def wsX5_rests_r2 : List Cond := [Cond.code yX5_lays cX5_lays 5 none, Cond.methodLink RX5 59 yX5_adds, Cond.instanceMethod yX5_adds, Cond.selects RX5 yX5_adds yX5_adds, Cond.code yX5_adds cX5_adds 3 none, Cond.methodLink RX5 50 yX5_xOf, Cond.static yX5_xOf, Cond.code yX5_xOf cX5_xOf 1 (some .int), Cond.methodLink RX5 32 yX5_in, Cond.static yX5_in, Cond.code yX5_in cX5_in 3 (some .boolean), Cond.methodLink RX5 56 yX5_yOf, Cond.static yX5_yOf, Cond.code yX5_yOf cX5_yOf 1 (some .int), Cond.methodLink RX5 63 yX5_addsBar, Cond.instanceMethod yX5_addsBar, Cond.selects RX5 yX5_addsBar yX5_addsBar, Cond.code yX5_addsBar cX5_addsBar 11 none, Cond.methodLink RX5 67 yX5_size, Cond.static yX5_size, Cond.code yX5_size cX5_size 1 (some .int)]
def wsX5_rests : List Cond := .code yX5_rests cX5_rests 2 (some .int) :: ((wsX5_rests_r1 ++ wsX5_rests_r2) ++ wsX50)
def wsX5_restsIn_r1 : List Cond := [Cond.fieldLink RX5 28 "NeedleGridModel" "thrown" "I", Cond.methodLink RX5 152 yX5_rests, Cond.instanceMethod yX5_rests, Cond.selects RX5 yX5_rests yX5_rests, Cond.initialized RX5, Cond.code yX5_rests cX5_rests 2 (some .int), Cond.fieldLink RX5 7 "NeedleGridModel" "now" "[I", Cond.fieldLink RX5 13 "NeedleGridModel" "then" "[I", Cond.methodLink RX5 39 yX5_copies, Cond.static yX5_copies, Cond.code yX5_copies cX5_copies 5 none, Cond.methodLink RX5 107 yX5_allTurn, Cond.instanceMethod yX5_allTurn, Cond.selects RX5 yX5_allTurn yX5_allTurn, Cond.code yX5_allTurn cX5_allTurn 4 (some .int), Cond.fieldLink RX5 25 "NeedleGridModel" "next" "[I", Cond.methodLink RX5 78 yX5_turned, Cond.instanceMethod yX5_turned, Cond.selects RX5 yX5_turned yX5_turned, Cond.code yX5_turned cX5_turned 5 (some .int), Cond.fieldLink RX5 47 "NeedleGridModel" "fx" "I", Cond.fieldLink RX5 53 "NeedleGridModel" "fy" "I", Cond.methodLink RX5 74 yX5_aim, Cond.instanceMethod yX5_aim]
def wsX5_restsIn_r2 : List Cond := [Cond.selects RX5 yX5_aim yX5_aim, Cond.code yX5_aim cX5_aim 5 (some .int), Cond.methodLink RX5 70 yX5_lays, Cond.instanceMethod yX5_lays, Cond.selects RX5 yX5_lays yX5_lays, Cond.code yX5_lays cX5_lays 5 none, Cond.methodLink RX5 59 yX5_adds, Cond.instanceMethod yX5_adds, Cond.selects RX5 yX5_adds yX5_adds, Cond.code yX5_adds cX5_adds 3 none, Cond.methodLink RX5 50 yX5_xOf, Cond.static yX5_xOf, Cond.code yX5_xOf cX5_xOf 1 (some .int), Cond.methodLink RX5 32 yX5_in, Cond.static yX5_in, Cond.code yX5_in cX5_in 3 (some .boolean), Cond.methodLink RX5 56 yX5_yOf, Cond.static yX5_yOf, Cond.code yX5_yOf cX5_yOf 1 (some .int), Cond.methodLink RX5 63 yX5_addsBar, Cond.instanceMethod yX5_addsBar, Cond.selects RX5 yX5_addsBar yX5_addsBar, Cond.code yX5_addsBar cX5_addsBar 11 none, Cond.methodLink RX5 67 yX5_size]
def wsX5_restsIn_r3 : List Cond := [Cond.static yX5_size, Cond.code yX5_size cX5_size 1 (some .int)]
def wsX5_restsIn : List Cond := .code yX5_restsIn cX5_restsIn 1 (some .int) :: ((wsX5_restsIn_r1 ++ (wsX5_restsIn_r2 ++ wsX5_restsIn_r3)) ++ wsX50)
def wsX5_pointed_r1 : List Cond := [Cond.fieldLink RX5 7 "NeedleGridModel" "now" "[I", Cond.fieldLink RX5 13 "NeedleGridModel" "then" "[I", Cond.methodLink RX5 39 yX5_copies, Cond.static yX5_copies, Cond.initialized RX5, Cond.code yX5_copies cX5_copies 5 none, Cond.methodLink RX5 107 yX5_allTurn, Cond.instanceMethod yX5_allTurn, Cond.selects RX5 yX5_allTurn yX5_allTurn, Cond.code yX5_allTurn cX5_allTurn 4 (some .int), Cond.fieldLink RX5 25 "NeedleGridModel" "next" "[I", Cond.methodLink RX5 78 yX5_turned, Cond.instanceMethod yX5_turned, Cond.selects RX5 yX5_turned yX5_turned, Cond.code yX5_turned cX5_turned 5 (some .int), Cond.fieldLink RX5 47 "NeedleGridModel" "fx" "I", Cond.fieldLink RX5 53 "NeedleGridModel" "fy" "I", Cond.methodLink RX5 74 yX5_aim, Cond.instanceMethod yX5_aim, Cond.selects RX5 yX5_aim yX5_aim, Cond.code yX5_aim cX5_aim 5 (some .int), Cond.methodLink RX5 70 yX5_lays, Cond.instanceMethod yX5_lays, Cond.selects RX5 yX5_lays yX5_lays]
def wsX5_pointed_r2 : List Cond := [Cond.code yX5_lays cX5_lays 5 none, Cond.methodLink RX5 59 yX5_adds, Cond.instanceMethod yX5_adds, Cond.selects RX5 yX5_adds yX5_adds, Cond.code yX5_adds cX5_adds 3 none, Cond.methodLink RX5 50 yX5_xOf, Cond.static yX5_xOf, Cond.code yX5_xOf cX5_xOf 1 (some .int), Cond.methodLink RX5 32 yX5_in, Cond.static yX5_in, Cond.code yX5_in cX5_in 3 (some .boolean), Cond.methodLink RX5 56 yX5_yOf, Cond.static yX5_yOf, Cond.code yX5_yOf cX5_yOf 1 (some .int), Cond.methodLink RX5 63 yX5_addsBar, Cond.instanceMethod yX5_addsBar, Cond.selects RX5 yX5_addsBar yX5_addsBar, Cond.code yX5_addsBar cX5_addsBar 11 none, Cond.methodLink RX5 67 yX5_size, Cond.static yX5_size, Cond.code yX5_size cX5_size 1 (some .int)]
def wsX5_pointed : List Cond := .code yX5_pointed cX5_pointed 4 (some .int) :: ((wsX5_pointed_r1 ++ wsX5_pointed_r2) ++ wsX50)
def wsX5_points_r1 : List Cond := [Cond.fieldLink RX5 28 "NeedleGridModel" "thrown" "I", Cond.methodLink RX5 81 yX5_isCell, Cond.static yX5_isCell, Cond.initialized RX5, Cond.code yX5_isCell cX5_isCell 1 (some .boolean), Cond.methodLink RX5 32 yX5_in, Cond.static yX5_in, Cond.code yX5_in cX5_in 3 (some .boolean), Cond.methodLink RX5 43 yX5_fails, Cond.instanceMethod yX5_fails, Cond.selects RX5 yX5_fails yX5_fails, Cond.code yX5_fails cX5_fails 2 (some .int), Cond.methodLink RX5 156 yX5_pointed, Cond.instanceMethod yX5_pointed, Cond.selects RX5 yX5_pointed yX5_pointed, Cond.code yX5_pointed cX5_pointed 4 (some .int), Cond.fieldLink RX5 7 "NeedleGridModel" "now" "[I", Cond.fieldLink RX5 13 "NeedleGridModel" "then" "[I", Cond.methodLink RX5 39 yX5_copies, Cond.static yX5_copies, Cond.code yX5_copies cX5_copies 5 none, Cond.methodLink RX5 107 yX5_allTurn, Cond.instanceMethod yX5_allTurn, Cond.selects RX5 yX5_allTurn yX5_allTurn]
def wsX5_points_r2 : List Cond := [Cond.code yX5_allTurn cX5_allTurn 4 (some .int), Cond.fieldLink RX5 25 "NeedleGridModel" "next" "[I", Cond.methodLink RX5 78 yX5_turned, Cond.instanceMethod yX5_turned, Cond.selects RX5 yX5_turned yX5_turned, Cond.code yX5_turned cX5_turned 5 (some .int), Cond.fieldLink RX5 47 "NeedleGridModel" "fx" "I", Cond.fieldLink RX5 53 "NeedleGridModel" "fy" "I", Cond.methodLink RX5 74 yX5_aim, Cond.instanceMethod yX5_aim, Cond.selects RX5 yX5_aim yX5_aim, Cond.code yX5_aim cX5_aim 5 (some .int), Cond.methodLink RX5 70 yX5_lays, Cond.instanceMethod yX5_lays, Cond.selects RX5 yX5_lays yX5_lays, Cond.code yX5_lays cX5_lays 5 none, Cond.methodLink RX5 59 yX5_adds, Cond.instanceMethod yX5_adds, Cond.selects RX5 yX5_adds yX5_adds, Cond.code yX5_adds cX5_adds 3 none, Cond.methodLink RX5 50 yX5_xOf, Cond.static yX5_xOf, Cond.code yX5_xOf cX5_xOf 1 (some .int), Cond.methodLink RX5 56 yX5_yOf]
def wsX5_points_r3 : List Cond := [Cond.static yX5_yOf, Cond.code yX5_yOf cX5_yOf 1 (some .int), Cond.methodLink RX5 63 yX5_addsBar, Cond.instanceMethod yX5_addsBar, Cond.selects RX5 yX5_addsBar yX5_addsBar, Cond.code yX5_addsBar cX5_addsBar 11 none, Cond.methodLink RX5 67 yX5_size, Cond.static yX5_size, Cond.code yX5_size cX5_size 1 (some .int)]
def wsX5_points : List Cond := .code yX5_points cX5_points 3 (some .int) :: ((wsX5_points_r1 ++ (wsX5_points_r2 ++ wsX5_points_r3)) ++ wsX50)
def wsX5_byBar_r1 : List Cond := [Cond.fieldLink RX5 7 "NeedleGridModel" "now" "[I", Cond.fieldLink RX5 13 "NeedleGridModel" "then" "[I", Cond.methodLink RX5 39 yX5_copies, Cond.static yX5_copies, Cond.initialized RX5, Cond.code yX5_copies cX5_copies 5 none, Cond.methodLink RX5 103 yX5_laysBar, Cond.static yX5_laysBar, Cond.code yX5_laysBar cX5_laysBar 4 none, Cond.methodLink RX5 74 yX5_aim, Cond.instanceMethod yX5_aim, Cond.selects RX5 yX5_aim yX5_aim, Cond.code yX5_aim cX5_aim 5 (some .int), Cond.fieldLink RX5 47 "NeedleGridModel" "fx" "I", Cond.fieldLink RX5 53 "NeedleGridModel" "fy" "I", Cond.methodLink RX5 70 yX5_lays, Cond.instanceMethod yX5_lays, Cond.selects RX5 yX5_lays yX5_lays, Cond.code yX5_lays cX5_lays 5 none, Cond.methodLink RX5 59 yX5_adds, Cond.instanceMethod yX5_adds, Cond.selects RX5 yX5_adds yX5_adds, Cond.code yX5_adds cX5_adds 3 none, Cond.methodLink RX5 50 yX5_xOf]
def wsX5_byBar_r2 : List Cond := [Cond.static yX5_xOf, Cond.code yX5_xOf cX5_xOf 1 (some .int), Cond.methodLink RX5 32 yX5_in, Cond.static yX5_in, Cond.code yX5_in cX5_in 3 (some .boolean), Cond.methodLink RX5 56 yX5_yOf, Cond.static yX5_yOf, Cond.code yX5_yOf cX5_yOf 1 (some .int), Cond.methodLink RX5 63 yX5_addsBar, Cond.instanceMethod yX5_addsBar, Cond.selects RX5 yX5_addsBar yX5_addsBar, Cond.code yX5_addsBar cX5_addsBar 11 none, Cond.methodLink RX5 67 yX5_size, Cond.static yX5_size, Cond.code yX5_size cX5_size 1 (some .int)]
def wsX5_byBar : List Cond := .code yX5_byBar cX5_byBar 6 (some .int) :: ((wsX5_byBar_r1 ++ wsX5_byBar_r2) ++ wsX50)
def wsX5_ifBar_r1 : List Cond := [Cond.fieldLink RX5 28 "NeedleGridModel" "thrown" "I", Cond.methodLink RX5 81 yX5_isCell, Cond.static yX5_isCell, Cond.initialized RX5, Cond.code yX5_isCell cX5_isCell 1 (some .boolean), Cond.methodLink RX5 32 yX5_in, Cond.static yX5_in, Cond.code yX5_in cX5_in 3 (some .boolean), Cond.methodLink RX5 43 yX5_fails, Cond.instanceMethod yX5_fails, Cond.selects RX5 yX5_fails yX5_fails, Cond.code yX5_fails cX5_fails 2 (some .int), Cond.methodLink RX5 95 yX5_isBar, Cond.static yX5_isBar, Cond.code yX5_isBar cX5_isBar 2 (some .boolean), Cond.methodLink RX5 85 yX5_isDirection, Cond.static yX5_isDirection, Cond.code yX5_isDirection cX5_isDirection 1 (some .boolean), Cond.methodLink RX5 159 yX5_byBar, Cond.instanceMethod yX5_byBar, Cond.selects RX5 yX5_byBar yX5_byBar, Cond.code yX5_byBar cX5_byBar 6 (some .int), Cond.fieldLink RX5 7 "NeedleGridModel" "now" "[I", Cond.fieldLink RX5 13 "NeedleGridModel" "then" "[I"]
def wsX5_ifBar_r2 : List Cond := [Cond.methodLink RX5 39 yX5_copies, Cond.static yX5_copies, Cond.code yX5_copies cX5_copies 5 none, Cond.methodLink RX5 103 yX5_laysBar, Cond.static yX5_laysBar, Cond.code yX5_laysBar cX5_laysBar 4 none, Cond.methodLink RX5 74 yX5_aim, Cond.instanceMethod yX5_aim, Cond.selects RX5 yX5_aim yX5_aim, Cond.code yX5_aim cX5_aim 5 (some .int), Cond.fieldLink RX5 47 "NeedleGridModel" "fx" "I", Cond.fieldLink RX5 53 "NeedleGridModel" "fy" "I", Cond.methodLink RX5 70 yX5_lays, Cond.instanceMethod yX5_lays, Cond.selects RX5 yX5_lays yX5_lays, Cond.code yX5_lays cX5_lays 5 none, Cond.methodLink RX5 59 yX5_adds, Cond.instanceMethod yX5_adds, Cond.selects RX5 yX5_adds yX5_adds, Cond.code yX5_adds cX5_adds 3 none, Cond.methodLink RX5 50 yX5_xOf, Cond.static yX5_xOf, Cond.code yX5_xOf cX5_xOf 1 (some .int), Cond.methodLink RX5 56 yX5_yOf]
def wsX5_ifBar_r3 : List Cond := [Cond.static yX5_yOf, Cond.code yX5_yOf cX5_yOf 1 (some .int), Cond.methodLink RX5 63 yX5_addsBar, Cond.instanceMethod yX5_addsBar, Cond.selects RX5 yX5_addsBar yX5_addsBar, Cond.code yX5_addsBar cX5_addsBar 11 none, Cond.methodLink RX5 67 yX5_size, Cond.static yX5_size, Cond.code yX5_size cX5_size 1 (some .int)]
def wsX5_ifBar : List Cond := .code yX5_ifBar cX5_ifBar 4 (some .int) :: ((wsX5_ifBar_r1 ++ (wsX5_ifBar_r2 ++ wsX5_ifBar_r3)) ++ wsX50)
def wsX5_best_r1 : List Cond := [Cond.fieldLink RX5 7 "NeedleGridModel" "now" "[I", Cond.fieldLink RX5 13 "NeedleGridModel" "then" "[I", Cond.methodLink RX5 39 yX5_copies, Cond.static yX5_copies, Cond.initialized RX5, Cond.code yX5_copies cX5_copies 5 none, Cond.methodLink RX5 103 yX5_laysBar, Cond.static yX5_laysBar, Cond.code yX5_laysBar cX5_laysBar 4 none, Cond.methodLink RX5 74 yX5_aim, Cond.instanceMethod yX5_aim, Cond.selects RX5 yX5_aim yX5_aim, Cond.code yX5_aim cX5_aim 5 (some .int), Cond.fieldLink RX5 47 "NeedleGridModel" "fx" "I", Cond.fieldLink RX5 53 "NeedleGridModel" "fy" "I", Cond.methodLink RX5 70 yX5_lays, Cond.instanceMethod yX5_lays, Cond.selects RX5 yX5_lays yX5_lays, Cond.code yX5_lays cX5_lays 5 none, Cond.methodLink RX5 59 yX5_adds, Cond.instanceMethod yX5_adds, Cond.selects RX5 yX5_adds yX5_adds, Cond.code yX5_adds cX5_adds 3 none, Cond.methodLink RX5 50 yX5_xOf]
def wsX5_best_r2 : List Cond := [Cond.static yX5_xOf, Cond.code yX5_xOf cX5_xOf 1 (some .int), Cond.methodLink RX5 32 yX5_in, Cond.static yX5_in, Cond.code yX5_in cX5_in 3 (some .boolean), Cond.methodLink RX5 56 yX5_yOf, Cond.static yX5_yOf, Cond.code yX5_yOf cX5_yOf 1 (some .int), Cond.methodLink RX5 63 yX5_addsBar, Cond.instanceMethod yX5_addsBar, Cond.selects RX5 yX5_addsBar yX5_addsBar, Cond.code yX5_addsBar cX5_addsBar 11 none, Cond.methodLink RX5 67 yX5_size, Cond.static yX5_size, Cond.code yX5_size cX5_size 1 (some .int)]
def wsX5_best : List Cond := .code yX5_best cX5_best 6 (some .int) :: ((wsX5_best_r1 ++ wsX5_best_r2) ++ wsX50)
def wsX5_bestBar_r1 : List Cond := [Cond.fieldLink RX5 28 "NeedleGridModel" "thrown" "I", Cond.methodLink RX5 81 yX5_isCell, Cond.static yX5_isCell, Cond.initialized RX5, Cond.code yX5_isCell cX5_isCell 1 (some .boolean), Cond.methodLink RX5 32 yX5_in, Cond.static yX5_in, Cond.code yX5_in cX5_in 3 (some .boolean), Cond.methodLink RX5 43 yX5_fails, Cond.instanceMethod yX5_fails, Cond.selects RX5 yX5_fails yX5_fails, Cond.code yX5_fails cX5_fails 2 (some .int), Cond.methodLink RX5 95 yX5_isBar, Cond.static yX5_isBar, Cond.code yX5_isBar cX5_isBar 2 (some .boolean), Cond.methodLink RX5 85 yX5_isDirection, Cond.static yX5_isDirection, Cond.code yX5_isDirection cX5_isDirection 1 (some .boolean), Cond.methodLink RX5 163 yX5_best, Cond.instanceMethod yX5_best, Cond.selects RX5 yX5_best yX5_best, Cond.code yX5_best cX5_best 6 (some .int), Cond.fieldLink RX5 7 "NeedleGridModel" "now" "[I", Cond.fieldLink RX5 13 "NeedleGridModel" "then" "[I"]
def wsX5_bestBar_r2 : List Cond := [Cond.methodLink RX5 39 yX5_copies, Cond.static yX5_copies, Cond.code yX5_copies cX5_copies 5 none, Cond.methodLink RX5 103 yX5_laysBar, Cond.static yX5_laysBar, Cond.code yX5_laysBar cX5_laysBar 4 none, Cond.methodLink RX5 74 yX5_aim, Cond.instanceMethod yX5_aim, Cond.selects RX5 yX5_aim yX5_aim, Cond.code yX5_aim cX5_aim 5 (some .int), Cond.fieldLink RX5 47 "NeedleGridModel" "fx" "I", Cond.fieldLink RX5 53 "NeedleGridModel" "fy" "I", Cond.methodLink RX5 70 yX5_lays, Cond.instanceMethod yX5_lays, Cond.selects RX5 yX5_lays yX5_lays, Cond.code yX5_lays cX5_lays 5 none, Cond.methodLink RX5 59 yX5_adds, Cond.instanceMethod yX5_adds, Cond.selects RX5 yX5_adds yX5_adds, Cond.code yX5_adds cX5_adds 3 none, Cond.methodLink RX5 50 yX5_xOf, Cond.static yX5_xOf, Cond.code yX5_xOf cX5_xOf 1 (some .int), Cond.methodLink RX5 56 yX5_yOf]
def wsX5_bestBar_r3 : List Cond := [Cond.static yX5_yOf, Cond.code yX5_yOf cX5_yOf 1 (some .int), Cond.methodLink RX5 63 yX5_addsBar, Cond.instanceMethod yX5_addsBar, Cond.selects RX5 yX5_addsBar yX5_addsBar, Cond.code yX5_addsBar cX5_addsBar 11 none, Cond.methodLink RX5 67 yX5_size, Cond.static yX5_size, Cond.code yX5_size cX5_size 1 (some .int)]
def wsX5_bestBar : List Cond := .code yX5_bestBar cX5_bestBar 4 (some .int) :: ((wsX5_bestBar_r1 ++ (wsX5_bestBar_r2 ++ wsX5_bestBar_r3)) ++ wsX50)
def wsX5_least_r1 : List Cond := [Cond.fieldLink RX5 7 "NeedleGridModel" "now" "[I", Cond.fieldLink RX5 13 "NeedleGridModel" "then" "[I", Cond.methodLink RX5 39 yX5_copies, Cond.static yX5_copies, Cond.initialized RX5, Cond.code yX5_copies cX5_copies 5 none, Cond.methodLink RX5 74 yX5_aim, Cond.instanceMethod yX5_aim, Cond.selects RX5 yX5_aim yX5_aim, Cond.code yX5_aim cX5_aim 5 (some .int), Cond.fieldLink RX5 47 "NeedleGridModel" "fx" "I", Cond.fieldLink RX5 53 "NeedleGridModel" "fy" "I", Cond.methodLink RX5 70 yX5_lays, Cond.instanceMethod yX5_lays, Cond.selects RX5 yX5_lays yX5_lays, Cond.code yX5_lays cX5_lays 5 none, Cond.methodLink RX5 59 yX5_adds, Cond.instanceMethod yX5_adds, Cond.selects RX5 yX5_adds yX5_adds, Cond.code yX5_adds cX5_adds 3 none, Cond.methodLink RX5 50 yX5_xOf, Cond.static yX5_xOf, Cond.code yX5_xOf cX5_xOf 1 (some .int), Cond.methodLink RX5 32 yX5_in]
def wsX5_least_r2 : List Cond := [Cond.static yX5_in, Cond.code yX5_in cX5_in 3 (some .boolean), Cond.methodLink RX5 56 yX5_yOf, Cond.static yX5_yOf, Cond.code yX5_yOf cX5_yOf 1 (some .int), Cond.methodLink RX5 63 yX5_addsBar, Cond.instanceMethod yX5_addsBar, Cond.selects RX5 yX5_addsBar yX5_addsBar, Cond.code yX5_addsBar cX5_addsBar 11 none, Cond.methodLink RX5 67 yX5_size, Cond.static yX5_size, Cond.code yX5_size cX5_size 1 (some .int)]
def wsX5_least : List Cond := .code yX5_least cX5_least 3 (some .int) :: ((wsX5_least_r1 ++ wsX5_least_r2) ++ wsX50)
def wsX5_leastTurns_r1 : List Cond := [Cond.fieldLink RX5 28 "NeedleGridModel" "thrown" "I", Cond.methodLink RX5 81 yX5_isCell, Cond.static yX5_isCell, Cond.initialized RX5, Cond.code yX5_isCell cX5_isCell 1 (some .boolean), Cond.methodLink RX5 32 yX5_in, Cond.static yX5_in, Cond.code yX5_in cX5_in 3 (some .boolean), Cond.methodLink RX5 166 yX5_least, Cond.instanceMethod yX5_least, Cond.selects RX5 yX5_least yX5_least, Cond.code yX5_least cX5_least 3 (some .int), Cond.fieldLink RX5 7 "NeedleGridModel" "now" "[I", Cond.fieldLink RX5 13 "NeedleGridModel" "then" "[I", Cond.methodLink RX5 39 yX5_copies, Cond.static yX5_copies, Cond.code yX5_copies cX5_copies 5 none, Cond.methodLink RX5 74 yX5_aim, Cond.instanceMethod yX5_aim, Cond.selects RX5 yX5_aim yX5_aim, Cond.code yX5_aim cX5_aim 5 (some .int), Cond.fieldLink RX5 47 "NeedleGridModel" "fx" "I", Cond.fieldLink RX5 53 "NeedleGridModel" "fy" "I", Cond.methodLink RX5 70 yX5_lays]
def wsX5_leastTurns_r2 : List Cond := [Cond.instanceMethod yX5_lays, Cond.selects RX5 yX5_lays yX5_lays, Cond.code yX5_lays cX5_lays 5 none, Cond.methodLink RX5 59 yX5_adds, Cond.instanceMethod yX5_adds, Cond.selects RX5 yX5_adds yX5_adds, Cond.code yX5_adds cX5_adds 3 none, Cond.methodLink RX5 50 yX5_xOf, Cond.static yX5_xOf, Cond.code yX5_xOf cX5_xOf 1 (some .int), Cond.methodLink RX5 56 yX5_yOf, Cond.static yX5_yOf, Cond.code yX5_yOf cX5_yOf 1 (some .int), Cond.methodLink RX5 63 yX5_addsBar, Cond.instanceMethod yX5_addsBar, Cond.selects RX5 yX5_addsBar yX5_addsBar, Cond.code yX5_addsBar cX5_addsBar 11 none, Cond.methodLink RX5 67 yX5_size, Cond.static yX5_size, Cond.code yX5_size cX5_size 1 (some .int), Cond.methodLink RX5 43 yX5_fails, Cond.instanceMethod yX5_fails, Cond.selects RX5 yX5_fails yX5_fails, Cond.code yX5_fails cX5_fails 2 (some .int)]
def wsX5_leastTurns : List Cond := .code yX5_leastTurns cX5_leastTurns 2 (some .int) :: ((wsX5_leastTurns_r1 ++ wsX5_leastTurns_r2) ++ wsX50)
def wsX5_share_r1 : List Cond := [Cond.fieldLink RX5 7 "NeedleGridModel" "now" "[I", Cond.methodLink RX5 137 yX5_away, Cond.instanceMethod yX5_away, Cond.selects RX5 yX5_away yX5_away, Cond.initialized RX5, Cond.code yX5_away cX5_away 5 (some .int), Cond.methodLink RX5 74 yX5_aim, Cond.instanceMethod yX5_aim, Cond.selects RX5 yX5_aim yX5_aim, Cond.code yX5_aim cX5_aim 5 (some .int), Cond.fieldLink RX5 47 "NeedleGridModel" "fx" "I", Cond.fieldLink RX5 53 "NeedleGridModel" "fy" "I", Cond.methodLink RX5 70 yX5_lays, Cond.instanceMethod yX5_lays, Cond.selects RX5 yX5_lays yX5_lays, Cond.code yX5_lays cX5_lays 5 none, Cond.methodLink RX5 59 yX5_adds, Cond.instanceMethod yX5_adds, Cond.selects RX5 yX5_adds yX5_adds, Cond.code yX5_adds cX5_adds 3 none, Cond.methodLink RX5 50 yX5_xOf, Cond.static yX5_xOf, Cond.code yX5_xOf cX5_xOf 1 (some .int), Cond.methodLink RX5 32 yX5_in]
def wsX5_share_r2 : List Cond := [Cond.static yX5_in, Cond.code yX5_in cX5_in 3 (some .boolean), Cond.methodLink RX5 56 yX5_yOf, Cond.static yX5_yOf, Cond.code yX5_yOf cX5_yOf 1 (some .int), Cond.methodLink RX5 63 yX5_addsBar, Cond.instanceMethod yX5_addsBar, Cond.selects RX5 yX5_addsBar yX5_addsBar, Cond.code yX5_addsBar cX5_addsBar 11 none, Cond.methodLink RX5 67 yX5_size, Cond.static yX5_size, Cond.code yX5_size cX5_size 1 (some .int)]
def wsX5_share : List Cond := .code yX5_share cX5_share 5 (some .double) :: ((wsX5_share_r1 ++ wsX5_share_r2) ++ wsX50)
def wsX5_obedience_r1 : List Cond := [Cond.fieldLink RX5 28 "NeedleGridModel" "thrown" "I", Cond.methodLink RX5 169 yX5_share, Cond.instanceMethod yX5_share, Cond.selects RX5 yX5_share yX5_share, Cond.initialized RX5, Cond.code yX5_share cX5_share 5 (some .double), Cond.fieldLink RX5 7 "NeedleGridModel" "now" "[I", Cond.methodLink RX5 137 yX5_away, Cond.instanceMethod yX5_away, Cond.selects RX5 yX5_away yX5_away, Cond.code yX5_away cX5_away 5 (some .int), Cond.methodLink RX5 74 yX5_aim, Cond.instanceMethod yX5_aim, Cond.selects RX5 yX5_aim yX5_aim, Cond.code yX5_aim cX5_aim 5 (some .int), Cond.fieldLink RX5 47 "NeedleGridModel" "fx" "I", Cond.fieldLink RX5 53 "NeedleGridModel" "fy" "I", Cond.methodLink RX5 70 yX5_lays, Cond.instanceMethod yX5_lays, Cond.selects RX5 yX5_lays yX5_lays, Cond.code yX5_lays cX5_lays 5 none, Cond.methodLink RX5 59 yX5_adds, Cond.instanceMethod yX5_adds, Cond.selects RX5 yX5_adds yX5_adds]
def wsX5_obedience_r2 : List Cond := [Cond.code yX5_adds cX5_adds 3 none, Cond.methodLink RX5 50 yX5_xOf, Cond.static yX5_xOf, Cond.code yX5_xOf cX5_xOf 1 (some .int), Cond.methodLink RX5 32 yX5_in, Cond.static yX5_in, Cond.code yX5_in cX5_in 3 (some .boolean), Cond.methodLink RX5 56 yX5_yOf, Cond.static yX5_yOf, Cond.code yX5_yOf cX5_yOf 1 (some .int), Cond.methodLink RX5 63 yX5_addsBar, Cond.instanceMethod yX5_addsBar, Cond.selects RX5 yX5_addsBar yX5_addsBar, Cond.code yX5_addsBar cX5_addsBar 11 none, Cond.methodLink RX5 67 yX5_size, Cond.static yX5_size, Cond.code yX5_size cX5_size 1 (some .int)]
def wsX5_obedience : List Cond := .code yX5_obedience cX5_obedience 1 (some .double) :: ((wsX5_obedience_r1 ++ wsX5_obedience_r2) ++ wsX50)
def wsJxe99ae_isNaN_b9ae7 : List Cond := .code yJxe99ae_isNaN_b9ae7 cJxe99ae_isNaN_b9ae7 2 (some .boolean) :: ([])
def wsJxe99ae_doubleToLongBits_ccdee : List Cond := .code yJxe99ae_doubleToLongBits_ccdee cJxe99ae_doubleToLongBits_ccdee 2 (some .long) :: ([.methodLink RJxe99ae 134 ⟨"java/lang/Double", "doubleToRawLongBits", "(D)J"⟩, .native ⟨"java/lang/Double", "doubleToRawLongBits", "(D)J"⟩, .static ⟨"java/lang/Double", "doubleToRawLongBits", "(D)J"⟩, .initialized "java/lang/Double", .constantLong RJxe99ae 137 (9221120237041090560), .methodLink RJxe99ae 122 yJxe99ae_isNaN_b9ae7, .static yJxe99ae_isNaN_b9ae7, .initialized RJxe99ae, .code yJxe99ae_isNaN_b9ae7 cJxe99ae_isNaN_b9ae7 2 (some .boolean)])
def wsX5_digest_r1 : List Cond := [Cond.fieldLink RX5 28 "NeedleGridModel" "thrown" "I", Cond.constantLong RX5 173 (3167), Cond.constantLong RX5 175 (31), Cond.fieldLink RX5 7 "NeedleGridModel" "now" "[I", Cond.fieldLink RX5 110 "NeedleGridModel" "typed" "I", Cond.fieldLink RX5 19 "NeedleGridModel" "text" "[I", Cond.methodLink RX5 146 yX5_counted, Cond.instanceMethod yX5_counted, Cond.selects RX5 yX5_counted yX5_counted, Cond.initialized RX5, Cond.code yX5_counted cX5_counted 5 (some .int), Cond.fieldLink RX5 36 "NeedleGridModel" "kept" "I", Cond.methodLink RX5 99 yX5_lying, Cond.static yX5_lying, Cond.code yX5_lying cX5_lying 3 (some .int), Cond.methodLink RX5 137 yX5_away, Cond.instanceMethod yX5_away, Cond.selects RX5 yX5_away yX5_away, Cond.code yX5_away cX5_away 5 (some .int), Cond.methodLink RX5 74 yX5_aim, Cond.instanceMethod yX5_aim, Cond.selects RX5 yX5_aim yX5_aim, Cond.code yX5_aim cX5_aim 5 (some .int), Cond.fieldLink RX5 47 "NeedleGridModel" "fx" "I"]
def wsX5_digest_r2 : List Cond := [Cond.fieldLink RX5 53 "NeedleGridModel" "fy" "I", Cond.methodLink RX5 70 yX5_lays, Cond.instanceMethod yX5_lays, Cond.selects RX5 yX5_lays yX5_lays, Cond.code yX5_lays cX5_lays 5 none, Cond.methodLink RX5 59 yX5_adds, Cond.instanceMethod yX5_adds, Cond.selects RX5 yX5_adds yX5_adds, Cond.code yX5_adds cX5_adds 3 none, Cond.methodLink RX5 50 yX5_xOf, Cond.static yX5_xOf, Cond.code yX5_xOf cX5_xOf 1 (some .int), Cond.methodLink RX5 32 yX5_in, Cond.static yX5_in, Cond.code yX5_in cX5_in 3 (some .boolean), Cond.methodLink RX5 56 yX5_yOf, Cond.static yX5_yOf, Cond.code yX5_yOf cX5_yOf 1 (some .int), Cond.methodLink RX5 63 yX5_addsBar, Cond.instanceMethod yX5_addsBar, Cond.selects RX5 yX5_addsBar yX5_addsBar, Cond.code yX5_addsBar cX5_addsBar 11 none, Cond.methodLink RX5 67 yX5_size, Cond.static yX5_size]
def wsX5_digest_r3 : List Cond := [Cond.code yX5_size cX5_size 1 (some .int), Cond.methodLink RX5 140 yX5_ofCell, Cond.instanceMethod yX5_ofCell, Cond.selects RX5 yX5_ofCell yX5_ofCell, Cond.code yX5_ofCell cX5_ofCell 4 (some .int), Cond.constant RX5 136 (100000), Cond.methodLink RX5 78 yX5_turned, Cond.instanceMethod yX5_turned, Cond.selects RX5 yX5_turned yX5_turned, Cond.code yX5_turned cX5_turned 5 (some .int), Cond.methodLink RX5 143 yX5_ofBar, Cond.instanceMethod yX5_ofBar, Cond.selects RX5 yX5_ofBar yX5_ofBar, Cond.code yX5_ofBar cX5_ofBar 5 (some .int), Cond.methodLink RX5 149 yX5_towards, Cond.instanceMethod yX5_towards, Cond.selects RX5 yX5_towards yX5_towards, Cond.code yX5_towards cX5_towards 4 (some .int), Cond.methodLink RX5 152 yX5_rests, Cond.instanceMethod yX5_rests, Cond.selects RX5 yX5_rests yX5_rests, Cond.code yX5_rests cX5_rests 2 (some .int), Cond.fieldLink RX5 13 "NeedleGridModel" "then" "[I", Cond.methodLink RX5 39 yX5_copies]
def wsX5_digest_r4 : List Cond := [Cond.static yX5_copies, Cond.code yX5_copies cX5_copies 5 none, Cond.methodLink RX5 107 yX5_allTurn, Cond.instanceMethod yX5_allTurn, Cond.selects RX5 yX5_allTurn yX5_allTurn, Cond.code yX5_allTurn cX5_allTurn 4 (some .int), Cond.fieldLink RX5 25 "NeedleGridModel" "next" "[I", Cond.methodLink RX5 156 yX5_pointed, Cond.instanceMethod yX5_pointed, Cond.selects RX5 yX5_pointed yX5_pointed, Cond.code yX5_pointed cX5_pointed 4 (some .int), Cond.methodLink RX5 159 yX5_byBar, Cond.instanceMethod yX5_byBar, Cond.selects RX5 yX5_byBar yX5_byBar, Cond.code yX5_byBar cX5_byBar 6 (some .int), Cond.methodLink RX5 103 yX5_laysBar, Cond.static yX5_laysBar, Cond.code yX5_laysBar cX5_laysBar 4 none, Cond.methodLink RX5 163 yX5_best, Cond.instanceMethod yX5_best, Cond.selects RX5 yX5_best yX5_best, Cond.code yX5_best cX5_best 6 (some .int), Cond.methodLink RX5 166 yX5_least, Cond.instanceMethod yX5_least]
def wsX5_digest_r5 : List Cond := [Cond.selects RX5 yX5_least yX5_least, Cond.code yX5_least cX5_least 3 (some .int), Cond.methodLink RX5 169 yX5_share, Cond.instanceMethod yX5_share, Cond.selects RX5 yX5_share yX5_share, Cond.code yX5_share cX5_share 5 (some .double), Cond.methodLink RX5 177 yJxe99ae_doubleToLongBits_ccdee, Cond.static yJxe99ae_doubleToLongBits_ccdee, Cond.initialized RJxe99ae, Cond.code yJxe99ae_doubleToLongBits_ccdee cJxe99ae_doubleToLongBits_ccdee 2 (some .long), Cond.methodLink RJxe99ae 134 ⟨"java/lang/Double", "doubleToRawLongBits", "(D)J"⟩, Cond.native ⟨"java/lang/Double", "doubleToRawLongBits", "(D)J"⟩, Cond.static ⟨"java/lang/Double", "doubleToRawLongBits", "(D)J"⟩, Cond.initialized "java/lang/Double", Cond.constantLong RJxe99ae 137 (9221120237041090560), Cond.methodLink RJxe99ae 122 yJxe99ae_isNaN_b9ae7, Cond.static yJxe99ae_isNaN_b9ae7, Cond.code yJxe99ae_isNaN_b9ae7 cJxe99ae_isNaN_b9ae7 2 (some .boolean)]
def wsX5_digest : List Cond := .code yX5_digest cX5_digest 5 (some .long) :: ((wsX5_digest_r1 ++ (wsX5_digest_r2 ++ (wsX5_digest_r3 ++ (wsX5_digest_r4 ++ wsX5_digest_r5)))) ++ wsX50)
def wsL_needle_r1 : List Cond := [Cond.classLink RL 13 "java/lang/IndexOutOfBoundsException", Cond.classLink RL 15 "java/lang/IllegalArgumentException", Cond.methodLink RL 7 yX4_needle, Cond.instanceMethod yX4_needle, Cond.selects RX4 yX4_needle yX4_needle, Cond.initialized RX4, Cond.code yX4_needle cX4_needle 4 (some .int), Cond.fieldLink RX4 22 "NeedleGrid" "history" "LNeedleGrid$History;", Cond.fieldLink RX4 12 "NeedleGrid" "now" "LNeedleGrid$Grid;", Cond.methodLink RX4 33 yX4_requireCell, Cond.static yX4_requireCell, Cond.code yX4_requireCell cX4_requireCell 1 none, Cond.classLink RX4 275 "java/lang/IndexOutOfBoundsException", Cond.initialized "java/lang/IndexOutOfBoundsException", Cond.methodLink RX4 37 yX4_requireDirection, Cond.static yX4_requireDirection, Cond.code yX4_requireDirection cX4_requireDirection 1 none, Cond.methodLink RX4 51 yX4_requireBetween, Cond.static yX4_requireBetween, Cond.code yX4_requireBetween cX4_requireBetween 3 none, Cond.classLink RX4 127 "java/lang/IllegalArgumentException", Cond.initialized "java/lang/IllegalArgumentException", Cond.methodLink RX4 40 yX3_save, Cond.instanceMethod yX3_save]
def wsL_needle_r2 : List Cond := [Cond.selects RX3 yX3_save yX3_save, Cond.initialized RX3, Cond.code yX3_save cX3_save 3 none, Cond.fieldLink RX3 11 "NeedleGrid$History" "ring" "[LNeedleGrid$Grid;", Cond.fieldLink RX3 18 "NeedleGrid$History" "next" "I", Cond.fieldLink RX3 26 "NeedleGrid$History" "amount" "I", Cond.methodLink RX3 22 yX2_copyFrom, Cond.instanceMethod yX2_copyFrom, Cond.selects RX2 yX2_copyFrom yX2_copyFrom, Cond.initialized RX2, Cond.code yX2_copyFrom cX2_copyFrom 3 none, Cond.fieldLink RX2 9 "NeedleGrid$Grid" "directions" "[I", Cond.fieldLink RX2 15 "NeedleGrid$Grid" "frictions" "[I", Cond.fieldLink RX2 18 "NeedleGrid$Grid" "held" "[Z", Cond.fieldLink RX2 22 "NeedleGrid$Grid" "barDirections" "[I", Cond.fieldLink RX2 25 "NeedleGrid$Grid" "barStrengths" "[I", Cond.fieldLink RX2 31 "NeedleGrid$Grid" "stillX" "[I", Cond.fieldLink RX2 34 "NeedleGrid$Grid" "stillY" "[I", Cond.fieldLink RX2 37 "NeedleGrid$Grid" "fieldX" "[I", Cond.fieldLink RX2 40 "NeedleGrid$Grid" "fieldY" "[I", Cond.fieldLink RX2 28 "NeedleGrid$Grid" "settings" "[I", Cond.fieldLink RX2 46 "NeedleGrid$Grid" "turns" "I", Cond.fieldLink RX2 50 "NeedleGrid$Grid" "coilDirection" "I", Cond.fieldLink RX2 53 "NeedleGrid$Grid" "stepsSoFar" "I"]
def wsL_needle_r3 : List Cond := [Cond.methodLink RX4 48 yX2_measureField, Cond.instanceMethod yX2_measureField, Cond.selects RX2 yX2_measureField yX2_measureField, Cond.code yX2_measureField cX2_measureField 2 none, Cond.methodLink RX2 78 yX2_addNeedleToNeighbours, Cond.instanceMethod yX2_addNeedleToNeighbours, Cond.selects RX2 yX2_addNeedleToNeighbours yX2_addNeedleToNeighbours, Cond.code yX2_addNeedleToNeighbours cX2_addNeedleToNeighbours 5 none, Cond.static yX4_across, Cond.code yX4_across cX4_across 1 (some .int), Cond.fieldLink RX4 284 "NeedleGrid" "ACROSS" "[I", Cond.static yX4_down, Cond.code yX4_down cX4_down 1 (some .int), Cond.fieldLink RX4 287 "NeedleGrid" "DOWN" "[I", Cond.methodLink RX2 81 yX2_addToField, Cond.instanceMethod yX2_addToField, Cond.selects RX2 yX2_addToField yX2_addToField, Cond.code yX2_addToField cX2_addToField 4 none]
def wsL_needle : List Cond := .codeWith yL_needle cL_needle 5 (some .int) [(0, 10, 13, 13), (0, 10, 17, 15)] :: ((wsL_needle_r1 ++ (wsL_needle_r2 ++ wsL_needle_r3)) ++ wsX40 ++ wsX20 ++ wsX30 ++ (vx_atS RX4 279 "java/lang/IndexOutOfBoundsException" ["java/lang/RuntimeException", "java/lang/Exception"]).filter goodWord ++ (vx_atS RX4 131 "java/lang/IllegalArgumentException" ["java/lang/RuntimeException", "java/lang/Exception"]).filter goodWord)
def wsL_friction_r1 : List Cond := [Cond.classLink RL 13 "java/lang/IndexOutOfBoundsException", Cond.classLink RL 15 "java/lang/IllegalArgumentException", Cond.methodLink RL 17 yX4_friction, Cond.instanceMethod yX4_friction, Cond.selects RX4 yX4_friction yX4_friction, Cond.initialized RX4, Cond.code yX4_friction cX4_friction 4 (some .int), Cond.fieldLink RX4 22 "NeedleGrid" "history" "LNeedleGrid$History;", Cond.fieldLink RX4 12 "NeedleGrid" "now" "LNeedleGrid$Grid;", Cond.methodLink RX4 33 yX4_requireCell, Cond.static yX4_requireCell, Cond.code yX4_requireCell cX4_requireCell 1 none, Cond.classLink RX4 275 "java/lang/IndexOutOfBoundsException", Cond.initialized "java/lang/IndexOutOfBoundsException", Cond.methodLink RX4 51 yX4_requireBetween, Cond.static yX4_requireBetween, Cond.code yX4_requireBetween cX4_requireBetween 3 none, Cond.classLink RX4 127 "java/lang/IllegalArgumentException", Cond.initialized "java/lang/IllegalArgumentException", Cond.methodLink RX4 40 yX3_save, Cond.instanceMethod yX3_save, Cond.selects RX3 yX3_save yX3_save, Cond.initialized RX3, Cond.code yX3_save cX3_save 3 none]
def wsL_friction_r2 : List Cond := [Cond.fieldLink RX3 11 "NeedleGrid$History" "ring" "[LNeedleGrid$Grid;", Cond.fieldLink RX3 18 "NeedleGrid$History" "next" "I", Cond.fieldLink RX3 26 "NeedleGrid$History" "amount" "I", Cond.methodLink RX3 22 yX2_copyFrom, Cond.instanceMethod yX2_copyFrom, Cond.selects RX2 yX2_copyFrom yX2_copyFrom, Cond.initialized RX2, Cond.code yX2_copyFrom cX2_copyFrom 3 none, Cond.fieldLink RX2 9 "NeedleGrid$Grid" "directions" "[I", Cond.fieldLink RX2 15 "NeedleGrid$Grid" "frictions" "[I", Cond.fieldLink RX2 18 "NeedleGrid$Grid" "held" "[Z", Cond.fieldLink RX2 22 "NeedleGrid$Grid" "barDirections" "[I", Cond.fieldLink RX2 25 "NeedleGrid$Grid" "barStrengths" "[I", Cond.fieldLink RX2 31 "NeedleGrid$Grid" "stillX" "[I", Cond.fieldLink RX2 34 "NeedleGrid$Grid" "stillY" "[I", Cond.fieldLink RX2 37 "NeedleGrid$Grid" "fieldX" "[I", Cond.fieldLink RX2 40 "NeedleGrid$Grid" "fieldY" "[I", Cond.fieldLink RX2 28 "NeedleGrid$Grid" "settings" "[I", Cond.fieldLink RX2 46 "NeedleGrid$Grid" "turns" "I", Cond.fieldLink RX2 50 "NeedleGrid$Grid" "coilDirection" "I", Cond.fieldLink RX2 53 "NeedleGrid$Grid" "stepsSoFar" "I"]
def wsL_friction : List Cond := .codeWith yL_friction cL_friction 5 (some .int) [(0, 10, 13, 13), (0, 10, 17, 15)] :: ((wsL_friction_r1 ++ wsL_friction_r2) ++ wsX40 ++ wsX20 ++ wsX30 ++ (vx_atS RX4 279 "java/lang/IndexOutOfBoundsException" ["java/lang/RuntimeException", "java/lang/Exception"]).filter goodWord ++ (vx_atS RX4 131 "java/lang/IllegalArgumentException" ["java/lang/RuntimeException", "java/lang/Exception"]).filter goodWord)
def wsL_hold_r1 : List Cond := [Cond.classLink RL 13 "java/lang/IndexOutOfBoundsException", Cond.methodLink RL 20 yX4_hold, Cond.instanceMethod yX4_hold, Cond.selects RX4 yX4_hold yX4_hold, Cond.initialized RX4, Cond.code yX4_hold cX4_hold 4 (some .int), Cond.fieldLink RX4 22 "NeedleGrid" "history" "LNeedleGrid$History;", Cond.fieldLink RX4 12 "NeedleGrid" "now" "LNeedleGrid$Grid;", Cond.methodLink RX4 33 yX4_requireCell, Cond.static yX4_requireCell, Cond.code yX4_requireCell cX4_requireCell 1 none, Cond.classLink RX4 275 "java/lang/IndexOutOfBoundsException", Cond.initialized "java/lang/IndexOutOfBoundsException", Cond.methodLink RX4 40 yX3_save, Cond.instanceMethod yX3_save, Cond.selects RX3 yX3_save yX3_save, Cond.initialized RX3, Cond.code yX3_save cX3_save 3 none, Cond.fieldLink RX3 11 "NeedleGrid$History" "ring" "[LNeedleGrid$Grid;", Cond.fieldLink RX3 18 "NeedleGrid$History" "next" "I", Cond.fieldLink RX3 26 "NeedleGrid$History" "amount" "I", Cond.methodLink RX3 22 yX2_copyFrom, Cond.instanceMethod yX2_copyFrom, Cond.selects RX2 yX2_copyFrom yX2_copyFrom]
def wsL_hold_r2 : List Cond := [Cond.initialized RX2, Cond.code yX2_copyFrom cX2_copyFrom 3 none, Cond.fieldLink RX2 9 "NeedleGrid$Grid" "directions" "[I", Cond.fieldLink RX2 15 "NeedleGrid$Grid" "frictions" "[I", Cond.fieldLink RX2 18 "NeedleGrid$Grid" "held" "[Z", Cond.fieldLink RX2 22 "NeedleGrid$Grid" "barDirections" "[I", Cond.fieldLink RX2 25 "NeedleGrid$Grid" "barStrengths" "[I", Cond.fieldLink RX2 31 "NeedleGrid$Grid" "stillX" "[I", Cond.fieldLink RX2 34 "NeedleGrid$Grid" "stillY" "[I", Cond.fieldLink RX2 37 "NeedleGrid$Grid" "fieldX" "[I", Cond.fieldLink RX2 40 "NeedleGrid$Grid" "fieldY" "[I", Cond.fieldLink RX2 28 "NeedleGrid$Grid" "settings" "[I", Cond.fieldLink RX2 46 "NeedleGrid$Grid" "turns" "I", Cond.fieldLink RX2 50 "NeedleGrid$Grid" "coilDirection" "I", Cond.fieldLink RX2 53 "NeedleGrid$Grid" "stepsSoFar" "I"]
def wsL_hold : List Cond := .codeWith yL_hold cL_hold 5 (some .int) [(0, 10, 13, 13)] :: ((wsL_hold_r1 ++ wsL_hold_r2) ++ wsX40 ++ wsX20 ++ wsX30 ++ (vx_atS RX4 279 "java/lang/IndexOutOfBoundsException" ["java/lang/RuntimeException", "java/lang/Exception"]).filter goodWord)
def wsL_swap_r1 : List Cond := [Cond.classLink RL 13 "java/lang/IndexOutOfBoundsException", Cond.methodLink RL 24 yX4_swap, Cond.instanceMethod yX4_swap, Cond.selects RX4 yX4_swap yX4_swap, Cond.initialized RX4, Cond.code yX4_swap cX4_swap 3 (some .int), Cond.fieldLink RX4 22 "NeedleGrid" "history" "LNeedleGrid$History;", Cond.fieldLink RX4 12 "NeedleGrid" "now" "LNeedleGrid$Grid;", Cond.methodLink RX4 33 yX4_requireCell, Cond.static yX4_requireCell, Cond.code yX4_requireCell cX4_requireCell 1 none, Cond.classLink RX4 275 "java/lang/IndexOutOfBoundsException", Cond.initialized "java/lang/IndexOutOfBoundsException", Cond.methodLink RX4 40 yX3_save, Cond.instanceMethod yX3_save, Cond.selects RX3 yX3_save yX3_save, Cond.initialized RX3, Cond.code yX3_save cX3_save 3 none, Cond.fieldLink RX3 11 "NeedleGrid$History" "ring" "[LNeedleGrid$Grid;", Cond.fieldLink RX3 18 "NeedleGrid$History" "next" "I", Cond.fieldLink RX3 26 "NeedleGrid$History" "amount" "I", Cond.methodLink RX3 22 yX2_copyFrom, Cond.instanceMethod yX2_copyFrom, Cond.selects RX2 yX2_copyFrom yX2_copyFrom]
def wsL_swap_r2 : List Cond := [Cond.initialized RX2, Cond.code yX2_copyFrom cX2_copyFrom 3 none, Cond.fieldLink RX2 9 "NeedleGrid$Grid" "directions" "[I", Cond.fieldLink RX2 15 "NeedleGrid$Grid" "frictions" "[I", Cond.fieldLink RX2 18 "NeedleGrid$Grid" "held" "[Z", Cond.fieldLink RX2 22 "NeedleGrid$Grid" "barDirections" "[I", Cond.fieldLink RX2 25 "NeedleGrid$Grid" "barStrengths" "[I", Cond.fieldLink RX2 31 "NeedleGrid$Grid" "stillX" "[I", Cond.fieldLink RX2 34 "NeedleGrid$Grid" "stillY" "[I", Cond.fieldLink RX2 37 "NeedleGrid$Grid" "fieldX" "[I", Cond.fieldLink RX2 40 "NeedleGrid$Grid" "fieldY" "[I", Cond.fieldLink RX2 28 "NeedleGrid$Grid" "settings" "[I", Cond.fieldLink RX2 46 "NeedleGrid$Grid" "turns" "I", Cond.fieldLink RX2 50 "NeedleGrid$Grid" "coilDirection" "I", Cond.fieldLink RX2 53 "NeedleGrid$Grid" "stepsSoFar" "I", Cond.methodLink RX4 62 yX4_exchange, Cond.static yX4_exchange, Cond.code yX4_exchange cX4_exchange 4 none, Cond.methodLink RX4 48 yX2_measureField, Cond.instanceMethod yX2_measureField, Cond.selects RX2 yX2_measureField yX2_measureField, Cond.code yX2_measureField cX2_measureField 2 none, Cond.methodLink RX2 78 yX2_addNeedleToNeighbours, Cond.instanceMethod yX2_addNeedleToNeighbours]
def wsL_swap_r3 : List Cond := [Cond.selects RX2 yX2_addNeedleToNeighbours yX2_addNeedleToNeighbours, Cond.code yX2_addNeedleToNeighbours cX2_addNeedleToNeighbours 5 none, Cond.static yX4_across, Cond.code yX4_across cX4_across 1 (some .int), Cond.fieldLink RX4 284 "NeedleGrid" "ACROSS" "[I", Cond.static yX4_down, Cond.code yX4_down cX4_down 1 (some .int), Cond.fieldLink RX4 287 "NeedleGrid" "DOWN" "[I", Cond.methodLink RX2 81 yX2_addToField, Cond.instanceMethod yX2_addToField, Cond.selects RX2 yX2_addToField yX2_addToField, Cond.code yX2_addToField cX2_addToField 4 none]
def wsL_swap : List Cond := .codeWith yL_swap cL_swap 5 (some .int) [(0, 10, 13, 13)] :: ((wsL_swap_r1 ++ (wsL_swap_r2 ++ wsL_swap_r3)) ++ wsX40 ++ wsX20 ++ wsX30 ++ (vx_atS RX4 279 "java/lang/IndexOutOfBoundsException" ["java/lang/RuntimeException", "java/lang/Exception"]).filter goodWord)
def wsL_bar_r1 : List Cond := [Cond.classLink RL 13 "java/lang/IndexOutOfBoundsException", Cond.classLink RL 15 "java/lang/IllegalArgumentException", Cond.classLink RL 31 "java/lang/IllegalStateException", Cond.methodLink RL 27 yX4_bar, Cond.instanceMethod yX4_bar, Cond.selects RX4 yX4_bar yX4_bar, Cond.initialized RX4, Cond.code yX4_bar cX4_bar 4 (some .int), Cond.classLink RX4 74 "java/lang/IllegalStateException", Cond.initialized "java/lang/IllegalStateException", Cond.fieldLink RX4 12 "NeedleGrid" "now" "LNeedleGrid$Grid;", Cond.fieldLink RX4 22 "NeedleGrid" "history" "LNeedleGrid$History;", Cond.methodLink RX4 33 yX4_requireCell, Cond.static yX4_requireCell, Cond.code yX4_requireCell cX4_requireCell 1 none, Cond.classLink RX4 275 "java/lang/IndexOutOfBoundsException", Cond.initialized "java/lang/IndexOutOfBoundsException", Cond.methodLink RX4 37 yX4_requireDirection, Cond.static yX4_requireDirection, Cond.code yX4_requireDirection cX4_requireDirection 1 none, Cond.methodLink RX4 51 yX4_requireBetween, Cond.static yX4_requireBetween, Cond.code yX4_requireBetween cX4_requireBetween 3 none, Cond.classLink RX4 127 "java/lang/IllegalArgumentException"]
def wsL_bar_r2 : List Cond := [Cond.initialized "java/lang/IllegalArgumentException", Cond.methodLink RX4 66 yX2_hasBar, Cond.instanceMethod yX2_hasBar, Cond.selects RX2 yX2_hasBar yX2_hasBar, Cond.initialized RX2, Cond.code yX2_hasBar cX2_hasBar 2 (some .boolean), Cond.fieldLink RX2 25 "NeedleGrid$Grid" "barStrengths" "[I", Cond.methodLink RX4 70 yX2_barCount, Cond.instanceMethod yX2_barCount, Cond.selects RX2 yX2_barCount yX2_barCount, Cond.code yX2_barCount cX2_barCount 3 (some .int), Cond.methodLink RX2 63 yX2_hasBar, Cond.methodLink RX4 40 yX3_save, Cond.instanceMethod yX3_save, Cond.selects RX3 yX3_save yX3_save, Cond.initialized RX3, Cond.code yX3_save cX3_save 3 none, Cond.fieldLink RX3 11 "NeedleGrid$History" "ring" "[LNeedleGrid$Grid;", Cond.fieldLink RX3 18 "NeedleGrid$History" "next" "I", Cond.fieldLink RX3 26 "NeedleGrid$History" "amount" "I", Cond.methodLink RX3 22 yX2_copyFrom, Cond.instanceMethod yX2_copyFrom, Cond.selects RX2 yX2_copyFrom yX2_copyFrom, Cond.code yX2_copyFrom cX2_copyFrom 3 none]
def wsL_bar_r3 : List Cond := [Cond.fieldLink RX2 9 "NeedleGrid$Grid" "directions" "[I", Cond.fieldLink RX2 15 "NeedleGrid$Grid" "frictions" "[I", Cond.fieldLink RX2 18 "NeedleGrid$Grid" "held" "[Z", Cond.fieldLink RX2 22 "NeedleGrid$Grid" "barDirections" "[I", Cond.fieldLink RX2 31 "NeedleGrid$Grid" "stillX" "[I", Cond.fieldLink RX2 34 "NeedleGrid$Grid" "stillY" "[I", Cond.fieldLink RX2 37 "NeedleGrid$Grid" "fieldX" "[I", Cond.fieldLink RX2 40 "NeedleGrid$Grid" "fieldY" "[I", Cond.fieldLink RX2 28 "NeedleGrid$Grid" "settings" "[I", Cond.fieldLink RX2 46 "NeedleGrid$Grid" "turns" "I", Cond.fieldLink RX2 50 "NeedleGrid$Grid" "coilDirection" "I", Cond.fieldLink RX2 53 "NeedleGrid$Grid" "stepsSoFar" "I", Cond.methodLink RX4 81 yX2_layBar, Cond.instanceMethod yX2_layBar, Cond.selects RX2 yX2_layBar yX2_layBar, Cond.code yX2_layBar cX2_layBar 4 none, Cond.methodLink RX4 84 yX2_measureAll, Cond.instanceMethod yX2_measureAll, Cond.selects RX2 yX2_measureAll yX2_measureAll, Cond.code yX2_measureAll cX2_measureAll 5 none, Cond.static yX4_across, Cond.code yX4_across cX4_across 1 (some .int), Cond.fieldLink RX4 284 "NeedleGrid" "ACROSS" "[I", Cond.static yX4_down]
def wsL_bar_r4 : List Cond := [Cond.code yX4_down cX4_down 1 (some .int), Cond.fieldLink RX4 287 "NeedleGrid" "DOWN" "[I", Cond.methodLink RX2 67 yX2_addBarToStill, Cond.instanceMethod yX2_addBarToStill, Cond.selects RX2 yX2_addBarToStill yX2_addBarToStill, Cond.code yX2_addBarToStill cX2_addBarToStill 6 none, Cond.static yX4_pull, Cond.code yX4_pull cX4_pull 12 (some .int), Cond.methodLink RX4 290 yX4_across, Cond.methodLink RX4 293 yX4_down, Cond.methodLink RX2 71 yX2_measureField, Cond.instanceMethod yX2_measureField, Cond.selects RX2 yX2_measureField yX2_measureField, Cond.code yX2_measureField cX2_measureField 2 none, Cond.methodLink RX2 78 yX2_addNeedleToNeighbours, Cond.instanceMethod yX2_addNeedleToNeighbours, Cond.selects RX2 yX2_addNeedleToNeighbours yX2_addNeedleToNeighbours, Cond.code yX2_addNeedleToNeighbours cX2_addNeedleToNeighbours 5 none, Cond.methodLink RX2 81 yX2_addToField, Cond.instanceMethod yX2_addToField, Cond.selects RX2 yX2_addToField yX2_addToField, Cond.code yX2_addToField cX2_addToField 4 none]
def wsL_bar : List Cond := .codeWith yL_bar cL_bar 6 (some .int) [(0, 12, 15, 13), (0, 12, 19, 15), (0, 12, 23, 31)] :: ((wsL_bar_r1 ++ (wsL_bar_r2 ++ (wsL_bar_r3 ++ wsL_bar_r4))) ++ wsX40 ++ wsX20 ++ wsX30 ++ (vx_atS RX4 78 "java/lang/IllegalStateException" ["java/lang/RuntimeException", "java/lang/Exception"]).filter goodWord ++ (vx_atS RX4 279 "java/lang/IndexOutOfBoundsException" ["java/lang/RuntimeException", "java/lang/Exception"]).filter goodWord ++ (vx_atS RX4 131 "java/lang/IllegalArgumentException" ["java/lang/RuntimeException", "java/lang/Exception"]).filter goodWord)
def wsL_unbar_r1 : List Cond := [Cond.classLink RL 13 "java/lang/IndexOutOfBoundsException", Cond.classLink RL 31 "java/lang/IllegalStateException", Cond.methodLink RL 33 yX4_unbar, Cond.instanceMethod yX4_unbar, Cond.selects RX4 yX4_unbar yX4_unbar, Cond.initialized RX4, Cond.code yX4_unbar cX4_unbar 2 (some .int), Cond.classLink RX4 74 "java/lang/IllegalStateException", Cond.initialized "java/lang/IllegalStateException", Cond.fieldLink RX4 12 "NeedleGrid" "now" "LNeedleGrid$Grid;", Cond.fieldLink RX4 22 "NeedleGrid" "history" "LNeedleGrid$History;", Cond.methodLink RX4 33 yX4_requireCell, Cond.static yX4_requireCell, Cond.code yX4_requireCell cX4_requireCell 1 none, Cond.classLink RX4 275 "java/lang/IndexOutOfBoundsException", Cond.initialized "java/lang/IndexOutOfBoundsException", Cond.methodLink RX4 66 yX2_hasBar, Cond.instanceMethod yX2_hasBar, Cond.selects RX2 yX2_hasBar yX2_hasBar, Cond.initialized RX2, Cond.code yX2_hasBar cX2_hasBar 2 (some .boolean), Cond.fieldLink RX2 25 "NeedleGrid$Grid" "barStrengths" "[I", Cond.methodLink RX4 40 yX3_save, Cond.instanceMethod yX3_save]
def wsL_unbar_r2 : List Cond := [Cond.selects RX3 yX3_save yX3_save, Cond.initialized RX3, Cond.code yX3_save cX3_save 3 none, Cond.fieldLink RX3 11 "NeedleGrid$History" "ring" "[LNeedleGrid$Grid;", Cond.fieldLink RX3 18 "NeedleGrid$History" "next" "I", Cond.fieldLink RX3 26 "NeedleGrid$History" "amount" "I", Cond.methodLink RX3 22 yX2_copyFrom, Cond.instanceMethod yX2_copyFrom, Cond.selects RX2 yX2_copyFrom yX2_copyFrom, Cond.code yX2_copyFrom cX2_copyFrom 3 none, Cond.fieldLink RX2 9 "NeedleGrid$Grid" "directions" "[I", Cond.fieldLink RX2 15 "NeedleGrid$Grid" "frictions" "[I", Cond.fieldLink RX2 18 "NeedleGrid$Grid" "held" "[Z", Cond.fieldLink RX2 22 "NeedleGrid$Grid" "barDirections" "[I", Cond.fieldLink RX2 31 "NeedleGrid$Grid" "stillX" "[I", Cond.fieldLink RX2 34 "NeedleGrid$Grid" "stillY" "[I", Cond.fieldLink RX2 37 "NeedleGrid$Grid" "fieldX" "[I", Cond.fieldLink RX2 40 "NeedleGrid$Grid" "fieldY" "[I", Cond.fieldLink RX2 28 "NeedleGrid$Grid" "settings" "[I", Cond.fieldLink RX2 46 "NeedleGrid$Grid" "turns" "I", Cond.fieldLink RX2 50 "NeedleGrid$Grid" "coilDirection" "I", Cond.fieldLink RX2 53 "NeedleGrid$Grid" "stepsSoFar" "I", Cond.methodLink RX4 89 yX2_takeBar, Cond.instanceMethod yX2_takeBar]
def wsL_unbar_r3 : List Cond := [Cond.selects RX2 yX2_takeBar yX2_takeBar, Cond.code yX2_takeBar cX2_takeBar 2 none, Cond.methodLink RX2 102 yX2_layBar, Cond.instanceMethod yX2_layBar, Cond.selects RX2 yX2_layBar yX2_layBar, Cond.code yX2_layBar cX2_layBar 4 none, Cond.methodLink RX4 84 yX2_measureAll, Cond.instanceMethod yX2_measureAll, Cond.selects RX2 yX2_measureAll yX2_measureAll, Cond.code yX2_measureAll cX2_measureAll 5 none, Cond.static yX4_across, Cond.code yX4_across cX4_across 1 (some .int), Cond.fieldLink RX4 284 "NeedleGrid" "ACROSS" "[I", Cond.static yX4_down, Cond.code yX4_down cX4_down 1 (some .int), Cond.fieldLink RX4 287 "NeedleGrid" "DOWN" "[I", Cond.methodLink RX2 63 yX2_hasBar, Cond.methodLink RX2 67 yX2_addBarToStill, Cond.instanceMethod yX2_addBarToStill, Cond.selects RX2 yX2_addBarToStill yX2_addBarToStill, Cond.code yX2_addBarToStill cX2_addBarToStill 6 none, Cond.static yX4_pull, Cond.code yX4_pull cX4_pull 12 (some .int), Cond.methodLink RX4 290 yX4_across]
def wsL_unbar_r4 : List Cond := [Cond.methodLink RX4 293 yX4_down, Cond.methodLink RX2 71 yX2_measureField, Cond.instanceMethod yX2_measureField, Cond.selects RX2 yX2_measureField yX2_measureField, Cond.code yX2_measureField cX2_measureField 2 none, Cond.methodLink RX2 78 yX2_addNeedleToNeighbours, Cond.instanceMethod yX2_addNeedleToNeighbours, Cond.selects RX2 yX2_addNeedleToNeighbours yX2_addNeedleToNeighbours, Cond.code yX2_addNeedleToNeighbours cX2_addNeedleToNeighbours 5 none, Cond.methodLink RX2 81 yX2_addToField, Cond.instanceMethod yX2_addToField, Cond.selects RX2 yX2_addToField yX2_addToField, Cond.code yX2_addToField cX2_addToField 4 none, Cond.methodLink RX4 70 yX2_barCount, Cond.instanceMethod yX2_barCount, Cond.selects RX2 yX2_barCount yX2_barCount, Cond.code yX2_barCount cX2_barCount 3 (some .int)]
def wsL_unbar : List Cond := .codeWith yL_unbar cL_unbar 4 (some .int) [(0, 9, 12, 13), (0, 9, 15, 31)] :: ((wsL_unbar_r1 ++ (wsL_unbar_r2 ++ (wsL_unbar_r3 ++ wsL_unbar_r4))) ++ wsX40 ++ wsX20 ++ wsX30 ++ (vx_atS RX4 78 "java/lang/IllegalStateException" ["java/lang/RuntimeException", "java/lang/Exception"]).filter goodWord ++ (vx_atS RX4 279 "java/lang/IndexOutOfBoundsException" ["java/lang/RuntimeException", "java/lang/Exception"]).filter goodWord)
def wsL_coil_r1 : List Cond := [Cond.classLink RL 15 "java/lang/IllegalArgumentException", Cond.methodLink RL 37 yX4_coil, Cond.instanceMethod yX4_coil, Cond.selects RX4 yX4_coil yX4_coil, Cond.initialized RX4, Cond.code yX4_coil cX4_coil 4 (some .int), Cond.fieldLink RX4 22 "NeedleGrid" "history" "LNeedleGrid$History;", Cond.fieldLink RX4 12 "NeedleGrid" "now" "LNeedleGrid$Grid;", Cond.methodLink RX4 51 yX4_requireBetween, Cond.static yX4_requireBetween, Cond.code yX4_requireBetween cX4_requireBetween 3 none, Cond.classLink RX4 127 "java/lang/IllegalArgumentException", Cond.initialized "java/lang/IllegalArgumentException", Cond.methodLink RX4 37 yX4_requireDirection, Cond.static yX4_requireDirection, Cond.code yX4_requireDirection cX4_requireDirection 1 none, Cond.methodLink RX4 40 yX3_save, Cond.instanceMethod yX3_save, Cond.selects RX3 yX3_save yX3_save, Cond.initialized RX3, Cond.code yX3_save cX3_save 3 none, Cond.fieldLink RX3 11 "NeedleGrid$History" "ring" "[LNeedleGrid$Grid;", Cond.fieldLink RX3 18 "NeedleGrid$History" "next" "I", Cond.fieldLink RX3 26 "NeedleGrid$History" "amount" "I"]
def wsL_coil_r2 : List Cond := [Cond.methodLink RX3 22 yX2_copyFrom, Cond.instanceMethod yX2_copyFrom, Cond.selects RX2 yX2_copyFrom yX2_copyFrom, Cond.initialized RX2, Cond.code yX2_copyFrom cX2_copyFrom 3 none, Cond.fieldLink RX2 9 "NeedleGrid$Grid" "directions" "[I", Cond.fieldLink RX2 15 "NeedleGrid$Grid" "frictions" "[I", Cond.fieldLink RX2 18 "NeedleGrid$Grid" "held" "[Z", Cond.fieldLink RX2 22 "NeedleGrid$Grid" "barDirections" "[I", Cond.fieldLink RX2 25 "NeedleGrid$Grid" "barStrengths" "[I", Cond.fieldLink RX2 31 "NeedleGrid$Grid" "stillX" "[I", Cond.fieldLink RX2 34 "NeedleGrid$Grid" "stillY" "[I", Cond.fieldLink RX2 37 "NeedleGrid$Grid" "fieldX" "[I", Cond.fieldLink RX2 40 "NeedleGrid$Grid" "fieldY" "[I", Cond.fieldLink RX2 28 "NeedleGrid$Grid" "settings" "[I", Cond.fieldLink RX2 46 "NeedleGrid$Grid" "turns" "I", Cond.fieldLink RX2 50 "NeedleGrid$Grid" "coilDirection" "I", Cond.fieldLink RX2 53 "NeedleGrid$Grid" "stepsSoFar" "I", Cond.methodLink RX4 84 yX2_measureAll, Cond.instanceMethod yX2_measureAll, Cond.selects RX2 yX2_measureAll yX2_measureAll, Cond.code yX2_measureAll cX2_measureAll 5 none, Cond.static yX4_across, Cond.code yX4_across cX4_across 1 (some .int)]
def wsL_coil_r3 : List Cond := [Cond.fieldLink RX4 284 "NeedleGrid" "ACROSS" "[I", Cond.static yX4_down, Cond.code yX4_down cX4_down 1 (some .int), Cond.fieldLink RX4 287 "NeedleGrid" "DOWN" "[I", Cond.methodLink RX2 63 yX2_hasBar, Cond.instanceMethod yX2_hasBar, Cond.selects RX2 yX2_hasBar yX2_hasBar, Cond.code yX2_hasBar cX2_hasBar 2 (some .boolean), Cond.methodLink RX2 67 yX2_addBarToStill, Cond.instanceMethod yX2_addBarToStill, Cond.selects RX2 yX2_addBarToStill yX2_addBarToStill, Cond.code yX2_addBarToStill cX2_addBarToStill 6 none, Cond.static yX4_pull, Cond.code yX4_pull cX4_pull 12 (some .int), Cond.methodLink RX4 290 yX4_across, Cond.methodLink RX4 293 yX4_down, Cond.methodLink RX2 71 yX2_measureField, Cond.instanceMethod yX2_measureField, Cond.selects RX2 yX2_measureField yX2_measureField, Cond.code yX2_measureField cX2_measureField 2 none, Cond.methodLink RX2 78 yX2_addNeedleToNeighbours, Cond.instanceMethod yX2_addNeedleToNeighbours, Cond.selects RX2 yX2_addNeedleToNeighbours yX2_addNeedleToNeighbours, Cond.code yX2_addNeedleToNeighbours cX2_addNeedleToNeighbours 5 none]
def wsL_coil_r4 : List Cond := [Cond.methodLink RX2 81 yX2_addToField, Cond.instanceMethod yX2_addToField, Cond.selects RX2 yX2_addToField yX2_addToField, Cond.code yX2_addToField cX2_addToField 4 none]
def wsL_coil : List Cond := .codeWith yL_coil cL_coil 5 (some .int) [(0, 10, 13, 15)] :: ((wsL_coil_r1 ++ (wsL_coil_r2 ++ (wsL_coil_r3 ++ wsL_coil_r4))) ++ wsX40 ++ wsX20 ++ wsX30 ++ (vx_atS RX4 131 "java/lang/IllegalArgumentException" ["java/lang/RuntimeException", "java/lang/Exception"]).filter goodWord)
def wsL_set_r1 : List Cond := [Cond.classLink RL 13 "java/lang/IndexOutOfBoundsException", Cond.classLink RL 15 "java/lang/IllegalArgumentException", Cond.methodLink RL 40 yX4_set, Cond.instanceMethod yX4_set, Cond.selects RX4 yX4_set yX4_set, Cond.initialized RX4, Cond.code yX4_set cX4_set 4 (some .int), Cond.fieldLink RX4 102 "NeedleGrid" "MOST_OF_SETTING" "[I", Cond.fieldLink RX4 22 "NeedleGrid" "history" "LNeedleGrid$History;", Cond.fieldLink RX4 12 "NeedleGrid" "now" "LNeedleGrid$Grid;", Cond.methodLink RX4 99 yX4_requireSetting, Cond.static yX4_requireSetting, Cond.code yX4_requireSetting cX4_requireSetting 1 none, Cond.classLink RX4 275 "java/lang/IndexOutOfBoundsException", Cond.initialized "java/lang/IndexOutOfBoundsException", Cond.methodLink RX4 51 yX4_requireBetween, Cond.static yX4_requireBetween, Cond.code yX4_requireBetween cX4_requireBetween 3 none, Cond.classLink RX4 127 "java/lang/IllegalArgumentException", Cond.initialized "java/lang/IllegalArgumentException", Cond.methodLink RX4 40 yX3_save, Cond.instanceMethod yX3_save, Cond.selects RX3 yX3_save yX3_save, Cond.initialized RX3]
def wsL_set_r2 : List Cond := [Cond.code yX3_save cX3_save 3 none, Cond.fieldLink RX3 11 "NeedleGrid$History" "ring" "[LNeedleGrid$Grid;", Cond.fieldLink RX3 18 "NeedleGrid$History" "next" "I", Cond.fieldLink RX3 26 "NeedleGrid$History" "amount" "I", Cond.methodLink RX3 22 yX2_copyFrom, Cond.instanceMethod yX2_copyFrom, Cond.selects RX2 yX2_copyFrom yX2_copyFrom, Cond.initialized RX2, Cond.code yX2_copyFrom cX2_copyFrom 3 none, Cond.fieldLink RX2 9 "NeedleGrid$Grid" "directions" "[I", Cond.fieldLink RX2 15 "NeedleGrid$Grid" "frictions" "[I", Cond.fieldLink RX2 18 "NeedleGrid$Grid" "held" "[Z", Cond.fieldLink RX2 22 "NeedleGrid$Grid" "barDirections" "[I", Cond.fieldLink RX2 25 "NeedleGrid$Grid" "barStrengths" "[I", Cond.fieldLink RX2 31 "NeedleGrid$Grid" "stillX" "[I", Cond.fieldLink RX2 34 "NeedleGrid$Grid" "stillY" "[I", Cond.fieldLink RX2 37 "NeedleGrid$Grid" "fieldX" "[I", Cond.fieldLink RX2 40 "NeedleGrid$Grid" "fieldY" "[I", Cond.fieldLink RX2 28 "NeedleGrid$Grid" "settings" "[I", Cond.fieldLink RX2 46 "NeedleGrid$Grid" "turns" "I", Cond.fieldLink RX2 50 "NeedleGrid$Grid" "coilDirection" "I", Cond.fieldLink RX2 53 "NeedleGrid$Grid" "stepsSoFar" "I", Cond.methodLink RX4 84 yX2_measureAll, Cond.instanceMethod yX2_measureAll]
def wsL_set_r3 : List Cond := [Cond.selects RX2 yX2_measureAll yX2_measureAll, Cond.code yX2_measureAll cX2_measureAll 5 none, Cond.static yX4_across, Cond.code yX4_across cX4_across 1 (some .int), Cond.fieldLink RX4 284 "NeedleGrid" "ACROSS" "[I", Cond.static yX4_down, Cond.code yX4_down cX4_down 1 (some .int), Cond.fieldLink RX4 287 "NeedleGrid" "DOWN" "[I", Cond.methodLink RX2 63 yX2_hasBar, Cond.instanceMethod yX2_hasBar, Cond.selects RX2 yX2_hasBar yX2_hasBar, Cond.code yX2_hasBar cX2_hasBar 2 (some .boolean), Cond.methodLink RX2 67 yX2_addBarToStill, Cond.instanceMethod yX2_addBarToStill, Cond.selects RX2 yX2_addBarToStill yX2_addBarToStill, Cond.code yX2_addBarToStill cX2_addBarToStill 6 none, Cond.static yX4_pull, Cond.code yX4_pull cX4_pull 12 (some .int), Cond.methodLink RX4 290 yX4_across, Cond.methodLink RX4 293 yX4_down, Cond.methodLink RX2 71 yX2_measureField, Cond.instanceMethod yX2_measureField, Cond.selects RX2 yX2_measureField yX2_measureField, Cond.code yX2_measureField cX2_measureField 2 none]
def wsL_set_r4 : List Cond := [Cond.methodLink RX2 78 yX2_addNeedleToNeighbours, Cond.instanceMethod yX2_addNeedleToNeighbours, Cond.selects RX2 yX2_addNeedleToNeighbours yX2_addNeedleToNeighbours, Cond.code yX2_addNeedleToNeighbours cX2_addNeedleToNeighbours 5 none, Cond.methodLink RX2 81 yX2_addToField, Cond.instanceMethod yX2_addToField, Cond.selects RX2 yX2_addToField yX2_addToField, Cond.code yX2_addToField cX2_addToField 4 none]
def wsL_set : List Cond := .codeWith yL_set cL_set 5 (some .int) [(0, 10, 13, 13), (0, 10, 17, 15)] :: ((wsL_set_r1 ++ (wsL_set_r2 ++ (wsL_set_r3 ++ wsL_set_r4))) ++ wsX40 ++ wsX20 ++ wsX30 ++ (vx_atS RX4 279 "java/lang/IndexOutOfBoundsException" ["java/lang/RuntimeException", "java/lang/Exception"]).filter goodWord ++ (vx_atS RX4 131 "java/lang/IllegalArgumentException" ["java/lang/RuntimeException", "java/lang/Exception"]).filter goodWord)
def wsL_step_r1 : List Cond := [Cond.classLink RL 15 "java/lang/IllegalArgumentException", Cond.methodLink RL 43 yX4_step, Cond.instanceMethod yX4_step, Cond.selects RX4 yX4_step yX4_step, Cond.initialized RX4, Cond.code yX4_step cX4_step 2 (some .int), Cond.fieldLink RX4 22 "NeedleGrid" "history" "LNeedleGrid$History;", Cond.fieldLink RX4 12 "NeedleGrid" "now" "LNeedleGrid$Grid;", Cond.methodLink RX4 51 yX4_requireBetween, Cond.static yX4_requireBetween, Cond.code yX4_requireBetween cX4_requireBetween 3 none, Cond.classLink RX4 127 "java/lang/IllegalArgumentException", Cond.initialized "java/lang/IllegalArgumentException", Cond.methodLink RX4 40 yX3_save, Cond.instanceMethod yX3_save, Cond.selects RX3 yX3_save yX3_save, Cond.initialized RX3, Cond.code yX3_save cX3_save 3 none, Cond.fieldLink RX3 11 "NeedleGrid$History" "ring" "[LNeedleGrid$Grid;", Cond.fieldLink RX3 18 "NeedleGrid$History" "next" "I", Cond.fieldLink RX3 26 "NeedleGrid$History" "amount" "I", Cond.methodLink RX3 22 yX2_copyFrom, Cond.instanceMethod yX2_copyFrom, Cond.selects RX2 yX2_copyFrom yX2_copyFrom]
def wsL_step_r2 : List Cond := [Cond.initialized RX2, Cond.code yX2_copyFrom cX2_copyFrom 3 none, Cond.fieldLink RX2 9 "NeedleGrid$Grid" "directions" "[I", Cond.fieldLink RX2 15 "NeedleGrid$Grid" "frictions" "[I", Cond.fieldLink RX2 18 "NeedleGrid$Grid" "held" "[Z", Cond.fieldLink RX2 22 "NeedleGrid$Grid" "barDirections" "[I", Cond.fieldLink RX2 25 "NeedleGrid$Grid" "barStrengths" "[I", Cond.fieldLink RX2 31 "NeedleGrid$Grid" "stillX" "[I", Cond.fieldLink RX2 34 "NeedleGrid$Grid" "stillY" "[I", Cond.fieldLink RX2 37 "NeedleGrid$Grid" "fieldX" "[I", Cond.fieldLink RX2 40 "NeedleGrid$Grid" "fieldY" "[I", Cond.fieldLink RX2 28 "NeedleGrid$Grid" "settings" "[I", Cond.fieldLink RX2 46 "NeedleGrid$Grid" "turns" "I", Cond.fieldLink RX2 50 "NeedleGrid$Grid" "coilDirection" "I", Cond.fieldLink RX2 53 "NeedleGrid$Grid" "stepsSoFar" "I", Cond.methodLink RX4 108 yX2_letGoBy, Cond.instanceMethod yX2_letGoBy, Cond.selects RX2 yX2_letGoBy yX2_letGoBy, Cond.code yX2_letGoBy cX2_letGoBy 4 (some .int), Cond.methodLink RX2 98 yX2_turnAll, Cond.instanceMethod yX2_turnAll, Cond.selects RX2 yX2_turnAll yX2_turnAll, Cond.code yX2_turnAll cX2_turnAll 4 (some .int), Cond.methodLink RX2 95 yX2_directionAfterStep]
def wsL_step_r3 : List Cond := [Cond.instanceMethod yX2_directionAfterStep, Cond.selects RX2 yX2_directionAfterStep yX2_directionAfterStep, Cond.code yX2_directionAfterStep cX2_directionAfterStep 8 (some .int), Cond.static yX4_aimOf, Cond.code yX4_aimOf cX4_aimOf 4 (some .int), Cond.static yX4_ahead, Cond.code yX4_ahead cX4_ahead 2 (some .int), Cond.methodLink RX2 71 yX2_measureField, Cond.instanceMethod yX2_measureField, Cond.selects RX2 yX2_measureField yX2_measureField, Cond.code yX2_measureField cX2_measureField 2 none, Cond.methodLink RX2 78 yX2_addNeedleToNeighbours, Cond.instanceMethod yX2_addNeedleToNeighbours, Cond.selects RX2 yX2_addNeedleToNeighbours yX2_addNeedleToNeighbours, Cond.code yX2_addNeedleToNeighbours cX2_addNeedleToNeighbours 5 none, Cond.static yX4_across, Cond.code yX4_across cX4_across 1 (some .int), Cond.fieldLink RX4 284 "NeedleGrid" "ACROSS" "[I", Cond.static yX4_down, Cond.code yX4_down cX4_down 1 (some .int), Cond.fieldLink RX4 287 "NeedleGrid" "DOWN" "[I", Cond.methodLink RX2 81 yX2_addToField, Cond.instanceMethod yX2_addToField, Cond.selects RX2 yX2_addToField yX2_addToField]
def wsL_step_r4 : List Cond := [Cond.code yX2_addToField cX2_addToField 4 none]
def wsL_step : List Cond := .codeWith yL_step cL_step 4 (some .int) [(0, 9, 12, 15)] :: ((wsL_step_r1 ++ (wsL_step_r2 ++ (wsL_step_r3 ++ wsL_step_r4))) ++ wsX40 ++ wsX30 ++ wsX20 ++ (vx_atS RX4 131 "java/lang/IllegalArgumentException" ["java/lang/RuntimeException", "java/lang/Exception"]).filter goodWord)
def wsL_append : List Cond := .codeWith yL_append cL_append 4 (some .int) [(0, 9, 12, 15), (0, 9, 15, 31)] :: ([.classLink RL 15 "java/lang/IllegalArgumentException", .classLink RL 31 "java/lang/IllegalStateException", .methodLink RL 46 yX4_append, .instanceMethod yX4_append, .selects RX4 yX4_append yX4_append, .initialized RX4, .code yX4_append cX4_append 2 (some .int), .classLink RX4 74 "java/lang/IllegalStateException", .initialized "java/lang/IllegalStateException", .fieldLink RX4 29 "NeedleGrid" "text" "LNeedleGrid$BarText;", .methodLink RX4 51 yX4_requireBetween, .static yX4_requireBetween, .code yX4_requireBetween cX4_requireBetween 3 none, .classLink RX4 127 "java/lang/IllegalArgumentException", .initialized "java/lang/IllegalArgumentException", .methodLink RX4 117 yX1_add, .instanceMethod yX1_add, .selects RX1 yX1_add yX1_add, .initialized RX1, .code yX1_add cX1_add 2 none, .fieldLink RX1 22 "NeedleGrid$BarText" "length" "I", .fieldLink RX1 9 "NeedleGrid$BarText" "codes" "[I"] ++ wsX40 ++ wsX10 ++ (vx_atS RX4 78 "java/lang/IllegalStateException" ["java/lang/RuntimeException", "java/lang/Exception"]).filter goodWord ++ (vx_atS RX4 131 "java/lang/IllegalArgumentException" ["java/lang/RuntimeException", "java/lang/Exception"]).filter goodWord)
def wsL_bars_r1 : List Cond := [Cond.classLink RL 15 "java/lang/IllegalArgumentException", Cond.methodLink RL 49 yX4_bars, Cond.instanceMethod yX4_bars, Cond.selects RX4 yX4_bars yX4_bars, Cond.initialized RX4, Cond.code yX4_bars cX4_bars 1 (some .int), Cond.classLink RX4 127 "java/lang/IllegalArgumentException", Cond.initialized "java/lang/IllegalArgumentException", Cond.fieldLink RX4 29 "NeedleGrid" "text" "LNeedleGrid$BarText;", Cond.fieldLink RX4 22 "NeedleGrid" "history" "LNeedleGrid$History;", Cond.fieldLink RX4 12 "NeedleGrid" "now" "LNeedleGrid$Grid;", Cond.methodLink RX4 123 yX1_isComplete, Cond.instanceMethod yX1_isComplete, Cond.selects RX1 yX1_isComplete yX1_isComplete, Cond.initialized RX1, Cond.code yX1_isComplete cX1_isComplete 1 (some .boolean), Cond.fieldLink RX1 22 "NeedleGrid$BarText" "length" "I", Cond.fieldLink RX1 18 "NeedleGrid$BarText" "reader" "LNeedleGrid$BarReader;", Cond.methodLink RX1 33 yX1_goodLength, Cond.instanceMethod yX1_goodLength, Cond.selects RX1 yX1_goodLength yX1_goodLength, Cond.code yX1_goodLength cX1_goodLength 2 (some .int), Cond.fieldLink RX1 9 "NeedleGrid$BarText" "codes" "[I", Cond.methodLink RX1 26 yX0_begin]
def wsL_bars_r2 : List Cond := [Cond.instanceMethod yX0_begin, Cond.selects RX0 yX0_begin yX0_begin, Cond.initialized RX0, Cond.code yX0_begin cX0_begin 1 none, Cond.fieldLink RX0 11 "NeedleGrid$BarReader" "due" "I", Cond.fieldLink RX0 15 "NeedleGrid$BarReader" "parts" "I", Cond.methodLink RX1 29 yX0_take, Cond.instanceMethod yX0_take, Cond.selects RX0 yX0_take yX0_take, Cond.code yX0_take cX0_take 3 (some .boolean), Cond.fieldLink RX0 18 "NeedleGrid$BarReader" "column" "I", Cond.fieldLink RX0 25 "NeedleGrid$BarReader" "row" "I", Cond.fieldLink RX0 28 "NeedleGrid$BarReader" "direction" "I", Cond.fieldLink RX0 31 "NeedleGrid$BarReader" "strength" "I", Cond.methodLink RX0 21 yX0_goOn, Cond.instanceMethod yX0_goOn, Cond.selects RX0 yX0_goOn yX0_goOn, Cond.code yX0_goOn cX0_goOn 3 (some .boolean), Cond.methodLink RX0 34 yX0_takeBehindStrength, Cond.instanceMethod yX0_takeBehindStrength, Cond.selects RX0 yX0_takeBehindStrength yX0_takeBehindStrength, Cond.code yX0_takeBehindStrength cX0_takeBehindStrength 3 (some .boolean), Cond.methodLink RX1 37 yX0_isBehindStrength, Cond.instanceMethod yX0_isBehindStrength]
def wsL_bars_r3 : List Cond := [Cond.selects RX0 yX0_isBehindStrength yX0_isBehindStrength, Cond.code yX0_isBehindStrength cX0_isBehindStrength 1 (some .boolean), Cond.methodLink RX4 40 yX3_save, Cond.instanceMethod yX3_save, Cond.selects RX3 yX3_save yX3_save, Cond.initialized RX3, Cond.code yX3_save cX3_save 3 none, Cond.fieldLink RX3 11 "NeedleGrid$History" "ring" "[LNeedleGrid$Grid;", Cond.fieldLink RX3 18 "NeedleGrid$History" "next" "I", Cond.fieldLink RX3 26 "NeedleGrid$History" "amount" "I", Cond.methodLink RX3 22 yX2_copyFrom, Cond.instanceMethod yX2_copyFrom, Cond.selects RX2 yX2_copyFrom yX2_copyFrom, Cond.initialized RX2, Cond.code yX2_copyFrom cX2_copyFrom 3 none, Cond.fieldLink RX2 9 "NeedleGrid$Grid" "directions" "[I", Cond.fieldLink RX2 15 "NeedleGrid$Grid" "frictions" "[I", Cond.fieldLink RX2 18 "NeedleGrid$Grid" "held" "[Z", Cond.fieldLink RX2 22 "NeedleGrid$Grid" "barDirections" "[I", Cond.fieldLink RX2 25 "NeedleGrid$Grid" "barStrengths" "[I", Cond.fieldLink RX2 31 "NeedleGrid$Grid" "stillX" "[I", Cond.fieldLink RX2 34 "NeedleGrid$Grid" "stillY" "[I", Cond.fieldLink RX2 37 "NeedleGrid$Grid" "fieldX" "[I", Cond.fieldLink RX2 40 "NeedleGrid$Grid" "fieldY" "[I"]
def wsL_bars_r4 : List Cond := [Cond.fieldLink RX2 28 "NeedleGrid$Grid" "settings" "[I", Cond.fieldLink RX2 46 "NeedleGrid$Grid" "turns" "I", Cond.fieldLink RX2 50 "NeedleGrid$Grid" "coilDirection" "I", Cond.fieldLink RX2 53 "NeedleGrid$Grid" "stepsSoFar" "I", Cond.methodLink RX4 132 yX2_takeAllBars, Cond.instanceMethod yX2_takeAllBars, Cond.selects RX2 yX2_takeAllBars yX2_takeAllBars, Cond.code yX2_takeAllBars cX2_takeAllBars 2 none, Cond.methodLink RX2 105 yX2_takeBar, Cond.instanceMethod yX2_takeBar, Cond.selects RX2 yX2_takeBar yX2_takeBar, Cond.code yX2_takeBar cX2_takeBar 2 none, Cond.methodLink RX2 102 yX2_layBar, Cond.instanceMethod yX2_layBar, Cond.selects RX2 yX2_layBar yX2_layBar, Cond.code yX2_layBar cX2_layBar 4 none, Cond.methodLink RX4 135 yX1_layInto, Cond.instanceMethod yX1_layInto, Cond.selects RX1 yX1_layInto yX1_layInto, Cond.code yX1_layInto cX1_layInto 3 none, Cond.methodLink RX1 41 yX0_layInto, Cond.instanceMethod yX0_layInto, Cond.selects RX0 yX0_layInto yX0_layInto, Cond.code yX0_layInto cX0_layInto 3 none]
def wsL_bars_r5 : List Cond := [Cond.methodLink RX0 38 yX2_layBar, Cond.methodLink RX4 84 yX2_measureAll, Cond.instanceMethod yX2_measureAll, Cond.selects RX2 yX2_measureAll yX2_measureAll, Cond.code yX2_measureAll cX2_measureAll 5 none, Cond.static yX4_across, Cond.code yX4_across cX4_across 1 (some .int), Cond.fieldLink RX4 284 "NeedleGrid" "ACROSS" "[I", Cond.static yX4_down, Cond.code yX4_down cX4_down 1 (some .int), Cond.fieldLink RX4 287 "NeedleGrid" "DOWN" "[I", Cond.methodLink RX2 63 yX2_hasBar, Cond.instanceMethod yX2_hasBar, Cond.selects RX2 yX2_hasBar yX2_hasBar, Cond.code yX2_hasBar cX2_hasBar 2 (some .boolean), Cond.methodLink RX2 67 yX2_addBarToStill, Cond.instanceMethod yX2_addBarToStill, Cond.selects RX2 yX2_addBarToStill yX2_addBarToStill, Cond.code yX2_addBarToStill cX2_addBarToStill 6 none, Cond.static yX4_pull, Cond.code yX4_pull cX4_pull 12 (some .int), Cond.methodLink RX4 290 yX4_across, Cond.methodLink RX4 293 yX4_down, Cond.methodLink RX2 71 yX2_measureField]
def wsL_bars_r6 : List Cond := [Cond.instanceMethod yX2_measureField, Cond.selects RX2 yX2_measureField yX2_measureField, Cond.code yX2_measureField cX2_measureField 2 none, Cond.methodLink RX2 78 yX2_addNeedleToNeighbours, Cond.instanceMethod yX2_addNeedleToNeighbours, Cond.selects RX2 yX2_addNeedleToNeighbours yX2_addNeedleToNeighbours, Cond.code yX2_addNeedleToNeighbours cX2_addNeedleToNeighbours 5 none, Cond.methodLink RX2 81 yX2_addToField, Cond.instanceMethod yX2_addToField, Cond.selects RX2 yX2_addToField yX2_addToField, Cond.code yX2_addToField cX2_addToField 4 none, Cond.methodLink RX4 70 yX2_barCount, Cond.instanceMethod yX2_barCount, Cond.selects RX2 yX2_barCount yX2_barCount, Cond.code yX2_barCount cX2_barCount 3 (some .int)]
def wsL_bars : List Cond := .codeWith yL_bars cL_bars 3 (some .int) [(0, 8, 11, 15)] :: ((wsL_bars_r1 ++ (wsL_bars_r2 ++ (wsL_bars_r3 ++ (wsL_bars_r4 ++ (wsL_bars_r5 ++ wsL_bars_r6))))) ++ wsX40 ++ wsX10 ++ wsX00 ++ wsX30 ++ wsX20 ++ (vx_atS RX4 131 "java/lang/IllegalArgumentException" ["java/lang/RuntimeException", "java/lang/Exception"]).filter goodWord)
def wsL_undo_r1 : List Cond := [Cond.classLink RL 31 "java/lang/IllegalStateException", Cond.methodLink RL 53 yX4_undo, Cond.instanceMethod yX4_undo, Cond.selects RX4 yX4_undo yX4_undo, Cond.initialized RX4, Cond.code yX4_undo cX4_undo 1 (some .int), Cond.classLink RX4 74 "java/lang/IllegalStateException", Cond.initialized "java/lang/IllegalStateException", Cond.fieldLink RX4 22 "NeedleGrid" "history" "LNeedleGrid$History;", Cond.fieldLink RX4 12 "NeedleGrid" "now" "LNeedleGrid$Grid;", Cond.methodLink RX4 143 yX3_restoreInto, Cond.instanceMethod yX3_restoreInto, Cond.selects RX3 yX3_restoreInto yX3_restoreInto, Cond.initialized RX3, Cond.code yX3_restoreInto cX3_restoreInto 3 none, Cond.fieldLink RX3 18 "NeedleGrid$History" "next" "I", Cond.fieldLink RX3 26 "NeedleGrid$History" "amount" "I", Cond.fieldLink RX3 11 "NeedleGrid$History" "ring" "[LNeedleGrid$Grid;", Cond.methodLink RX3 22 yX2_copyFrom, Cond.instanceMethod yX2_copyFrom, Cond.selects RX2 yX2_copyFrom yX2_copyFrom, Cond.initialized RX2, Cond.code yX2_copyFrom cX2_copyFrom 3 none, Cond.fieldLink RX2 9 "NeedleGrid$Grid" "directions" "[I"]
def wsL_undo_r2 : List Cond := [Cond.fieldLink RX2 15 "NeedleGrid$Grid" "frictions" "[I", Cond.fieldLink RX2 18 "NeedleGrid$Grid" "held" "[Z", Cond.fieldLink RX2 22 "NeedleGrid$Grid" "barDirections" "[I", Cond.fieldLink RX2 25 "NeedleGrid$Grid" "barStrengths" "[I", Cond.fieldLink RX2 31 "NeedleGrid$Grid" "stillX" "[I", Cond.fieldLink RX2 34 "NeedleGrid$Grid" "stillY" "[I", Cond.fieldLink RX2 37 "NeedleGrid$Grid" "fieldX" "[I", Cond.fieldLink RX2 40 "NeedleGrid$Grid" "fieldY" "[I", Cond.fieldLink RX2 28 "NeedleGrid$Grid" "settings" "[I", Cond.fieldLink RX2 46 "NeedleGrid$Grid" "turns" "I", Cond.fieldLink RX2 50 "NeedleGrid$Grid" "coilDirection" "I", Cond.fieldLink RX2 53 "NeedleGrid$Grid" "stepsSoFar" "I"]
def wsL_undo : List Cond := .codeWith yL_undo cL_undo 3 (some .int) [(0, 8, 11, 31)] :: ((wsL_undo_r1 ++ wsL_undo_r2) ++ wsX40 ++ wsX30 ++ wsX20 ++ (vx_atS RX4 78 "java/lang/IllegalStateException" ["java/lang/RuntimeException", "java/lang/Exception"]).filter goodWord)
def wsL_cell_r1 : List Cond := [Cond.classLink RL 13 "java/lang/IndexOutOfBoundsException", Cond.classLink RL 15 "java/lang/IllegalArgumentException", Cond.methodLink RL 56 yX4_cell, Cond.instanceMethod yX4_cell, Cond.selects RX4 yX4_cell yX4_cell, Cond.initialized RX4, Cond.code yX4_cell cX4_cell 3 (some .int), Cond.classLink RX4 127 "java/lang/IllegalArgumentException", Cond.initialized "java/lang/IllegalArgumentException", Cond.fieldLink RX4 12 "NeedleGrid" "now" "LNeedleGrid$Grid;", Cond.constant RX4 149 (100000), Cond.methodLink RX4 33 yX4_requireCell, Cond.static yX4_requireCell, Cond.code yX4_requireCell cX4_requireCell 1 none, Cond.classLink RX4 275 "java/lang/IndexOutOfBoundsException", Cond.initialized "java/lang/IndexOutOfBoundsException", Cond.methodLink RX4 153 yX2_aim, Cond.instanceMethod yX2_aim, Cond.selects RX2 yX2_aim yX2_aim, Cond.initialized RX2, Cond.code yX2_aim cX2_aim 2 (some .int), Cond.fieldLink RX2 37 "NeedleGrid$Grid" "fieldX" "[I", Cond.fieldLink RX2 40 "NeedleGrid$Grid" "fieldY" "[I", Cond.static yX4_aimOf]
def wsL_cell_r2 : List Cond := [Cond.code yX4_aimOf cX4_aimOf 4 (some .int), Cond.methodLink RX4 156 yX2_wouldTurn, Cond.instanceMethod yX2_wouldTurn, Cond.selects RX2 yX2_wouldTurn yX2_wouldTurn, Cond.code yX2_wouldTurn cX2_wouldTurn 2 (some .boolean), Cond.fieldLink RX2 9 "NeedleGrid$Grid" "directions" "[I", Cond.methodLink RX2 95 yX2_directionAfterStep, Cond.instanceMethod yX2_directionAfterStep, Cond.selects RX2 yX2_directionAfterStep yX2_directionAfterStep, Cond.code yX2_directionAfterStep cX2_directionAfterStep 8 (some .int), Cond.fieldLink RX2 18 "NeedleGrid$Grid" "held" "[Z", Cond.fieldLink RX2 15 "NeedleGrid$Grid" "frictions" "[I", Cond.static yX4_ahead, Cond.code yX4_ahead cX4_ahead 2 (some .int), Cond.methodLink RX4 159 yX2_awayFromAim, Cond.instanceMethod yX2_awayFromAim, Cond.selects RX2 yX2_awayFromAim yX2_awayFromAim, Cond.code yX2_awayFromAim cX2_awayFromAim 4 (some .int), Cond.methodLink RX2 89 yX2_aim]
def wsL_cell : List Cond := .codeWith yL_cell cL_cell 5 (some .int) [(0, 10, 13, 13), (0, 10, 17, 15)] :: ((wsL_cell_r1 ++ wsL_cell_r2) ++ wsX40 ++ wsX20 ++ (vx_atS RX4 131 "java/lang/IllegalArgumentException" ["java/lang/RuntimeException", "java/lang/Exception"]).filter goodWord ++ (vx_atS RX4 279 "java/lang/IndexOutOfBoundsException" ["java/lang/RuntimeException", "java/lang/Exception"]).filter goodWord)
def wsL_barOf : List Cond := .codeWith yL_barOf cL_barOf 5 (some .int) [(0, 10, 13, 15)] :: ([.classLink RL 15 "java/lang/IllegalArgumentException", .methodLink RL 59 yX4_barOf, .instanceMethod yX4_barOf, .selects RX4 yX4_barOf yX4_barOf, .initialized RX4, .code yX4_barOf cX4_barOf 4 (some .int), .classLink RX4 127 "java/lang/IllegalArgumentException", .initialized "java/lang/IllegalArgumentException", .fieldLink RX4 12 "NeedleGrid" "now" "LNeedleGrid$Grid;", .methodLink RX4 51 yX4_requireBetween, .static yX4_requireBetween, .code yX4_requireBetween cX4_requireBetween 3 none, .methodLink RX4 166 yX2_cellOfBar, .instanceMethod yX2_cellOfBar, .selects RX2 yX2_cellOfBar yX2_cellOfBar, .initialized RX2, .code yX2_cellOfBar cX2_cellOfBar 4 (some .int), .methodLink RX2 63 yX2_hasBar, .instanceMethod yX2_hasBar, .selects RX2 yX2_hasBar yX2_hasBar, .code yX2_hasBar cX2_hasBar 2 (some .boolean), .fieldLink RX2 25 "NeedleGrid$Grid" "barStrengths" "[I"] ++ wsX40 ++ wsX20 ++ (vx_atS RX4 131 "java/lang/IllegalArgumentException" ["java/lang/RuntimeException", "java/lang/Exception"]).filter goodWord)
def wsL_count_r1 : List Cond := [Cond.classLink RL 15 "java/lang/IllegalArgumentException", Cond.methodLink RL 62 yX4_count, Cond.instanceMethod yX4_count, Cond.selects RX4 yX4_count yX4_count, Cond.initialized RX4, Cond.code yX4_count cX4_count 2 (some .int), Cond.classLink RX4 127 "java/lang/IllegalArgumentException", Cond.initialized "java/lang/IllegalArgumentException", Cond.fieldLink RX4 12 "NeedleGrid" "now" "LNeedleGrid$Grid;", Cond.fieldLink RX4 22 "NeedleGrid" "history" "LNeedleGrid$History;", Cond.methodLink RX4 70 yX2_barCount, Cond.instanceMethod yX2_barCount, Cond.selects RX2 yX2_barCount yX2_barCount, Cond.initialized RX2, Cond.code yX2_barCount cX2_barCount 3 (some .int), Cond.methodLink RX2 63 yX2_hasBar, Cond.instanceMethod yX2_hasBar, Cond.selects RX2 yX2_hasBar yX2_hasBar, Cond.code yX2_hasBar cX2_hasBar 2 (some .boolean), Cond.fieldLink RX2 25 "NeedleGrid$Grid" "barStrengths" "[I", Cond.methodLink RX4 178 yX2_heldCount, Cond.instanceMethod yX2_heldCount, Cond.selects RX2 yX2_heldCount yX2_heldCount, Cond.code yX2_heldCount cX2_heldCount 3 (some .int)]
def wsL_count_r2 : List Cond := [Cond.fieldLink RX2 18 "NeedleGrid$Grid" "held" "[Z", Cond.methodLink RX4 181 yX2_turningCount, Cond.instanceMethod yX2_turningCount, Cond.selects RX2 yX2_turningCount yX2_turningCount, Cond.code yX2_turningCount cX2_turningCount 3 (some .int), Cond.methodLink RX2 108 yX2_wouldTurn, Cond.instanceMethod yX2_wouldTurn, Cond.selects RX2 yX2_wouldTurn yX2_wouldTurn, Cond.code yX2_wouldTurn cX2_wouldTurn 2 (some .boolean), Cond.fieldLink RX2 9 "NeedleGrid$Grid" "directions" "[I", Cond.methodLink RX2 95 yX2_directionAfterStep, Cond.instanceMethod yX2_directionAfterStep, Cond.selects RX2 yX2_directionAfterStep yX2_directionAfterStep, Cond.code yX2_directionAfterStep cX2_directionAfterStep 8 (some .int), Cond.fieldLink RX2 37 "NeedleGrid$Grid" "fieldX" "[I", Cond.fieldLink RX2 40 "NeedleGrid$Grid" "fieldY" "[I", Cond.fieldLink RX2 15 "NeedleGrid$Grid" "frictions" "[I", Cond.static yX4_aimOf, Cond.code yX4_aimOf cX4_aimOf 4 (some .int), Cond.static yX4_ahead, Cond.code yX4_ahead cX4_ahead 2 (some .int), Cond.methodLink RX4 184 yX2_obeyingCount, Cond.instanceMethod yX2_obeyingCount, Cond.selects RX2 yX2_obeyingCount yX2_obeyingCount]
def wsL_count_r3 : List Cond := [Cond.code yX2_obeyingCount cX2_obeyingCount 3 (some .int), Cond.methodLink RX2 89 yX2_aim, Cond.instanceMethod yX2_aim, Cond.selects RX2 yX2_aim yX2_aim, Cond.code yX2_aim cX2_aim 2 (some .int), Cond.methodLink RX4 187 yX2_awayTogether, Cond.instanceMethod yX2_awayTogether, Cond.selects RX2 yX2_awayTogether yX2_awayTogether, Cond.code yX2_awayTogether cX2_awayTogether 4 (some .int), Cond.methodLink RX2 111 yX2_awayFromAim, Cond.instanceMethod yX2_awayFromAim, Cond.selects RX2 yX2_awayFromAim yX2_awayFromAim, Cond.code yX2_awayFromAim cX2_awayFromAim 4 (some .int)]
def wsL_count : List Cond := .codeWith yL_count cL_count 4 (some .int) [(0, 9, 12, 15)] :: ((wsL_count_r1 ++ (wsL_count_r2 ++ wsL_count_r3)) ++ wsX40 ++ wsX20 ++ wsX30 ++ (vx_atS RX4 131 "java/lang/IllegalArgumentException" ["java/lang/RuntimeException", "java/lang/Exception"]).filter goodWord)
def wsL_pointing : List Cond := .codeWith yL_pointing cL_pointing 4 (some .int) [(0, 9, 12, 15)] :: ([.classLink RL 15 "java/lang/IllegalArgumentException", .methodLink RL 65 yX4_pointing, .instanceMethod yX4_pointing, .selects RX4 yX4_pointing yX4_pointing, .initialized RX4, .code yX4_pointing cX4_pointing 2 (some .int), .fieldLink RX4 12 "NeedleGrid" "now" "LNeedleGrid$Grid;", .methodLink RX4 37 yX4_requireDirection, .static yX4_requireDirection, .code yX4_requireDirection cX4_requireDirection 1 none, .methodLink RX4 51 yX4_requireBetween, .static yX4_requireBetween, .code yX4_requireBetween cX4_requireBetween 3 none, .classLink RX4 127 "java/lang/IllegalArgumentException", .initialized "java/lang/IllegalArgumentException", .methodLink RX4 192 yX2_pointingCount, .instanceMethod yX2_pointingCount, .selects RX2 yX2_pointingCount yX2_pointingCount, .initialized RX2, .code yX2_pointingCount cX2_pointingCount 4 (some .int), .fieldLink RX2 9 "NeedleGrid$Grid" "directions" "[I"] ++ wsX40 ++ wsX20 ++ (vx_atS RX4 131 "java/lang/IllegalArgumentException" ["java/lang/RuntimeException", "java/lang/Exception"]).filter goodWord)
def wsL_setting : List Cond := .codeWith yL_setting cL_setting 4 (some .int) [(0, 9, 12, 13)] :: ([.classLink RL 13 "java/lang/IndexOutOfBoundsException", .methodLink RL 68 yX4_setting, .instanceMethod yX4_setting, .selects RX4 yX4_setting yX4_setting, .initialized RX4, .code yX4_setting cX4_setting 2 (some .int), .fieldLink RX4 12 "NeedleGrid" "now" "LNeedleGrid$Grid;", .methodLink RX4 99 yX4_requireSetting, .static yX4_requireSetting, .code yX4_requireSetting cX4_requireSetting 1 none, .classLink RX4 275 "java/lang/IndexOutOfBoundsException", .initialized "java/lang/IndexOutOfBoundsException"] ++ wsX40 ++ wsX20 ++ (vx_atS RX4 279 "java/lang/IndexOutOfBoundsException" ["java/lang/RuntimeException", "java/lang/Exception"]).filter goodWord)
def wsL_points_r1 : List Cond := [Cond.classLink RL 13 "java/lang/IndexOutOfBoundsException", Cond.classLink RL 15 "java/lang/IllegalArgumentException", Cond.methodLink RL 71 yX4_points, Cond.instanceMethod yX4_points, Cond.selects RX4 yX4_points yX4_points, Cond.initialized RX4, Cond.code yX4_points cX4_points 3 (some .int), Cond.fieldLink RX4 16 "NeedleGrid" "trial" "LNeedleGrid$Grid;", Cond.fieldLink RX4 12 "NeedleGrid" "now" "LNeedleGrid$Grid;", Cond.methodLink RX4 33 yX4_requireCell, Cond.static yX4_requireCell, Cond.code yX4_requireCell cX4_requireCell 1 none, Cond.classLink RX4 275 "java/lang/IndexOutOfBoundsException", Cond.initialized "java/lang/IndexOutOfBoundsException", Cond.methodLink RX4 51 yX4_requireBetween, Cond.static yX4_requireBetween, Cond.code yX4_requireBetween cX4_requireBetween 3 none, Cond.classLink RX4 127 "java/lang/IllegalArgumentException", Cond.initialized "java/lang/IllegalArgumentException", Cond.methodLink RX4 195 yX2_copyFrom, Cond.instanceMethod yX2_copyFrom, Cond.selects RX2 yX2_copyFrom yX2_copyFrom, Cond.initialized RX2, Cond.code yX2_copyFrom cX2_copyFrom 3 none]
def wsL_points_r2 : List Cond := [Cond.fieldLink RX2 9 "NeedleGrid$Grid" "directions" "[I", Cond.fieldLink RX2 15 "NeedleGrid$Grid" "frictions" "[I", Cond.fieldLink RX2 18 "NeedleGrid$Grid" "held" "[Z", Cond.fieldLink RX2 22 "NeedleGrid$Grid" "barDirections" "[I", Cond.fieldLink RX2 25 "NeedleGrid$Grid" "barStrengths" "[I", Cond.fieldLink RX2 31 "NeedleGrid$Grid" "stillX" "[I", Cond.fieldLink RX2 34 "NeedleGrid$Grid" "stillY" "[I", Cond.fieldLink RX2 37 "NeedleGrid$Grid" "fieldX" "[I", Cond.fieldLink RX2 40 "NeedleGrid$Grid" "fieldY" "[I", Cond.fieldLink RX2 28 "NeedleGrid$Grid" "settings" "[I", Cond.fieldLink RX2 46 "NeedleGrid$Grid" "turns" "I", Cond.fieldLink RX2 50 "NeedleGrid$Grid" "coilDirection" "I", Cond.fieldLink RX2 53 "NeedleGrid$Grid" "stepsSoFar" "I", Cond.methodLink RX4 108 yX2_letGoBy, Cond.instanceMethod yX2_letGoBy, Cond.selects RX2 yX2_letGoBy yX2_letGoBy, Cond.code yX2_letGoBy cX2_letGoBy 4 (some .int), Cond.methodLink RX2 98 yX2_turnAll, Cond.instanceMethod yX2_turnAll, Cond.selects RX2 yX2_turnAll yX2_turnAll, Cond.code yX2_turnAll cX2_turnAll 4 (some .int), Cond.methodLink RX2 95 yX2_directionAfterStep, Cond.instanceMethod yX2_directionAfterStep, Cond.selects RX2 yX2_directionAfterStep yX2_directionAfterStep]
def wsL_points_r3 : List Cond := [Cond.code yX2_directionAfterStep cX2_directionAfterStep 8 (some .int), Cond.static yX4_aimOf, Cond.code yX4_aimOf cX4_aimOf 4 (some .int), Cond.static yX4_ahead, Cond.code yX4_ahead cX4_ahead 2 (some .int), Cond.methodLink RX2 71 yX2_measureField, Cond.instanceMethod yX2_measureField, Cond.selects RX2 yX2_measureField yX2_measureField, Cond.code yX2_measureField cX2_measureField 2 none, Cond.methodLink RX2 78 yX2_addNeedleToNeighbours, Cond.instanceMethod yX2_addNeedleToNeighbours, Cond.selects RX2 yX2_addNeedleToNeighbours yX2_addNeedleToNeighbours, Cond.code yX2_addNeedleToNeighbours cX2_addNeedleToNeighbours 5 none, Cond.static yX4_across, Cond.code yX4_across cX4_across 1 (some .int), Cond.fieldLink RX4 284 "NeedleGrid" "ACROSS" "[I", Cond.static yX4_down, Cond.code yX4_down cX4_down 1 (some .int), Cond.fieldLink RX4 287 "NeedleGrid" "DOWN" "[I", Cond.methodLink RX2 81 yX2_addToField, Cond.instanceMethod yX2_addToField, Cond.selects RX2 yX2_addToField yX2_addToField, Cond.code yX2_addToField cX2_addToField 4 none]
def wsL_points : List Cond := .codeWith yL_points cL_points 5 (some .int) [(0, 10, 13, 13), (0, 10, 17, 15)] :: ((wsL_points_r1 ++ (wsL_points_r2 ++ wsL_points_r3)) ++ wsX40 ++ wsX20 ++ (vx_atS RX4 279 "java/lang/IndexOutOfBoundsException" ["java/lang/RuntimeException", "java/lang/Exception"]).filter goodWord ++ (vx_atS RX4 131 "java/lang/IllegalArgumentException" ["java/lang/RuntimeException", "java/lang/Exception"]).filter goodWord)
def wsL_ifBar_r1 : List Cond := [Cond.classLink RL 13 "java/lang/IndexOutOfBoundsException", Cond.classLink RL 15 "java/lang/IllegalArgumentException", Cond.methodLink RL 74 yX4_ifBar, Cond.instanceMethod yX4_ifBar, Cond.selects RX4 yX4_ifBar yX4_ifBar, Cond.initialized RX4, Cond.code yX4_ifBar cX4_ifBar 6 (some .int), Cond.fieldLink RX4 12 "NeedleGrid" "now" "LNeedleGrid$Grid;", Cond.methodLink RX4 33 yX4_requireCell, Cond.static yX4_requireCell, Cond.code yX4_requireCell cX4_requireCell 1 none, Cond.classLink RX4 275 "java/lang/IndexOutOfBoundsException", Cond.initialized "java/lang/IndexOutOfBoundsException", Cond.methodLink RX4 37 yX4_requireDirection, Cond.static yX4_requireDirection, Cond.code yX4_requireDirection cX4_requireDirection 1 none, Cond.methodLink RX4 51 yX4_requireBetween, Cond.static yX4_requireBetween, Cond.code yX4_requireBetween cX4_requireBetween 3 none, Cond.classLink RX4 127 "java/lang/IllegalArgumentException", Cond.initialized "java/lang/IllegalArgumentException", Cond.methodLink RX4 198 yX2_aimIfBar, Cond.instanceMethod yX2_aimIfBar, Cond.selects RX2 yX2_aimIfBar yX2_aimIfBar]
def wsL_ifBar_r2 : List Cond := [Cond.initialized RX2, Cond.code yX2_aimIfBar cX2_aimIfBar 10 (some .int), Cond.fieldLink RX2 22 "NeedleGrid$Grid" "barDirections" "[I", Cond.fieldLink RX2 25 "NeedleGrid$Grid" "barStrengths" "[I", Cond.fieldLink RX2 37 "NeedleGrid$Grid" "fieldX" "[I", Cond.fieldLink RX2 40 "NeedleGrid$Grid" "fieldY" "[I", Cond.static yX4_pull, Cond.code yX4_pull cX4_pull 12 (some .int), Cond.methodLink RX4 290 yX4_across, Cond.static yX4_across, Cond.code yX4_across cX4_across 1 (some .int), Cond.fieldLink RX4 284 "NeedleGrid" "ACROSS" "[I", Cond.methodLink RX4 293 yX4_down, Cond.static yX4_down, Cond.code yX4_down cX4_down 1 (some .int), Cond.fieldLink RX4 287 "NeedleGrid" "DOWN" "[I", Cond.static yX4_aimOf, Cond.code yX4_aimOf cX4_aimOf 4 (some .int), Cond.methodLink RX4 153 yX2_aim, Cond.instanceMethod yX2_aim, Cond.selects RX2 yX2_aim yX2_aim, Cond.code yX2_aim cX2_aim 2 (some .int)]
def wsL_ifBar : List Cond := .codeWith yL_ifBar cL_ifBar 6 (some .int) [(0, 12, 15, 13), (0, 12, 19, 15)] :: ((wsL_ifBar_r1 ++ wsL_ifBar_r2) ++ wsX40 ++ wsX20 ++ (vx_atS RX4 279 "java/lang/IndexOutOfBoundsException" ["java/lang/RuntimeException", "java/lang/Exception"]).filter goodWord ++ (vx_atS RX4 131 "java/lang/IllegalArgumentException" ["java/lang/RuntimeException", "java/lang/Exception"]).filter goodWord)
def wsL_bestBar_r1 : List Cond := [Cond.classLink RL 13 "java/lang/IndexOutOfBoundsException", Cond.classLink RL 15 "java/lang/IllegalArgumentException", Cond.methodLink RL 77 yX4_bestBar, Cond.instanceMethod yX4_bestBar, Cond.selects RX4 yX4_bestBar yX4_bestBar, Cond.initialized RX4, Cond.code yX4_bestBar cX4_bestBar 6 (some .int), Cond.fieldLink RX4 12 "NeedleGrid" "now" "LNeedleGrid$Grid;", Cond.methodLink RX4 33 yX4_requireCell, Cond.static yX4_requireCell, Cond.code yX4_requireCell cX4_requireCell 1 none, Cond.classLink RX4 275 "java/lang/IndexOutOfBoundsException", Cond.initialized "java/lang/IndexOutOfBoundsException", Cond.methodLink RX4 37 yX4_requireDirection, Cond.static yX4_requireDirection, Cond.code yX4_requireDirection cX4_requireDirection 1 none, Cond.methodLink RX4 51 yX4_requireBetween, Cond.static yX4_requireBetween, Cond.code yX4_requireBetween cX4_requireBetween 3 none, Cond.classLink RX4 127 "java/lang/IllegalArgumentException", Cond.initialized "java/lang/IllegalArgumentException", Cond.methodLink RX4 198 yX2_aimIfBar, Cond.instanceMethod yX2_aimIfBar, Cond.selects RX2 yX2_aimIfBar yX2_aimIfBar]
def wsL_bestBar_r2 : List Cond := [Cond.initialized RX2, Cond.code yX2_aimIfBar cX2_aimIfBar 10 (some .int), Cond.fieldLink RX2 22 "NeedleGrid$Grid" "barDirections" "[I", Cond.fieldLink RX2 25 "NeedleGrid$Grid" "barStrengths" "[I", Cond.fieldLink RX2 37 "NeedleGrid$Grid" "fieldX" "[I", Cond.fieldLink RX2 40 "NeedleGrid$Grid" "fieldY" "[I", Cond.static yX4_pull, Cond.code yX4_pull cX4_pull 12 (some .int), Cond.methodLink RX4 290 yX4_across, Cond.static yX4_across, Cond.code yX4_across cX4_across 1 (some .int), Cond.fieldLink RX4 284 "NeedleGrid" "ACROSS" "[I", Cond.methodLink RX4 293 yX4_down, Cond.static yX4_down, Cond.code yX4_down cX4_down 1 (some .int), Cond.fieldLink RX4 287 "NeedleGrid" "DOWN" "[I", Cond.static yX4_aimOf, Cond.code yX4_aimOf cX4_aimOf 4 (some .int)]
def wsL_bestBar : List Cond := .codeWith yL_bestBar cL_bestBar 6 (some .int) [(0, 12, 15, 13), (0, 12, 19, 15)] :: ((wsL_bestBar_r1 ++ wsL_bestBar_r2) ++ wsX40 ++ wsX20 ++ (vx_atS RX4 279 "java/lang/IndexOutOfBoundsException" ["java/lang/RuntimeException", "java/lang/Exception"]).filter goodWord ++ (vx_atS RX4 131 "java/lang/IllegalArgumentException" ["java/lang/RuntimeException", "java/lang/Exception"]).filter goodWord)
def wsL_leastTurns_r1 : List Cond := [Cond.classLink RL 13 "java/lang/IndexOutOfBoundsException", Cond.methodLink RL 80 yX4_leastTurns, Cond.instanceMethod yX4_leastTurns, Cond.selects RX4 yX4_leastTurns yX4_leastTurns, Cond.initialized RX4, Cond.code yX4_leastTurns cX4_leastTurns 3 (some .int), Cond.fieldLink RX4 12 "NeedleGrid" "now" "LNeedleGrid$Grid;", Cond.methodLink RX4 33 yX4_requireCell, Cond.static yX4_requireCell, Cond.code yX4_requireCell cX4_requireCell 1 none, Cond.classLink RX4 275 "java/lang/IndexOutOfBoundsException", Cond.initialized "java/lang/IndexOutOfBoundsException", Cond.methodLink RX4 202 yX2_aimIfTurns, Cond.instanceMethod yX2_aimIfTurns, Cond.selects RX2 yX2_aimIfTurns yX2_aimIfTurns, Cond.initialized RX2, Cond.code yX2_aimIfTurns cX2_aimIfTurns 6 (some .int), Cond.fieldLink RX2 28 "NeedleGrid$Grid" "settings" "[I", Cond.fieldLink RX2 46 "NeedleGrid$Grid" "turns" "I", Cond.fieldLink RX2 37 "NeedleGrid$Grid" "fieldX" "[I", Cond.fieldLink RX2 50 "NeedleGrid$Grid" "coilDirection" "I", Cond.fieldLink RX2 40 "NeedleGrid$Grid" "fieldY" "[I", Cond.static yX4_across, Cond.code yX4_across cX4_across 1 (some .int)]
def wsL_leastTurns_r2 : List Cond := [Cond.fieldLink RX4 284 "NeedleGrid" "ACROSS" "[I", Cond.static yX4_down, Cond.code yX4_down cX4_down 1 (some .int), Cond.fieldLink RX4 287 "NeedleGrid" "DOWN" "[I", Cond.static yX4_aimOf, Cond.code yX4_aimOf cX4_aimOf 4 (some .int)]
def wsL_leastTurns : List Cond := .codeWith yL_leastTurns cL_leastTurns 4 (some .int) [(0, 9, 12, 13)] :: ((wsL_leastTurns_r1 ++ wsL_leastTurns_r2) ++ wsX40 ++ wsX20 ++ (vx_atS RX4 279 "java/lang/IndexOutOfBoundsException" ["java/lang/RuntimeException", "java/lang/Exception"]).filter goodWord)
def wsL_law0_r1 : List Cond := [Cond.classLink RL 8 RX4, Cond.instantiable RX4 4, Cond.initialized RX4, Cond.classLink RL 84 RX5, Cond.instantiable RX5 14, Cond.initialized RX5, Cond.arrayClass .long, Cond.methodLink RL 83 yX4_init, Cond.instanceMethod yX4_init, Cond.code yX4_init cX4_init 1 none, Cond.methodLink RX4 3 objectInit, Cond.instanceMethod objectInit, Cond.code objectInit ⟨#[0xb1]⟩ 1 none, Cond.classLink RX4 9 RX2, Cond.instantiable RX2 13, Cond.initialized RX2, Cond.fieldLink RX4 12 "NeedleGrid" "now" "LNeedleGrid$Grid;", Cond.fieldLink RX4 16 "NeedleGrid" "trial" "LNeedleGrid$Grid;", Cond.classLink RX4 19 RX3, Cond.instantiable RX3 3, Cond.initialized RX3, Cond.fieldLink RX4 22 "NeedleGrid" "history" "LNeedleGrid$History;", Cond.classLink RX4 26 RX1, Cond.instantiable RX1 3]
def wsL_law0_r2 : List Cond := [Cond.initialized RX1, Cond.fieldLink RX4 29 "NeedleGrid" "text" "LNeedleGrid$BarText;", Cond.methodLink RX4 11 yX2_init, Cond.instanceMethod yX2_init, Cond.code yX2_init cX2_init 2 none, Cond.methodLink RX2 3 objectInit, Cond.arrayClass .int, Cond.fieldLink RX2 9 "NeedleGrid$Grid" "directions" "[I", Cond.fieldLink RX2 15 "NeedleGrid$Grid" "frictions" "[I", Cond.arrayClass .boolean, Cond.fieldLink RX2 18 "NeedleGrid$Grid" "held" "[Z", Cond.fieldLink RX2 22 "NeedleGrid$Grid" "barDirections" "[I", Cond.fieldLink RX2 25 "NeedleGrid$Grid" "barStrengths" "[I", Cond.fieldLink RX2 28 "NeedleGrid$Grid" "settings" "[I", Cond.fieldLink RX2 31 "NeedleGrid$Grid" "stillX" "[I", Cond.fieldLink RX2 34 "NeedleGrid$Grid" "stillY" "[I", Cond.fieldLink RX2 37 "NeedleGrid$Grid" "fieldX" "[I", Cond.fieldLink RX2 40 "NeedleGrid$Grid" "fieldY" "[I", Cond.methodLink RX2 43 yX2_measureAll, Cond.instanceMethod yX2_measureAll, Cond.selects RX2 yX2_measureAll yX2_measureAll, Cond.code yX2_measureAll cX2_measureAll 5 none, Cond.fieldLink RX2 46 "NeedleGrid$Grid" "turns" "I", Cond.fieldLink RX2 50 "NeedleGrid$Grid" "coilDirection" "I"]
def wsL_law0_r3 : List Cond := [Cond.static yX4_across, Cond.code yX4_across cX4_across 1 (some .int), Cond.fieldLink RX4 284 "NeedleGrid" "ACROSS" "[I", Cond.static yX4_down, Cond.code yX4_down cX4_down 1 (some .int), Cond.fieldLink RX4 287 "NeedleGrid" "DOWN" "[I", Cond.methodLink RX2 63 yX2_hasBar, Cond.instanceMethod yX2_hasBar, Cond.selects RX2 yX2_hasBar yX2_hasBar, Cond.code yX2_hasBar cX2_hasBar 2 (some .boolean), Cond.methodLink RX2 67 yX2_addBarToStill, Cond.instanceMethod yX2_addBarToStill, Cond.selects RX2 yX2_addBarToStill yX2_addBarToStill, Cond.code yX2_addBarToStill cX2_addBarToStill 6 none, Cond.static yX4_pull, Cond.code yX4_pull cX4_pull 12 (some .int), Cond.methodLink RX4 290 yX4_across, Cond.methodLink RX4 293 yX4_down, Cond.methodLink RX2 71 yX2_measureField, Cond.instanceMethod yX2_measureField, Cond.selects RX2 yX2_measureField yX2_measureField, Cond.code yX2_measureField cX2_measureField 2 none, Cond.methodLink RX2 78 yX2_addNeedleToNeighbours, Cond.instanceMethod yX2_addNeedleToNeighbours]
def wsL_law0_r4 : List Cond := [Cond.selects RX2 yX2_addNeedleToNeighbours yX2_addNeedleToNeighbours, Cond.code yX2_addNeedleToNeighbours cX2_addNeedleToNeighbours 5 none, Cond.methodLink RX2 81 yX2_addToField, Cond.instanceMethod yX2_addToField, Cond.selects RX2 yX2_addToField yX2_addToField, Cond.code yX2_addToField cX2_addToField 4 none, Cond.methodLink RX4 21 yX3_init, Cond.instanceMethod yX3_init, Cond.code yX3_init cX3_init 2 none, Cond.methodLink RX3 3 objectInit, Cond.classLink RX3 9 RX2, Cond.fieldLink RX3 11 "NeedleGrid$History" "ring" "[LNeedleGrid$Grid;", Cond.methodLink RX3 17 yX2_init, Cond.instanceMethod yX1_init, Cond.code yX1_init cX1_init 1 none, Cond.methodLink RX1 3 objectInit, Cond.fieldLink RX1 9 "NeedleGrid$BarText" "codes" "[I", Cond.classLink RX1 15 RX0, Cond.instantiable RX0 6, Cond.initialized RX0, Cond.fieldLink RX1 18 "NeedleGrid$BarText" "reader" "LNeedleGrid$BarReader;", Cond.instanceMethod yX0_init, Cond.code yX0_init cX0_init 1 none, Cond.methodLink RX0 3 objectInit]
def wsL_law0_r5 : List Cond := [Cond.methodLink RL 86 yX5_init, Cond.instanceMethod yX5_init, Cond.code yX5_init cX5_init 2 none, Cond.methodLink RX5 1 objectInit, Cond.fieldLink RX5 7 "NeedleGridModel" "now" "[I", Cond.fieldLink RX5 13 "NeedleGridModel" "then" "[I", Cond.fieldLink RX5 16 "NeedleGridModel" "past" "[I", Cond.fieldLink RX5 19 "NeedleGridModel" "text" "[I", Cond.fieldLink RX5 22 "NeedleGridModel" "told" "[I", Cond.fieldLink RX5 25 "NeedleGridModel" "next" "[I", Cond.methodLink RL 87 yL_needle, Cond.static yL_needle, Cond.initialized RL, Cond.codeWith yL_needle cL_needle 5 (some .int) [(0, 10, 13, 13), (0, 10, 17, 15)], Cond.classLink RL 13 "java/lang/IndexOutOfBoundsException", Cond.classLink RL 15 "java/lang/IllegalArgumentException", Cond.methodLink RL 7 yX4_needle, Cond.instanceMethod yX4_needle, Cond.selects RX4 yX4_needle yX4_needle, Cond.code yX4_needle cX4_needle 4 (some .int), Cond.methodLink RX4 33 yX4_requireCell, Cond.static yX4_requireCell, Cond.code yX4_requireCell cX4_requireCell 1 none, Cond.classLink RX4 275 "java/lang/IndexOutOfBoundsException"]
def wsL_law0_r6 : List Cond := [Cond.initialized "java/lang/IndexOutOfBoundsException", Cond.methodLink RX4 37 yX4_requireDirection, Cond.static yX4_requireDirection, Cond.code yX4_requireDirection cX4_requireDirection 1 none, Cond.methodLink RX4 51 yX4_requireBetween, Cond.static yX4_requireBetween, Cond.code yX4_requireBetween cX4_requireBetween 3 none, Cond.classLink RX4 127 "java/lang/IllegalArgumentException", Cond.initialized "java/lang/IllegalArgumentException", Cond.methodLink RX4 40 yX3_save, Cond.instanceMethod yX3_save, Cond.selects RX3 yX3_save yX3_save, Cond.code yX3_save cX3_save 3 none, Cond.fieldLink RX3 18 "NeedleGrid$History" "next" "I", Cond.fieldLink RX3 26 "NeedleGrid$History" "amount" "I", Cond.methodLink RX3 22 yX2_copyFrom, Cond.instanceMethod yX2_copyFrom, Cond.selects RX2 yX2_copyFrom yX2_copyFrom, Cond.code yX2_copyFrom cX2_copyFrom 3 none, Cond.fieldLink RX2 53 "NeedleGrid$Grid" "stepsSoFar" "I", Cond.methodLink RX4 48 yX2_measureField, Cond.methodLink RL 92 yX5_needle, Cond.instanceMethod yX5_needle, Cond.selects RX5 yX5_needle yX5_needle]
def wsL_law0_r7 : List Cond := [Cond.code yX5_needle cX5_needle 3 (some .int), Cond.fieldLink RX5 28 "NeedleGridModel" "thrown" "I", Cond.methodLink RX5 81 yX5_isCell, Cond.static yX5_isCell, Cond.code yX5_isCell cX5_isCell 1 (some .boolean), Cond.methodLink RX5 32 yX5_in, Cond.static yX5_in, Cond.code yX5_in cX5_in 3 (some .boolean), Cond.methodLink RX5 43 yX5_fails, Cond.instanceMethod yX5_fails, Cond.selects RX5 yX5_fails yX5_fails, Cond.code yX5_fails cX5_fails 2 (some .int), Cond.methodLink RX5 85 yX5_isDirection, Cond.static yX5_isDirection, Cond.code yX5_isDirection cX5_isDirection 1 (some .boolean), Cond.methodLink RX5 88 yX5_saves, Cond.instanceMethod yX5_saves, Cond.selects RX5 yX5_saves yX5_saves, Cond.code yX5_saves cX5_saves 2 none, Cond.fieldLink RX5 36 "NeedleGridModel" "kept" "I", Cond.methodLink RX5 39 yX5_copies, Cond.static yX5_copies, Cond.code yX5_copies cX5_copies 5 none, Cond.methodLink RX5 91 yX5_changes]
def wsL_law0_r8 : List Cond := [Cond.instanceMethod yX5_changes, Cond.selects RX5 yX5_changes yX5_changes, Cond.code yX5_changes cX5_changes 4 (some .int), Cond.methodLink RL 93 yX5_thrown, Cond.instanceMethod yX5_thrown, Cond.selects RX5 yX5_thrown yX5_thrown, Cond.code yX5_thrown cX5_thrown 1 (some .int), Cond.methodLink RL 96 yL_friction, Cond.static yL_friction, Cond.codeWith yL_friction cL_friction 5 (some .int) [(0, 10, 13, 13), (0, 10, 17, 15)], Cond.methodLink RL 17 yX4_friction, Cond.instanceMethod yX4_friction, Cond.selects RX4 yX4_friction yX4_friction, Cond.code yX4_friction cX4_friction 4 (some .int), Cond.methodLink RL 98 yX5_friction, Cond.instanceMethod yX5_friction, Cond.selects RX5 yX5_friction yX5_friction, Cond.code yX5_friction cX5_friction 3 (some .int), Cond.methodLink RL 99 yL_hold, Cond.static yL_hold, Cond.codeWith yL_hold cL_hold 5 (some .int) [(0, 10, 13, 13)], Cond.methodLink RL 20 yX4_hold, Cond.instanceMethod yX4_hold, Cond.selects RX4 yX4_hold yX4_hold]
def wsL_law0_r9 : List Cond := [Cond.code yX4_hold cX4_hold 4 (some .int), Cond.methodLink RL 102 yX5_hold, Cond.instanceMethod yX5_hold, Cond.selects RX5 yX5_hold yX5_hold, Cond.code yX5_hold cX5_hold 3 (some .int), Cond.methodLink RL 103 yL_swap, Cond.static yL_swap, Cond.codeWith yL_swap cL_swap 5 (some .int) [(0, 10, 13, 13)], Cond.methodLink RL 24 yX4_swap, Cond.instanceMethod yX4_swap, Cond.selects RX4 yX4_swap yX4_swap, Cond.code yX4_swap cX4_swap 3 (some .int), Cond.methodLink RX4 62 yX4_exchange, Cond.static yX4_exchange, Cond.code yX4_exchange cX4_exchange 4 none, Cond.methodLink RL 105 yX5_swap, Cond.instanceMethod yX5_swap, Cond.selects RX5 yX5_swap yX5_swap, Cond.code yX5_swap cX5_swap 3 (some .int), Cond.methodLink RL 106 yL_bar, Cond.static yL_bar, Cond.codeWith yL_bar cL_bar 6 (some .int) [(0, 12, 15, 13), (0, 12, 19, 15), (0, 12, 23, 31)], Cond.classLink RL 31 "java/lang/IllegalStateException", Cond.methodLink RL 27 yX4_bar]
def wsL_law0_r10 : List Cond := [Cond.instanceMethod yX4_bar, Cond.selects RX4 yX4_bar yX4_bar, Cond.code yX4_bar cX4_bar 4 (some .int), Cond.classLink RX4 74 "java/lang/IllegalStateException", Cond.initialized "java/lang/IllegalStateException", Cond.methodLink RX4 66 yX2_hasBar, Cond.methodLink RX4 70 yX2_barCount, Cond.instanceMethod yX2_barCount, Cond.selects RX2 yX2_barCount yX2_barCount, Cond.code yX2_barCount cX2_barCount 3 (some .int), Cond.methodLink RX4 81 yX2_layBar, Cond.instanceMethod yX2_layBar, Cond.selects RX2 yX2_layBar yX2_layBar, Cond.code yX2_layBar cX2_layBar 4 none, Cond.methodLink RX4 84 yX2_measureAll, Cond.methodLink RL 109 yX5_bar, Cond.instanceMethod yX5_bar, Cond.selects RX5 yX5_bar yX5_bar, Cond.code yX5_bar cX5_bar 4 (some .int), Cond.methodLink RX5 95 yX5_isBar, Cond.static yX5_isBar, Cond.code yX5_isBar cX5_isBar 2 (some .boolean), Cond.methodLink RX5 99 yX5_lying, Cond.static yX5_lying]
def wsL_law0_r11 : List Cond := [Cond.code yX5_lying cX5_lying 3 (some .int), Cond.methodLink RX5 103 yX5_laysBar, Cond.static yX5_laysBar, Cond.code yX5_laysBar cX5_laysBar 4 none, Cond.methodLink RL 110 yL_unbar, Cond.static yL_unbar, Cond.codeWith yL_unbar cL_unbar 4 (some .int) [(0, 9, 12, 13), (0, 9, 15, 31)], Cond.methodLink RL 33 yX4_unbar, Cond.instanceMethod yX4_unbar, Cond.selects RX4 yX4_unbar yX4_unbar, Cond.code yX4_unbar cX4_unbar 2 (some .int), Cond.methodLink RX4 89 yX2_takeBar, Cond.instanceMethod yX2_takeBar, Cond.selects RX2 yX2_takeBar yX2_takeBar, Cond.code yX2_takeBar cX2_takeBar 2 none, Cond.methodLink RX2 102 yX2_layBar, Cond.methodLink RL 113 yX5_unbar, Cond.instanceMethod yX5_unbar, Cond.selects RX5 yX5_unbar yX5_unbar, Cond.code yX5_unbar cX5_unbar 2 (some .int), Cond.methodLink RL 114 yL_coil, Cond.static yL_coil, Cond.codeWith yL_coil cL_coil 5 (some .int) [(0, 10, 13, 15)], Cond.methodLink RL 37 yX4_coil]
def wsL_law0_r12 : List Cond := [Cond.instanceMethod yX4_coil, Cond.selects RX4 yX4_coil yX4_coil, Cond.code yX4_coil cX4_coil 4 (some .int), Cond.methodLink RL 116 yX5_coil, Cond.instanceMethod yX5_coil, Cond.selects RX5 yX5_coil yX5_coil, Cond.code yX5_coil cX5_coil 3 (some .int), Cond.methodLink RL 117 yL_set, Cond.static yL_set, Cond.codeWith yL_set cL_set 5 (some .int) [(0, 10, 13, 13), (0, 10, 17, 15)], Cond.methodLink RL 40 yX4_set, Cond.instanceMethod yX4_set, Cond.selects RX4 yX4_set yX4_set, Cond.code yX4_set cX4_set 4 (some .int), Cond.fieldLink RX4 102 "NeedleGrid" "MOST_OF_SETTING" "[I", Cond.methodLink RX4 99 yX4_requireSetting, Cond.static yX4_requireSetting, Cond.code yX4_requireSetting cX4_requireSetting 1 none, Cond.methodLink RL 119 yX5_set, Cond.instanceMethod yX5_set, Cond.selects RX5 yX5_set yX5_set, Cond.code yX5_set cX5_set 3 (some .int), Cond.methodLink RL 120 yL_step, Cond.static yL_step]
def wsL_law0_r13 : List Cond := [Cond.codeWith yL_step cL_step 4 (some .int) [(0, 9, 12, 15)], Cond.methodLink RL 43 yX4_step, Cond.instanceMethod yX4_step, Cond.selects RX4 yX4_step yX4_step, Cond.code yX4_step cX4_step 2 (some .int), Cond.methodLink RX4 108 yX2_letGoBy, Cond.instanceMethod yX2_letGoBy, Cond.selects RX2 yX2_letGoBy yX2_letGoBy, Cond.code yX2_letGoBy cX2_letGoBy 4 (some .int), Cond.methodLink RX2 98 yX2_turnAll, Cond.instanceMethod yX2_turnAll, Cond.selects RX2 yX2_turnAll yX2_turnAll, Cond.code yX2_turnAll cX2_turnAll 4 (some .int), Cond.methodLink RX2 95 yX2_directionAfterStep, Cond.instanceMethod yX2_directionAfterStep, Cond.selects RX2 yX2_directionAfterStep yX2_directionAfterStep, Cond.code yX2_directionAfterStep cX2_directionAfterStep 8 (some .int), Cond.static yX4_aimOf, Cond.code yX4_aimOf cX4_aimOf 4 (some .int), Cond.static yX4_ahead, Cond.code yX4_ahead cX4_ahead 2 (some .int), Cond.methodLink RL 122 yX5_step, Cond.instanceMethod yX5_step, Cond.selects RX5 yX5_step yX5_step]
def wsL_law0_r14 : List Cond := [Cond.code yX5_step cX5_step 4 (some .int), Cond.methodLink RX5 107 yX5_allTurn, Cond.instanceMethod yX5_allTurn, Cond.selects RX5 yX5_allTurn yX5_allTurn, Cond.code yX5_allTurn cX5_allTurn 4 (some .int), Cond.methodLink RX5 78 yX5_turned, Cond.instanceMethod yX5_turned, Cond.selects RX5 yX5_turned yX5_turned, Cond.code yX5_turned cX5_turned 5 (some .int), Cond.fieldLink RX5 47 "NeedleGridModel" "fx" "I", Cond.fieldLink RX5 53 "NeedleGridModel" "fy" "I", Cond.methodLink RX5 74 yX5_aim, Cond.instanceMethod yX5_aim, Cond.selects RX5 yX5_aim yX5_aim, Cond.code yX5_aim cX5_aim 5 (some .int), Cond.methodLink RX5 70 yX5_lays, Cond.instanceMethod yX5_lays, Cond.selects RX5 yX5_lays yX5_lays, Cond.code yX5_lays cX5_lays 5 none, Cond.methodLink RX5 59 yX5_adds, Cond.instanceMethod yX5_adds, Cond.selects RX5 yX5_adds yX5_adds, Cond.code yX5_adds cX5_adds 3 none, Cond.methodLink RX5 50 yX5_xOf]
def wsL_law0_r15 : List Cond := [Cond.static yX5_xOf, Cond.code yX5_xOf cX5_xOf 1 (some .int), Cond.methodLink RX5 56 yX5_yOf, Cond.static yX5_yOf, Cond.code yX5_yOf cX5_yOf 1 (some .int), Cond.methodLink RX5 63 yX5_addsBar, Cond.instanceMethod yX5_addsBar, Cond.selects RX5 yX5_addsBar yX5_addsBar, Cond.code yX5_addsBar cX5_addsBar 11 none, Cond.methodLink RX5 67 yX5_size, Cond.static yX5_size, Cond.code yX5_size cX5_size 1 (some .int), Cond.methodLink RL 123 yL_append, Cond.static yL_append, Cond.codeWith yL_append cL_append 4 (some .int) [(0, 9, 12, 15), (0, 9, 15, 31)], Cond.methodLink RL 46 yX4_append, Cond.instanceMethod yX4_append, Cond.selects RX4 yX4_append yX4_append, Cond.code yX4_append cX4_append 2 (some .int), Cond.methodLink RX4 117 yX1_add, Cond.instanceMethod yX1_add, Cond.selects RX1 yX1_add yX1_add, Cond.code yX1_add cX1_add 2 none, Cond.fieldLink RX1 22 "NeedleGrid$BarText" "length" "I"]
def wsL_law0_r16 : List Cond := [Cond.methodLink RL 125 yX5_append, Cond.instanceMethod yX5_append, Cond.selects RX5 yX5_append yX5_append, Cond.code yX5_append cX5_append 2 (some .int), Cond.fieldLink RX5 110 "NeedleGridModel" "typed" "I", Cond.methodLink RL 126 yX4_clearBuffer, Cond.instanceMethod yX4_clearBuffer, Cond.selects RX4 yX4_clearBuffer yX4_clearBuffer, Cond.code yX4_clearBuffer cX4_clearBuffer 2 (some .int), Cond.methodLink RL 129 yX5_clearBuffer, Cond.instanceMethod yX5_clearBuffer, Cond.selects RX5 yX5_clearBuffer yX5_clearBuffer, Cond.code yX5_clearBuffer cX5_clearBuffer 2 (some .int), Cond.methodLink RL 130 yX4_firstError, Cond.instanceMethod yX4_firstError, Cond.selects RX4 yX4_firstError yX4_firstError, Cond.code yX4_firstError cX4_firstError 1 (some .int), Cond.methodLink RX4 120 yX1_goodLength, Cond.instanceMethod yX1_goodLength, Cond.selects RX1 yX1_goodLength yX1_goodLength, Cond.code yX1_goodLength cX1_goodLength 2 (some .int), Cond.methodLink RX1 26 yX0_begin, Cond.instanceMethod yX0_begin, Cond.selects RX0 yX0_begin yX0_begin]
def wsL_law0_r17 : List Cond := [Cond.code yX0_begin cX0_begin 1 none, Cond.fieldLink RX0 11 "NeedleGrid$BarReader" "due" "I", Cond.fieldLink RX0 15 "NeedleGrid$BarReader" "parts" "I", Cond.methodLink RX1 29 yX0_take, Cond.instanceMethod yX0_take, Cond.selects RX0 yX0_take yX0_take, Cond.code yX0_take cX0_take 3 (some .boolean), Cond.fieldLink RX0 18 "NeedleGrid$BarReader" "column" "I", Cond.fieldLink RX0 25 "NeedleGrid$BarReader" "row" "I", Cond.fieldLink RX0 28 "NeedleGrid$BarReader" "direction" "I", Cond.fieldLink RX0 31 "NeedleGrid$BarReader" "strength" "I", Cond.methodLink RX0 21 yX0_goOn, Cond.instanceMethod yX0_goOn, Cond.selects RX0 yX0_goOn yX0_goOn, Cond.code yX0_goOn cX0_goOn 3 (some .boolean), Cond.methodLink RX0 34 yX0_takeBehindStrength, Cond.instanceMethod yX0_takeBehindStrength, Cond.selects RX0 yX0_takeBehindStrength yX0_takeBehindStrength, Cond.code yX0_takeBehindStrength cX0_takeBehindStrength 3 (some .boolean), Cond.methodLink RL 133 yX5_firstError, Cond.instanceMethod yX5_firstError, Cond.selects RX5 yX5_firstError yX5_firstError, Cond.code yX5_firstError cX5_firstError 2 (some .int), Cond.fieldLink RX5 116 "NeedleGridModel" "isFault" "Z"]
def wsL_law0_r18 : List Cond := [Cond.fieldLink RX5 113 "NeedleGridModel" "at" "I", Cond.methodLink RX5 133 yX5_isText, Cond.instanceMethod yX5_isText, Cond.selects RX5 yX5_isText yX5_isText, Cond.code yX5_isText cX5_isText 2 (some .boolean), Cond.fieldLink RX5 127 "NeedleGridModel" "tolds" "I", Cond.methodLink RX5 130 yX5_isPart, Cond.instanceMethod yX5_isPart, Cond.selects RX5 yX5_isPart yX5_isPart, Cond.code yX5_isPart cX5_isPart 4 (some .boolean), Cond.methodLink RX5 120 yX5_isAt, Cond.instanceMethod yX5_isAt, Cond.selects RX5 yX5_isAt yX5_isAt, Cond.code yX5_isAt cX5_isAt 3 (some .boolean), Cond.methodLink RX5 123 yX5_stops, Cond.instanceMethod yX5_stops, Cond.selects RX5 yX5_stops yX5_stops, Cond.code yX5_stops cX5_stops 1 (some .boolean), Cond.methodLink RL 134 yL_bars, Cond.static yL_bars, Cond.codeWith yL_bars cL_bars 3 (some .int) [(0, 8, 11, 15)], Cond.methodLink RL 49 yX4_bars, Cond.instanceMethod yX4_bars, Cond.selects RX4 yX4_bars yX4_bars]
def wsL_law0_r19 : List Cond := [Cond.code yX4_bars cX4_bars 1 (some .int), Cond.methodLink RX4 123 yX1_isComplete, Cond.instanceMethod yX1_isComplete, Cond.selects RX1 yX1_isComplete yX1_isComplete, Cond.code yX1_isComplete cX1_isComplete 1 (some .boolean), Cond.methodLink RX1 33 yX1_goodLength, Cond.methodLink RX1 37 yX0_isBehindStrength, Cond.instanceMethod yX0_isBehindStrength, Cond.selects RX0 yX0_isBehindStrength yX0_isBehindStrength, Cond.code yX0_isBehindStrength cX0_isBehindStrength 1 (some .boolean), Cond.methodLink RX4 132 yX2_takeAllBars, Cond.instanceMethod yX2_takeAllBars, Cond.selects RX2 yX2_takeAllBars yX2_takeAllBars, Cond.code yX2_takeAllBars cX2_takeAllBars 2 none, Cond.methodLink RX2 105 yX2_takeBar, Cond.methodLink RX4 135 yX1_layInto, Cond.instanceMethod yX1_layInto, Cond.selects RX1 yX1_layInto yX1_layInto, Cond.code yX1_layInto cX1_layInto 3 none, Cond.methodLink RX1 41 yX0_layInto, Cond.instanceMethod yX0_layInto, Cond.selects RX0 yX0_layInto yX0_layInto, Cond.code yX0_layInto cX0_layInto 3 none, Cond.methodLink RX0 38 yX2_layBar]
def wsL_law0_r20 : List Cond := [Cond.methodLink RL 137 yX5_bars, Cond.instanceMethod yX5_bars, Cond.selects RX5 yX5_bars yX5_bars, Cond.code yX5_bars cX5_bars 2 (some .int), Cond.methodLink RL 138 yL_undo, Cond.static yL_undo, Cond.codeWith yL_undo cL_undo 3 (some .int) [(0, 8, 11, 31)], Cond.methodLink RL 53 yX4_undo, Cond.instanceMethod yX4_undo, Cond.selects RX4 yX4_undo yX4_undo, Cond.code yX4_undo cX4_undo 1 (some .int), Cond.methodLink RX4 143 yX3_restoreInto, Cond.instanceMethod yX3_restoreInto, Cond.selects RX3 yX3_restoreInto yX3_restoreInto, Cond.code yX3_restoreInto cX3_restoreInto 3 none, Cond.methodLink RL 140 yX5_undo, Cond.instanceMethod yX5_undo, Cond.selects RX5 yX5_undo yX5_undo, Cond.code yX5_undo cX5_undo 1 (some .int), Cond.methodLink RL 141 yL_cell, Cond.static yL_cell, Cond.codeWith yL_cell cL_cell 5 (some .int) [(0, 10, 13, 13), (0, 10, 17, 15)], Cond.methodLink RL 56 yX4_cell, Cond.instanceMethod yX4_cell]
def wsL_law0_r21 : List Cond := [Cond.selects RX4 yX4_cell yX4_cell, Cond.code yX4_cell cX4_cell 3 (some .int), Cond.constant RX4 149 (100000), Cond.methodLink RX4 153 yX2_aim, Cond.instanceMethod yX2_aim, Cond.selects RX2 yX2_aim yX2_aim, Cond.code yX2_aim cX2_aim 2 (some .int), Cond.methodLink RX4 156 yX2_wouldTurn, Cond.instanceMethod yX2_wouldTurn, Cond.selects RX2 yX2_wouldTurn yX2_wouldTurn, Cond.code yX2_wouldTurn cX2_wouldTurn 2 (some .boolean), Cond.methodLink RX4 159 yX2_awayFromAim, Cond.instanceMethod yX2_awayFromAim, Cond.selects RX2 yX2_awayFromAim yX2_awayFromAim, Cond.code yX2_awayFromAim cX2_awayFromAim 4 (some .int), Cond.methodLink RX2 89 yX2_aim, Cond.methodLink RL 143 yX5_cell, Cond.instanceMethod yX5_cell, Cond.selects RX5 yX5_cell yX5_cell, Cond.code yX5_cell cX5_cell 3 (some .int), Cond.methodLink RX5 140 yX5_ofCell, Cond.instanceMethod yX5_ofCell, Cond.selects RX5 yX5_ofCell yX5_ofCell, Cond.code yX5_ofCell cX5_ofCell 4 (some .int)]
def wsL_law0_r22 : List Cond := [Cond.constant RX5 136 (100000), Cond.methodLink RX5 137 yX5_away, Cond.instanceMethod yX5_away, Cond.selects RX5 yX5_away yX5_away, Cond.code yX5_away cX5_away 5 (some .int), Cond.methodLink RL 144 yL_barOf, Cond.static yL_barOf, Cond.codeWith yL_barOf cL_barOf 5 (some .int) [(0, 10, 13, 15)], Cond.methodLink RL 59 yX4_barOf, Cond.instanceMethod yX4_barOf, Cond.selects RX4 yX4_barOf yX4_barOf, Cond.code yX4_barOf cX4_barOf 4 (some .int), Cond.methodLink RX4 166 yX2_cellOfBar, Cond.instanceMethod yX2_cellOfBar, Cond.selects RX2 yX2_cellOfBar yX2_cellOfBar, Cond.code yX2_cellOfBar cX2_cellOfBar 4 (some .int), Cond.methodLink RL 146 yX5_barOf, Cond.instanceMethod yX5_barOf, Cond.selects RX5 yX5_barOf yX5_barOf, Cond.code yX5_barOf cX5_barOf 3 (some .int), Cond.methodLink RX5 143 yX5_ofBar, Cond.instanceMethod yX5_ofBar, Cond.selects RX5 yX5_ofBar yX5_ofBar, Cond.code yX5_ofBar cX5_ofBar 5 (some .int)]
def wsL_law0_r23 : List Cond := [Cond.methodLink RL 147 yL_count, Cond.static yL_count, Cond.codeWith yL_count cL_count 4 (some .int) [(0, 9, 12, 15)], Cond.methodLink RL 62 yX4_count, Cond.instanceMethod yX4_count, Cond.selects RX4 yX4_count yX4_count, Cond.code yX4_count cX4_count 2 (some .int), Cond.methodLink RX4 178 yX2_heldCount, Cond.instanceMethod yX2_heldCount, Cond.selects RX2 yX2_heldCount yX2_heldCount, Cond.code yX2_heldCount cX2_heldCount 3 (some .int), Cond.methodLink RX4 181 yX2_turningCount, Cond.instanceMethod yX2_turningCount, Cond.selects RX2 yX2_turningCount yX2_turningCount, Cond.code yX2_turningCount cX2_turningCount 3 (some .int), Cond.methodLink RX2 108 yX2_wouldTurn, Cond.methodLink RX4 184 yX2_obeyingCount, Cond.instanceMethod yX2_obeyingCount, Cond.selects RX2 yX2_obeyingCount yX2_obeyingCount, Cond.code yX2_obeyingCount cX2_obeyingCount 3 (some .int), Cond.methodLink RX4 187 yX2_awayTogether, Cond.instanceMethod yX2_awayTogether, Cond.selects RX2 yX2_awayTogether yX2_awayTogether, Cond.code yX2_awayTogether cX2_awayTogether 4 (some .int)]
def wsL_law0_r24 : List Cond := [Cond.methodLink RX2 111 yX2_awayFromAim, Cond.methodLink RL 149 yX5_count, Cond.instanceMethod yX5_count, Cond.selects RX5 yX5_count yX5_count, Cond.code yX5_count cX5_count 2 (some .int), Cond.methodLink RX5 146 yX5_counted, Cond.instanceMethod yX5_counted, Cond.selects RX5 yX5_counted yX5_counted, Cond.code yX5_counted cX5_counted 5 (some .int), Cond.methodLink RL 150 yL_pointing, Cond.static yL_pointing, Cond.codeWith yL_pointing cL_pointing 4 (some .int) [(0, 9, 12, 15)], Cond.methodLink RL 65 yX4_pointing, Cond.instanceMethod yX4_pointing, Cond.selects RX4 yX4_pointing yX4_pointing, Cond.code yX4_pointing cX4_pointing 2 (some .int), Cond.methodLink RX4 192 yX2_pointingCount, Cond.instanceMethod yX2_pointingCount, Cond.selects RX2 yX2_pointingCount yX2_pointingCount, Cond.code yX2_pointingCount cX2_pointingCount 4 (some .int), Cond.methodLink RL 152 yX5_pointing, Cond.instanceMethod yX5_pointing, Cond.selects RX5 yX5_pointing yX5_pointing, Cond.code yX5_pointing cX5_pointing 2 (some .int)]
def wsL_law0_r25 : List Cond := [Cond.methodLink RX5 149 yX5_towards, Cond.instanceMethod yX5_towards, Cond.selects RX5 yX5_towards yX5_towards, Cond.code yX5_towards cX5_towards 4 (some .int), Cond.methodLink RL 153 yL_setting, Cond.static yL_setting, Cond.codeWith yL_setting cL_setting 4 (some .int) [(0, 9, 12, 13)], Cond.methodLink RL 68 yX4_setting, Cond.instanceMethod yX4_setting, Cond.selects RX4 yX4_setting yX4_setting, Cond.code yX4_setting cX4_setting 2 (some .int), Cond.methodLink RL 155 yX5_setting, Cond.instanceMethod yX5_setting, Cond.selects RX5 yX5_setting yX5_setting, Cond.code yX5_setting cX5_setting 2 (some .int), Cond.methodLink RL 156 yX4_restsIn, Cond.instanceMethod yX4_restsIn, Cond.selects RX4 yX4_restsIn yX4_restsIn, Cond.code yX4_restsIn cX4_restsIn 2 (some .int), Cond.methodLink RX4 195 yX2_copyFrom, Cond.methodLink RL 159 yX5_restsIn, Cond.instanceMethod yX5_restsIn, Cond.selects RX5 yX5_restsIn yX5_restsIn, Cond.code yX5_restsIn cX5_restsIn 1 (some .int)]
def wsL_law0_r26 : List Cond := [Cond.methodLink RX5 152 yX5_rests, Cond.instanceMethod yX5_rests, Cond.selects RX5 yX5_rests yX5_rests, Cond.code yX5_rests cX5_rests 2 (some .int), Cond.methodLink RL 160 yL_points, Cond.static yL_points, Cond.codeWith yL_points cL_points 5 (some .int) [(0, 10, 13, 13), (0, 10, 17, 15)], Cond.methodLink RL 71 yX4_points, Cond.instanceMethod yX4_points, Cond.selects RX4 yX4_points yX4_points, Cond.code yX4_points cX4_points 3 (some .int), Cond.methodLink RL 162 yX5_points, Cond.instanceMethod yX5_points, Cond.selects RX5 yX5_points yX5_points, Cond.code yX5_points cX5_points 3 (some .int), Cond.methodLink RX5 156 yX5_pointed, Cond.instanceMethod yX5_pointed, Cond.selects RX5 yX5_pointed yX5_pointed, Cond.code yX5_pointed cX5_pointed 4 (some .int), Cond.methodLink RL 163 yL_ifBar, Cond.static yL_ifBar, Cond.codeWith yL_ifBar cL_ifBar 6 (some .int) [(0, 12, 15, 13), (0, 12, 19, 15)], Cond.methodLink RL 74 yX4_ifBar, Cond.instanceMethod yX4_ifBar]
def wsL_law0_r27 : List Cond := [Cond.selects RX4 yX4_ifBar yX4_ifBar, Cond.code yX4_ifBar cX4_ifBar 6 (some .int), Cond.methodLink RX4 198 yX2_aimIfBar, Cond.instanceMethod yX2_aimIfBar, Cond.selects RX2 yX2_aimIfBar yX2_aimIfBar, Cond.code yX2_aimIfBar cX2_aimIfBar 10 (some .int), Cond.methodLink RL 165 yX5_ifBar, Cond.instanceMethod yX5_ifBar, Cond.selects RX5 yX5_ifBar yX5_ifBar, Cond.code yX5_ifBar cX5_ifBar 4 (some .int), Cond.methodLink RX5 159 yX5_byBar, Cond.instanceMethod yX5_byBar, Cond.selects RX5 yX5_byBar yX5_byBar, Cond.code yX5_byBar cX5_byBar 6 (some .int), Cond.methodLink RL 166 yL_bestBar, Cond.static yL_bestBar, Cond.codeWith yL_bestBar cL_bestBar 6 (some .int) [(0, 12, 15, 13), (0, 12, 19, 15)], Cond.methodLink RL 77 yX4_bestBar, Cond.instanceMethod yX4_bestBar, Cond.selects RX4 yX4_bestBar yX4_bestBar, Cond.code yX4_bestBar cX4_bestBar 6 (some .int), Cond.methodLink RL 168 yX5_bestBar, Cond.instanceMethod yX5_bestBar, Cond.selects RX5 yX5_bestBar yX5_bestBar]
def wsL_law0_r28 : List Cond := [Cond.code yX5_bestBar cX5_bestBar 4 (some .int), Cond.methodLink RX5 163 yX5_best, Cond.instanceMethod yX5_best, Cond.selects RX5 yX5_best yX5_best, Cond.code yX5_best cX5_best 6 (some .int), Cond.methodLink RL 169 yL_leastTurns, Cond.static yL_leastTurns, Cond.codeWith yL_leastTurns cL_leastTurns 4 (some .int) [(0, 9, 12, 13)], Cond.methodLink RL 80 yX4_leastTurns, Cond.instanceMethod yX4_leastTurns, Cond.selects RX4 yX4_leastTurns yX4_leastTurns, Cond.code yX4_leastTurns cX4_leastTurns 3 (some .int), Cond.methodLink RX4 202 yX2_aimIfTurns, Cond.instanceMethod yX2_aimIfTurns, Cond.selects RX2 yX2_aimIfTurns yX2_aimIfTurns, Cond.code yX2_aimIfTurns cX2_aimIfTurns 6 (some .int), Cond.methodLink RL 171 yX5_leastTurns, Cond.instanceMethod yX5_leastTurns, Cond.selects RX5 yX5_leastTurns yX5_leastTurns, Cond.code yX5_leastTurns cX5_leastTurns 2 (some .int), Cond.methodLink RX5 166 yX5_least, Cond.instanceMethod yX5_least, Cond.selects RX5 yX5_least yX5_least, Cond.code yX5_least cX5_least 3 (some .int)]
def wsL_law0_r29 : List Cond := [Cond.methodLink RL 172 yX4_obedience, Cond.instanceMethod yX4_obedience, Cond.selects RX4 yX4_obedience yX4_obedience, Cond.code yX4_obedience cX4_obedience 2 (some .double), Cond.methodLink RX4 206 yX2_aimedCount, Cond.instanceMethod yX2_aimedCount, Cond.selects RX2 yX2_aimedCount yX2_aimedCount, Cond.code yX2_aimedCount cX2_aimedCount 3 (some .int), Cond.methodLink RL 176 yX5_obedience, Cond.instanceMethod yX5_obedience, Cond.selects RX5 yX5_obedience yX5_obedience, Cond.code yX5_obedience cX5_obedience 1 (some .double), Cond.methodLink RX5 169 yX5_share, Cond.instanceMethod yX5_share, Cond.selects RX5 yX5_share yX5_share, Cond.code yX5_share cX5_share 5 (some .double), Cond.methodLink RL 177 yX4_digest, Cond.instanceMethod yX4_digest, Cond.selects RX4 yX4_digest yX4_digest, Cond.code yX4_digest cX4_digest 4 (some .long), Cond.constantLong RX4 209 (3167), Cond.methodLink RX4 211 yX4_count, Cond.methodLink RX4 214 yX4_mixed, Cond.static yX4_mixed]
def wsL_law0_r30 : List Cond := [Cond.code yX4_mixed cX4_mixed 4 (some .long), Cond.constantLong RX4 267 (31), Cond.methodLink RX4 218 yX4_setting, Cond.methodLink RX4 221 yX4_withCells, Cond.instanceMethod yX4_withCells, Cond.selects RX4 yX4_withCells yX4_withCells, Cond.code yX4_withCells cX4_withCells 7 (some .long), Cond.methodLink RX4 258 yX4_cell, Cond.methodLink RX4 225 yX4_withBars, Cond.instanceMethod yX4_withBars, Cond.selects RX4 yX4_withBars yX4_withBars, Cond.code yX4_withBars cX4_withBars 8 (some .long), Cond.methodLink RX4 261 yX4_barOf, Cond.methodLink RX4 228 yX4_pointing, Cond.methodLink RX4 231 yX4_restsIn, Cond.methodLink RX4 234 yX4_points, Cond.methodLink RX4 237 yX4_ifBar, Cond.methodLink RX4 241 yX4_bestBar, Cond.methodLink RX4 244 yX4_leastTurns, Cond.methodLink RX4 247 yX4_obedience, Cond.methodLink RX4 251 yX4_bitsOf, Cond.static yX4_bitsOf, Cond.code yX4_bitsOf cX4_bitsOf 6 (some .long), Cond.constantLong RX4 269 (1023)]
def wsL_law0_r31 : List Cond := [Cond.constantDouble RX4 271 (4611686018427387904), Cond.constantDouble RX4 273 (4841369599423283200), Cond.methodLink RX4 255 yX4_withBuffer, Cond.instanceMethod yX4_withBuffer, Cond.selects RX4 yX4_withBuffer yX4_withBuffer, Cond.code yX4_withBuffer cX4_withBuffer 6 (some .long), Cond.methodLink RL 181 yX5_digest, Cond.instanceMethod yX5_digest, Cond.selects RX5 yX5_digest yX5_digest, Cond.code yX5_digest cX5_digest 5 (some .long), Cond.constantLong RX5 173 (3167), Cond.constantLong RX5 175 (31), Cond.methodLink RX5 177 yJxe99ae_doubleToLongBits_ccdee, Cond.static yJxe99ae_doubleToLongBits_ccdee, Cond.initialized RJxe99ae, Cond.code yJxe99ae_doubleToLongBits_ccdee cJxe99ae_doubleToLongBits_ccdee 2 (some .long), Cond.methodLink RJxe99ae 134 ⟨"java/lang/Double", "doubleToRawLongBits", "(D)J"⟩, Cond.native ⟨"java/lang/Double", "doubleToRawLongBits", "(D)J"⟩, Cond.static ⟨"java/lang/Double", "doubleToRawLongBits", "(D)J"⟩, Cond.initialized "java/lang/Double", Cond.constantLong RJxe99ae 137 (9221120237041090560), Cond.methodLink RJxe99ae 122 yJxe99ae_isNaN_b9ae7, Cond.static yJxe99ae_isNaN_b9ae7, Cond.code yJxe99ae_isNaN_b9ae7 cJxe99ae_isNaN_b9ae7 2 (some .boolean)]
def wsL_law0 : List Cond := (wsL_law0_r1 ++ (wsL_law0_r2 ++ (wsL_law0_r3 ++ (wsL_law0_r4 ++ (wsL_law0_r5 ++ (wsL_law0_r6 ++ (wsL_law0_r7 ++ (wsL_law0_r8 ++ (wsL_law0_r9 ++ (wsL_law0_r10 ++ (wsL_law0_r11 ++ (wsL_law0_r12 ++ (wsL_law0_r13 ++ (wsL_law0_r14 ++ (wsL_law0_r15 ++ (wsL_law0_r16 ++ (wsL_law0_r17 ++ (wsL_law0_r18 ++ (wsL_law0_r19 ++ (wsL_law0_r20 ++ (wsL_law0_r21 ++ (wsL_law0_r22 ++ (wsL_law0_r23 ++ (wsL_law0_r24 ++ (wsL_law0_r25 ++ (wsL_law0_r26 ++ (wsL_law0_r27 ++ (wsL_law0_r28 ++ (wsL_law0_r29 ++ (wsL_law0_r30 ++ wsL_law0_r31)))))))))))))))))))))))))))))) ++ wsX40 ++ wsX50 ++ wsX20 ++ wsX30 ++ wsX10 ++ wsX00 ++ ([] : List Cond)
def wsL_law : List Cond := wsL_law0 ++ (vx_atS RX4 279 "java/lang/IndexOutOfBoundsException" ["java/lang/RuntimeException", "java/lang/Exception"]).filter goodWord ++ (vx_atS RX4 131 "java/lang/IllegalArgumentException" ["java/lang/RuntimeException", "java/lang/Exception"]).filter goodWord ++ (vx_atS RX4 78 "java/lang/IllegalStateException" ["java/lang/RuntimeException", "java/lang/Exception"]).filter goodWord
abbrev vwCl : List vw_C := [(RX0, TX0, 6), (RX1, TX1, 3), (RX2, TX2, 13), (RX3, TX3, 3), (RX4, TX4, 4), (RX5, TX5, 14)]
end
section
theorem dX0_init_0 : decode cX0_init 0 = .ok (.aload_n 0, 1) := by decide +kernel
theorem dX0_init_1 : decode cX0_init 1 = .ok (.invokespecial 3, 3) := by decide +kernel
theorem dX0_init_4 : decode cX0_init 4 = .ok (.return_, 1) := by decide +kernel
theorem dX0_begin_0 : decode cX0_begin 0 = .ok (.aload_n 0, 1) := by decide +kernel
theorem dX0_begin_1 : decode cX0_begin 1 = .ok (.iconst 0, 1) := by decide +kernel
theorem dX0_begin_2 : decode cX0_begin 2 = .ok (.putfield 11, 3) := by decide +kernel
theorem dX0_begin_5 : decode cX0_begin 5 = .ok (.aload_n 0, 1) := by decide +kernel
theorem dX0_begin_6 : decode cX0_begin 6 = .ok (.iconst 1, 1) := by decide +kernel
theorem dX0_begin_7 : decode cX0_begin 7 = .ok (.putfield 15, 3) := by decide +kernel
theorem dX0_begin_10 : decode cX0_begin 10 = .ok (.return_, 1) := by decide +kernel
set_option maxRecDepth 20000 in
theorem ggX0_take_X0_goOn : GoodIn wsX0_take wsX0_goOn := goodIn_r _ [10, 1, 16, 17, 18, 19, 20, 21] (by decide +kernel) (by decide +kernel)
set_option maxRecDepth 20000 in
theorem gX0_take_X0_goOn : GoodIn wsX0_take (wsV RX0 21 RX0 yX0_goOn wsX0_goOn) := goodIn_app (goodIn_of _ (by decide +kernel)) ggX0_take_X0_goOn
set_option maxRecDepth 20000 in
theorem ggX0_take_X0_takeBehindStrength : GoodIn wsX0_take wsX0_takeBehindStrength := goodIn_r _ [14, 15, 5, 6, 7, 8, 9, 10, 1, 16, 17, 18, 19, 20, 21] (by decide +kernel) (by decide +kernel)
set_option maxRecDepth 20000 in
theorem gX0_take_X0_takeBehindStrength : GoodIn wsX0_take (wsV RX0 34 RX0 yX0_takeBehindStrength wsX0_takeBehindStrength) := goodIn_app (goodIn_of _ (by decide +kernel)) ggX0_take_X0_takeBehindStrength
theorem dX0_take_0 : decode cX0_take 0 = .ok (.iload_n 1, 1) := by decide +kernel
theorem dX0_take_1 : decode cX0_take 1 = .ok (.bipush 48, 2) := by decide +kernel
theorem dX0_take_3 : decode cX0_take 3 = .ok (.isub, 1) := by decide +kernel
theorem dX0_take_4 : decode cX0_take 4 = .ok (.istore_n 2, 1) := by decide +kernel
theorem dX0_take_5 : decode cX0_take 5 = .ok (.aload_n 0, 1) := by decide +kernel
theorem dX0_take_6 : decode cX0_take 6 = .ok (.getfield 11, 3) := by decide +kernel
theorem dX0_take_9 : decode cX0_take 9 = .ok (.tableswitch 145 0 3 #[31, 57, 83, 118], 31) := by decide +kernel
theorem dX0_take_40 : decode cX0_take 40 = .ok (.aload_n 0, 1) := by decide +kernel
theorem dX0_take_41 : decode cX0_take 41 = .ok (.iload_n 2, 1) := by decide +kernel
theorem dX0_take_42 : decode cX0_take 42 = .ok (.putfield 18, 3) := by decide +kernel
theorem dX0_take_45 : decode cX0_take 45 = .ok (.aload_n 0, 1) := by decide +kernel
theorem dX0_take_46 : decode cX0_take 46 = .ok (.iconst 1, 1) := by decide +kernel
theorem dX0_take_47 : decode cX0_take 47 = .ok (.iload_n 2, 1) := by decide +kernel
theorem dX0_take_48 : decode cX0_take 48 = .ok (.ifCond .lt 13, 3) := by decide +kernel
theorem dX0_take_51 : decode cX0_take 51 = .ok (.iload_n 2, 1) := by decide +kernel
theorem dX0_take_52 : decode cX0_take 52 = .ok (.bipush 6, 2) := by decide +kernel
theorem dX0_take_54 : decode cX0_take 54 = .ok (.if_icmp .ge 7, 3) := by decide +kernel
theorem dX0_take_57 : decode cX0_take 57 = .ok (.iconst 1, 1) := by decide +kernel
theorem dX0_take_58 : decode cX0_take 58 = .ok (.goto 4, 3) := by decide +kernel
theorem dX0_take_61 : decode cX0_take 61 = .ok (.iconst 0, 1) := by decide +kernel
theorem dX0_take_62 : decode cX0_take 62 = .ok (.invokevirtual 21, 3) := by decide +kernel
theorem dX0_take_65 : decode cX0_take 65 = .ok (.ireturn, 1) := by decide +kernel
theorem dX0_take_66 : decode cX0_take 66 = .ok (.aload_n 0, 1) := by decide +kernel
theorem dX0_take_67 : decode cX0_take 67 = .ok (.iload_n 2, 1) := by decide +kernel
theorem dX0_take_68 : decode cX0_take 68 = .ok (.putfield 25, 3) := by decide +kernel
theorem dX0_take_71 : decode cX0_take 71 = .ok (.aload_n 0, 1) := by decide +kernel
theorem dX0_take_72 : decode cX0_take 72 = .ok (.iconst 2, 1) := by decide +kernel
theorem dX0_take_73 : decode cX0_take 73 = .ok (.iload_n 2, 1) := by decide +kernel
theorem dX0_take_74 : decode cX0_take 74 = .ok (.ifCond .lt 13, 3) := by decide +kernel
theorem dX0_take_77 : decode cX0_take 77 = .ok (.iload_n 2, 1) := by decide +kernel
theorem dX0_take_78 : decode cX0_take 78 = .ok (.bipush 6, 2) := by decide +kernel
theorem dX0_take_80 : decode cX0_take 80 = .ok (.if_icmp .ge 7, 3) := by decide +kernel
theorem dX0_take_83 : decode cX0_take 83 = .ok (.iconst 1, 1) := by decide +kernel
theorem dX0_take_84 : decode cX0_take 84 = .ok (.goto 4, 3) := by decide +kernel
theorem dX0_take_87 : decode cX0_take 87 = .ok (.iconst 0, 1) := by decide +kernel
theorem dX0_take_88 : decode cX0_take 88 = .ok (.invokevirtual 21, 3) := by decide +kernel
theorem dX0_take_91 : decode cX0_take 91 = .ok (.ireturn, 1) := by decide +kernel
theorem dX0_take_92 : decode cX0_take 92 = .ok (.aload_n 0, 1) := by decide +kernel
theorem dX0_take_93 : decode cX0_take 93 = .ok (.iload_n 1, 1) := by decide +kernel
theorem dX0_take_94 : decode cX0_take 94 = .ok (.bipush 97, 2) := by decide +kernel
theorem dX0_take_96 : decode cX0_take 96 = .ok (.isub, 1) := by decide +kernel
theorem dX0_take_97 : decode cX0_take 97 = .ok (.putfield 28, 3) := by decide +kernel
theorem dX0_take_100 : decode cX0_take 100 = .ok (.aload_n 0, 1) := by decide +kernel
theorem dX0_take_101 : decode cX0_take 101 = .ok (.iconst 3, 1) := by decide +kernel
theorem dX0_take_102 : decode cX0_take 102 = .ok (.aload_n 0, 1) := by decide +kernel
theorem dX0_take_103 : decode cX0_take 103 = .ok (.getfield 28, 3) := by decide +kernel
theorem dX0_take_106 : decode cX0_take 106 = .ok (.ifCond .lt 16, 3) := by decide +kernel
theorem dX0_take_109 : decode cX0_take 109 = .ok (.aload_n 0, 1) := by decide +kernel
theorem dX0_take_110 : decode cX0_take 110 = .ok (.getfield 28, 3) := by decide +kernel
theorem dX0_take_113 : decode cX0_take 113 = .ok (.bipush 8, 2) := by decide +kernel
theorem dX0_take_115 : decode cX0_take 115 = .ok (.if_icmp .ge 7, 3) := by decide +kernel
theorem dX0_take_118 : decode cX0_take 118 = .ok (.iconst 1, 1) := by decide +kernel
theorem dX0_take_119 : decode cX0_take 119 = .ok (.goto 4, 3) := by decide +kernel
theorem dX0_take_122 : decode cX0_take 122 = .ok (.iconst 0, 1) := by decide +kernel
theorem dX0_take_123 : decode cX0_take 123 = .ok (.invokevirtual 21, 3) := by decide +kernel
theorem dX0_take_126 : decode cX0_take 126 = .ok (.ireturn, 1) := by decide +kernel
theorem dX0_take_127 : decode cX0_take 127 = .ok (.aload_n 0, 1) := by decide +kernel
theorem dX0_take_128 : decode cX0_take 128 = .ok (.iload_n 2, 1) := by decide +kernel
theorem dX0_take_129 : decode cX0_take 129 = .ok (.putfield 31, 3) := by decide +kernel
theorem dX0_take_132 : decode cX0_take 132 = .ok (.aload_n 0, 1) := by decide +kernel
theorem dX0_take_133 : decode cX0_take 133 = .ok (.iconst 4, 1) := by decide +kernel
theorem dX0_take_134 : decode cX0_take 134 = .ok (.iload_n 2, 1) := by decide +kernel
theorem dX0_take_135 : decode cX0_take 135 = .ok (.iconst 1, 1) := by decide +kernel
theorem dX0_take_136 : decode cX0_take 136 = .ok (.if_icmp .lt 13, 3) := by decide +kernel
theorem dX0_take_139 : decode cX0_take 139 = .ok (.iload_n 2, 1) := by decide +kernel
theorem dX0_take_140 : decode cX0_take 140 = .ok (.bipush 9, 2) := by decide +kernel
theorem dX0_take_142 : decode cX0_take 142 = .ok (.if_icmp .gt 7, 3) := by decide +kernel
theorem dX0_take_145 : decode cX0_take 145 = .ok (.iconst 1, 1) := by decide +kernel
theorem dX0_take_146 : decode cX0_take 146 = .ok (.goto 4, 3) := by decide +kernel
theorem dX0_take_149 : decode cX0_take 149 = .ok (.iconst 0, 1) := by decide +kernel
theorem dX0_take_150 : decode cX0_take 150 = .ok (.invokevirtual 21, 3) := by decide +kernel
theorem dX0_take_153 : decode cX0_take 153 = .ok (.ireturn, 1) := by decide +kernel
theorem dX0_take_154 : decode cX0_take 154 = .ok (.aload_n 0, 1) := by decide +kernel
theorem dX0_take_155 : decode cX0_take 155 = .ok (.iload_n 1, 1) := by decide +kernel
theorem dX0_take_156 : decode cX0_take 156 = .ok (.invokevirtual 34, 3) := by decide +kernel
theorem dX0_take_159 : decode cX0_take 159 = .ok (.ireturn, 1) := by decide +kernel
set_option maxRecDepth 20000 in
theorem ggX0_takeBehindStrength_X0_goOn : GoodIn wsX0_takeBehindStrength wsX0_goOn := goodIn_r _ [7, 8, 9, 10, 11, 12, 13, 14] (by decide +kernel) (by decide +kernel)
set_option maxRecDepth 20000 in
theorem gX0_takeBehindStrength_X0_goOn : GoodIn wsX0_takeBehindStrength (wsV RX0 21 RX0 yX0_goOn wsX0_goOn) := goodIn_app (goodIn_of _ (by decide +kernel)) ggX0_takeBehindStrength_X0_goOn
theorem dX0_takeBehindStrength_0 : decode cX0_takeBehindStrength 0 = .ok (.iload_n 1, 1) := by decide +kernel
theorem dX0_takeBehindStrength_1 : decode cX0_takeBehindStrength 1 = .ok (.bipush 59, 2) := by decide +kernel
theorem dX0_takeBehindStrength_3 : decode cX0_takeBehindStrength 3 = .ok (.if_icmp .ne 33, 3) := by decide +kernel
theorem dX0_takeBehindStrength_6 : decode cX0_takeBehindStrength 6 = .ok (.aload_n 0, 1) := by decide +kernel
theorem dX0_takeBehindStrength_7 : decode cX0_takeBehindStrength 7 = .ok (.dup, 1) := by decide +kernel
theorem dX0_takeBehindStrength_8 : decode cX0_takeBehindStrength 8 = .ok (.getfield 15, 3) := by decide +kernel
theorem dX0_takeBehindStrength_11 : decode cX0_takeBehindStrength 11 = .ok (.iconst 1, 1) := by decide +kernel
theorem dX0_takeBehindStrength_12 : decode cX0_takeBehindStrength 12 = .ok (.iadd, 1) := by decide +kernel
theorem dX0_takeBehindStrength_13 : decode cX0_takeBehindStrength 13 = .ok (.putfield 15, 3) := by decide +kernel
theorem dX0_takeBehindStrength_16 : decode cX0_takeBehindStrength 16 = .ok (.aload_n 0, 1) := by decide +kernel
theorem dX0_takeBehindStrength_17 : decode cX0_takeBehindStrength 17 = .ok (.iconst 0, 1) := by decide +kernel
theorem dX0_takeBehindStrength_18 : decode cX0_takeBehindStrength 18 = .ok (.aload_n 0, 1) := by decide +kernel
theorem dX0_takeBehindStrength_19 : decode cX0_takeBehindStrength 19 = .ok (.getfield 15, 3) := by decide +kernel
theorem dX0_takeBehindStrength_22 : decode cX0_takeBehindStrength 22 = .ok (.bipush 6, 2) := by decide +kernel
theorem dX0_takeBehindStrength_24 : decode cX0_takeBehindStrength 24 = .ok (.if_icmp .gt 7, 3) := by decide +kernel
theorem dX0_takeBehindStrength_27 : decode cX0_takeBehindStrength 27 = .ok (.iconst 1, 1) := by decide +kernel
theorem dX0_takeBehindStrength_28 : decode cX0_takeBehindStrength 28 = .ok (.goto 4, 3) := by decide +kernel
theorem dX0_takeBehindStrength_31 : decode cX0_takeBehindStrength 31 = .ok (.iconst 0, 1) := by decide +kernel
theorem dX0_takeBehindStrength_32 : decode cX0_takeBehindStrength 32 = .ok (.invokevirtual 21, 3) := by decide +kernel
theorem dX0_takeBehindStrength_35 : decode cX0_takeBehindStrength 35 = .ok (.ireturn, 1) := by decide +kernel
theorem dX0_takeBehindStrength_36 : decode cX0_takeBehindStrength 36 = .ok (.iload_n 1, 1) := by decide +kernel
theorem dX0_takeBehindStrength_37 : decode cX0_takeBehindStrength 37 = .ok (.bipush 48, 2) := by decide +kernel
theorem dX0_takeBehindStrength_39 : decode cX0_takeBehindStrength 39 = .ok (.isub, 1) := by decide +kernel
theorem dX0_takeBehindStrength_40 : decode cX0_takeBehindStrength 40 = .ok (.istore_n 2, 1) := by decide +kernel
theorem dX0_takeBehindStrength_41 : decode cX0_takeBehindStrength 41 = .ok (.aload_n 0, 1) := by decide +kernel
theorem dX0_takeBehindStrength_42 : decode cX0_takeBehindStrength 42 = .ok (.bipush 10, 2) := by decide +kernel
theorem dX0_takeBehindStrength_44 : decode cX0_takeBehindStrength 44 = .ok (.aload_n 0, 1) := by decide +kernel
theorem dX0_takeBehindStrength_45 : decode cX0_takeBehindStrength 45 = .ok (.getfield 31, 3) := by decide +kernel
theorem dX0_takeBehindStrength_48 : decode cX0_takeBehindStrength 48 = .ok (.imul, 1) := by decide +kernel
theorem dX0_takeBehindStrength_49 : decode cX0_takeBehindStrength 49 = .ok (.iload_n 2, 1) := by decide +kernel
theorem dX0_takeBehindStrength_50 : decode cX0_takeBehindStrength 50 = .ok (.iadd, 1) := by decide +kernel
theorem dX0_takeBehindStrength_51 : decode cX0_takeBehindStrength 51 = .ok (.putfield 31, 3) := by decide +kernel
theorem dX0_takeBehindStrength_54 : decode cX0_takeBehindStrength 54 = .ok (.aload_n 0, 1) := by decide +kernel
theorem dX0_takeBehindStrength_55 : decode cX0_takeBehindStrength 55 = .ok (.iconst 4, 1) := by decide +kernel
theorem dX0_takeBehindStrength_56 : decode cX0_takeBehindStrength 56 = .ok (.iload_n 2, 1) := by decide +kernel
theorem dX0_takeBehindStrength_57 : decode cX0_takeBehindStrength 57 = .ok (.ifCond .lt 22, 3) := by decide +kernel
theorem dX0_takeBehindStrength_60 : decode cX0_takeBehindStrength 60 = .ok (.iload_n 2, 1) := by decide +kernel
theorem dX0_takeBehindStrength_61 : decode cX0_takeBehindStrength 61 = .ok (.bipush 9, 2) := by decide +kernel
theorem dX0_takeBehindStrength_63 : decode cX0_takeBehindStrength 63 = .ok (.if_icmp .gt 16, 3) := by decide +kernel
theorem dX0_takeBehindStrength_66 : decode cX0_takeBehindStrength 66 = .ok (.aload_n 0, 1) := by decide +kernel
theorem dX0_takeBehindStrength_67 : decode cX0_takeBehindStrength 67 = .ok (.getfield 31, 3) := by decide +kernel
theorem dX0_takeBehindStrength_70 : decode cX0_takeBehindStrength 70 = .ok (.bipush 50, 2) := by decide +kernel
theorem dX0_takeBehindStrength_72 : decode cX0_takeBehindStrength 72 = .ok (.if_icmp .gt 7, 3) := by decide +kernel
theorem dX0_takeBehindStrength_75 : decode cX0_takeBehindStrength 75 = .ok (.iconst 1, 1) := by decide +kernel
theorem dX0_takeBehindStrength_76 : decode cX0_takeBehindStrength 76 = .ok (.goto 4, 3) := by decide +kernel
theorem dX0_takeBehindStrength_79 : decode cX0_takeBehindStrength 79 = .ok (.iconst 0, 1) := by decide +kernel
theorem dX0_takeBehindStrength_80 : decode cX0_takeBehindStrength 80 = .ok (.invokevirtual 21, 3) := by decide +kernel
theorem dX0_takeBehindStrength_83 : decode cX0_takeBehindStrength 83 = .ok (.ireturn, 1) := by decide +kernel
theorem dX0_goOn_0 : decode cX0_goOn 0 = .ok (.aload_n 0, 1) := by decide +kernel
theorem dX0_goOn_1 : decode cX0_goOn 1 = .ok (.iload_n 1, 1) := by decide +kernel
theorem dX0_goOn_2 : decode cX0_goOn 2 = .ok (.putfield 11, 3) := by decide +kernel
theorem dX0_goOn_5 : decode cX0_goOn 5 = .ok (.iload_n 2, 1) := by decide +kernel
theorem dX0_goOn_6 : decode cX0_goOn 6 = .ok (.ireturn, 1) := by decide +kernel
theorem dX0_isBehindStrength_0 : decode cX0_isBehindStrength 0 = .ok (.aload_n 0, 1) := by decide +kernel
theorem dX0_isBehindStrength_1 : decode cX0_isBehindStrength 1 = .ok (.getfield 11, 3) := by decide +kernel
theorem dX0_isBehindStrength_4 : decode cX0_isBehindStrength 4 = .ok (.iconst 4, 1) := by decide +kernel
theorem dX0_isBehindStrength_5 : decode cX0_isBehindStrength 5 = .ok (.if_icmp .ne 7, 3) := by decide +kernel
theorem dX0_isBehindStrength_8 : decode cX0_isBehindStrength 8 = .ok (.iconst 1, 1) := by decide +kernel
theorem dX0_isBehindStrength_9 : decode cX0_isBehindStrength 9 = .ok (.goto 4, 3) := by decide +kernel
theorem dX0_isBehindStrength_12 : decode cX0_isBehindStrength 12 = .ok (.iconst 0, 1) := by decide +kernel
theorem dX0_isBehindStrength_13 : decode cX0_isBehindStrength 13 = .ok (.ireturn, 1) := by decide +kernel
set_option maxRecDepth 20000 in
theorem ggX0_layInto_X2_layBar : GoodIn wsX0_layInto wsX2_layBar := goodIn_r _ [9, 10, 11, 18, 19, 20, 21, 22, 23, 24, 25, 26, 27, 28, 29, 30] (by decide +kernel) (by decide +kernel)
set_option maxRecDepth 20000 in
theorem gX0_layInto_X2_layBar : GoodIn wsX0_layInto (wsV RX0 38 RX2 yX2_layBar wsX2_layBar) := goodIn_app (goodIn_of _ (by decide +kernel)) ggX0_layInto_X2_layBar
theorem dX0_layInto_0 : decode cX0_layInto 0 = .ok (.aload_n 0, 1) := by decide +kernel
theorem dX0_layInto_1 : decode cX0_layInto 1 = .ok (.getfield 25, 3) := by decide +kernel
theorem dX0_layInto_4 : decode cX0_layInto 4 = .ok (.bipush 6, 2) := by decide +kernel
theorem dX0_layInto_6 : decode cX0_layInto 6 = .ok (.imul, 1) := by decide +kernel
theorem dX0_layInto_7 : decode cX0_layInto 7 = .ok (.aload_n 0, 1) := by decide +kernel
theorem dX0_layInto_8 : decode cX0_layInto 8 = .ok (.getfield 18, 3) := by decide +kernel
theorem dX0_layInto_11 : decode cX0_layInto 11 = .ok (.iadd, 1) := by decide +kernel
theorem dX0_layInto_12 : decode cX0_layInto 12 = .ok (.istore_n 2, 1) := by decide +kernel
theorem dX0_layInto_13 : decode cX0_layInto 13 = .ok (.iload_n 2, 1) := by decide +kernel
theorem dX0_layInto_14 : decode cX0_layInto 14 = .ok (.ifCond .lt 22, 3) := by decide +kernel
theorem dX0_layInto_17 : decode cX0_layInto 17 = .ok (.iload_n 2, 1) := by decide +kernel
theorem dX0_layInto_18 : decode cX0_layInto 18 = .ok (.bipush 36, 2) := by decide +kernel
theorem dX0_layInto_20 : decode cX0_layInto 20 = .ok (.if_icmp .ge 16, 3) := by decide +kernel
theorem dX0_layInto_23 : decode cX0_layInto 23 = .ok (.aload_n 1, 1) := by decide +kernel
theorem dX0_layInto_24 : decode cX0_layInto 24 = .ok (.iload_n 2, 1) := by decide +kernel
theorem dX0_layInto_25 : decode cX0_layInto 25 = .ok (.aload_n 0, 1) := by decide +kernel
theorem dX0_layInto_26 : decode cX0_layInto 26 = .ok (.getfield 28, 3) := by decide +kernel
theorem dX0_layInto_29 : decode cX0_layInto 29 = .ok (.aload_n 0, 1) := by decide +kernel
theorem dX0_layInto_30 : decode cX0_layInto 30 = .ok (.getfield 31, 3) := by decide +kernel
theorem dX0_layInto_33 : decode cX0_layInto 33 = .ok (.invokevirtual 38, 3) := by decide +kernel
theorem dX0_layInto_36 : decode cX0_layInto 36 = .ok (.return_, 1) := by decide +kernel
end
section
set_option maxRecDepth 20000 in
theorem ggX1_init_X0_init : GoodIn wsX1_init wsX0_init := goodIn_r _ [11, 12, 2, 3] (by decide +kernel) (by decide +kernel)
set_option maxRecDepth 20000 in
theorem gX1_init_X0_init_n17 : GoodIn wsX1_init (wsX0_init) := ggX1_init_X0_init
theorem dX1_init_0 : decode cX1_init 0 = .ok (.aload_n 0, 1) := by decide +kernel
theorem dX1_init_1 : decode cX1_init 1 = .ok (.invokespecial 3, 3) := by decide +kernel
theorem dX1_init_4 : decode cX1_init 4 = .ok (.aload_n 0, 1) := by decide +kernel
theorem dX1_init_5 : decode cX1_init 5 = .ok (.bipush 60, 2) := by decide +kernel
theorem dX1_init_7 : decode cX1_init 7 = .ok (.newarray .int, 2) := by decide +kernel
theorem dX1_init_9 : decode cX1_init 9 = .ok (.putfield 9, 3) := by decide +kernel
theorem dX1_init_12 : decode cX1_init 12 = .ok (.aload_n 0, 1) := by decide +kernel
theorem dX1_init_13 : decode cX1_init 13 = .ok (.new 15, 3) := by decide +kernel
theorem dX1_init_16 : decode cX1_init 16 = .ok (.dup, 1) := by decide +kernel
theorem dX1_init_17 : decode cX1_init 17 = .ok (.invokespecial 17, 3) := by decide +kernel
theorem dX1_init_20 : decode cX1_init 20 = .ok (.putfield 18, 3) := by decide +kernel
theorem dX1_init_23 : decode cX1_init 23 = .ok (.return_, 1) := by decide +kernel
theorem dX1_add_0 : decode cX1_add 0 = .ok (.aload_n 0, 1) := by decide +kernel
theorem dX1_add_1 : decode cX1_add 1 = .ok (.getfield 22, 3) := by decide +kernel
theorem dX1_add_4 : decode cX1_add 4 = .ok (.bipush 60, 2) := by decide +kernel
theorem dX1_add_6 : decode cX1_add 6 = .ok (.if_icmp .ge 23, 3) := by decide +kernel
theorem dX1_add_9 : decode cX1_add 9 = .ok (.aload_n 0, 1) := by decide +kernel
theorem dX1_add_10 : decode cX1_add 10 = .ok (.getfield 9, 3) := by decide +kernel
theorem dX1_add_13 : decode cX1_add 13 = .ok (.aload_n 0, 1) := by decide +kernel
theorem dX1_add_14 : decode cX1_add 14 = .ok (.getfield 22, 3) := by decide +kernel
theorem dX1_add_17 : decode cX1_add 17 = .ok (.iload_n 1, 1) := by decide +kernel
theorem dX1_add_18 : decode cX1_add 18 = .ok (.iastore, 1) := by decide +kernel
theorem dX1_add_19 : decode cX1_add 19 = .ok (.aload_n 0, 1) := by decide +kernel
theorem dX1_add_20 : decode cX1_add 20 = .ok (.dup, 1) := by decide +kernel
theorem dX1_add_21 : decode cX1_add 21 = .ok (.getfield 22, 3) := by decide +kernel
theorem dX1_add_24 : decode cX1_add 24 = .ok (.iconst 1, 1) := by decide +kernel
theorem dX1_add_25 : decode cX1_add 25 = .ok (.iadd, 1) := by decide +kernel
theorem dX1_add_26 : decode cX1_add 26 = .ok (.putfield 22, 3) := by decide +kernel
theorem dX1_add_29 : decode cX1_add 29 = .ok (.return_, 1) := by decide +kernel
set_option maxRecDepth 20000 in
theorem ggX1_goodLength_X0_begin : GoodIn wsX1_goodLength wsX0_begin := goodIn_r _ [8, 9, 10, 30, 31, 32, 33, 34, 35] (by decide +kernel) (by decide +kernel)
set_option maxRecDepth 20000 in
theorem gX1_goodLength_X0_begin : GoodIn wsX1_goodLength (wsV RX1 26 RX0 yX0_begin wsX0_begin) := goodIn_app (goodIn_of _ (by decide +kernel)) ggX1_goodLength_X0_begin
set_option maxRecDepth 20000 in
theorem ggX1_goodLength_X0_take : GoodIn wsX1_goodLength wsX0_take := goodIn_r _ [14, 9, 15, 16, 17, 18, 19, 20, 21, 7, 22, 23, 24, 25, 26, 10, 30, 31, 32, 33, 34, 35] (by decide +kernel) (by decide +kernel)
set_option maxRecDepth 20000 in
theorem gX1_goodLength_X0_take : GoodIn wsX1_goodLength (wsV RX1 29 RX0 yX0_take wsX0_take) := goodIn_app (goodIn_of _ (by decide +kernel)) ggX1_goodLength_X0_take
theorem dX1_goodLength_0 : decode cX1_goodLength 0 = .ok (.aload_n 0, 1) := by decide +kernel
theorem dX1_goodLength_1 : decode cX1_goodLength 1 = .ok (.getfield 18, 3) := by decide +kernel
theorem dX1_goodLength_4 : decode cX1_goodLength 4 = .ok (.invokevirtual 26, 3) := by decide +kernel
theorem dX1_goodLength_7 : decode cX1_goodLength 7 = .ok (.iconst 0, 1) := by decide +kernel
theorem dX1_goodLength_8 : decode cX1_goodLength 8 = .ok (.istore_n 1, 1) := by decide +kernel
theorem dX1_goodLength_9 : decode cX1_goodLength 9 = .ok (.iload_n 1, 1) := by decide +kernel
theorem dX1_goodLength_10 : decode cX1_goodLength 10 = .ok (.aload_n 0, 1) := by decide +kernel
theorem dX1_goodLength_11 : decode cX1_goodLength 11 = .ok (.getfield 22, 3) := by decide +kernel
theorem dX1_goodLength_14 : decode cX1_goodLength 14 = .ok (.if_icmp .ge 31, 3) := by decide +kernel
theorem dX1_goodLength_17 : decode cX1_goodLength 17 = .ok (.iload_n 1, 1) := by decide +kernel
theorem dX1_goodLength_18 : decode cX1_goodLength 18 = .ok (.bipush 60, 2) := by decide +kernel
theorem dX1_goodLength_20 : decode cX1_goodLength 20 = .ok (.if_icmp .ge 25, 3) := by decide +kernel
theorem dX1_goodLength_23 : decode cX1_goodLength 23 = .ok (.aload_n 0, 1) := by decide +kernel
theorem dX1_goodLength_24 : decode cX1_goodLength 24 = .ok (.getfield 18, 3) := by decide +kernel
theorem dX1_goodLength_27 : decode cX1_goodLength 27 = .ok (.aload_n 0, 1) := by decide +kernel
theorem dX1_goodLength_28 : decode cX1_goodLength 28 = .ok (.getfield 9, 3) := by decide +kernel
theorem dX1_goodLength_31 : decode cX1_goodLength 31 = .ok (.iload_n 1, 1) := by decide +kernel
theorem dX1_goodLength_32 : decode cX1_goodLength 32 = .ok (.iaload, 1) := by decide +kernel
theorem dX1_goodLength_33 : decode cX1_goodLength 33 = .ok (.invokevirtual 29, 3) := by decide +kernel
theorem dX1_goodLength_36 : decode cX1_goodLength 36 = .ok (.ifCond .eq 9, 3) := by decide +kernel
theorem dX1_goodLength_39 : decode cX1_goodLength 39 = .ok (.iinc 1 1, 3) := by decide +kernel
theorem dX1_goodLength_42 : decode cX1_goodLength 42 = .ok (.goto (-33), 3) := by decide +kernel
theorem dX1_goodLength_45 : decode cX1_goodLength 45 = .ok (.iload_n 1, 1) := by decide +kernel
theorem dX1_goodLength_46 : decode cX1_goodLength 46 = .ok (.ireturn, 1) := by decide +kernel
set_option maxRecDepth 20000 in
theorem ggX1_isComplete_X1_goodLength : GoodIn wsX1_isComplete wsX1_goodLength := goodIn_r _ [7, 2, 1, 8, 9, 10, 11, 12, 13, 14, 15, 16, 17, 18, 19, 20, 21, 22, 23, 24, 25, 26, 27, 28, 29, 30, 31, 36, 37, 38, 39, 40, 41, 42, 43, 44] (by decide +kernel) (by decide +kernel)
set_option maxRecDepth 20000 in
theorem gX1_isComplete_X1_goodLength : GoodIn wsX1_isComplete (wsV RX1 33 RX1 yX1_goodLength wsX1_goodLength) := goodIn_app (goodIn_of _ (by decide +kernel)) ggX1_isComplete_X1_goodLength
set_option maxRecDepth 20000 in
theorem ggX1_isComplete_X0_isBehindStrength : GoodIn wsX1_isComplete wsX0_isBehindStrength := goodIn_r _ [35, 14, 39, 40, 41, 42, 43, 44] (by decide +kernel) (by decide +kernel)
set_option maxRecDepth 20000 in
theorem gX1_isComplete_X0_isBehindStrength : GoodIn wsX1_isComplete (wsV RX1 37 RX0 yX0_isBehindStrength wsX0_isBehindStrength) := goodIn_app (goodIn_of _ (by decide +kernel)) ggX1_isComplete_X0_isBehindStrength
theorem dX1_isComplete_0 : decode cX1_isComplete 0 = .ok (.aload_n 0, 1) := by decide +kernel
theorem dX1_isComplete_1 : decode cX1_isComplete 1 = .ok (.invokevirtual 33, 3) := by decide +kernel
theorem dX1_isComplete_4 : decode cX1_isComplete 4 = .ok (.aload_n 0, 1) := by decide +kernel
theorem dX1_isComplete_5 : decode cX1_isComplete 5 = .ok (.getfield 22, 3) := by decide +kernel
theorem dX1_isComplete_8 : decode cX1_isComplete 8 = .ok (.if_icmp .ne 17, 3) := by decide +kernel
theorem dX1_isComplete_11 : decode cX1_isComplete 11 = .ok (.aload_n 0, 1) := by decide +kernel
theorem dX1_isComplete_12 : decode cX1_isComplete 12 = .ok (.getfield 18, 3) := by decide +kernel
theorem dX1_isComplete_15 : decode cX1_isComplete 15 = .ok (.invokevirtual 37, 3) := by decide +kernel
theorem dX1_isComplete_18 : decode cX1_isComplete 18 = .ok (.ifCond .eq 7, 3) := by decide +kernel
theorem dX1_isComplete_21 : decode cX1_isComplete 21 = .ok (.iconst 1, 1) := by decide +kernel
theorem dX1_isComplete_22 : decode cX1_isComplete 22 = .ok (.goto 4, 3) := by decide +kernel
theorem dX1_isComplete_25 : decode cX1_isComplete 25 = .ok (.iconst 0, 1) := by decide +kernel
theorem dX1_isComplete_26 : decode cX1_isComplete 26 = .ok (.ireturn, 1) := by decide +kernel
set_option maxRecDepth 20000 in
theorem ggX1_layInto_X0_begin : GoodIn wsX1_layInto wsX0_begin := goodIn_r _ [8, 9, 10, 41, 42, 43, 44, 45, 46] (by decide +kernel) (by decide +kernel)
set_option maxRecDepth 20000 in
theorem gX1_layInto_X0_begin : GoodIn wsX1_layInto (wsV RX1 26 RX0 yX0_begin wsX0_begin) := goodIn_app (goodIn_of _ (by decide +kernel)) ggX1_layInto_X0_begin
set_option maxRecDepth 20000 in
theorem ggX1_layInto_X0_layInto : GoodIn wsX1_layInto wsX0_layInto := goodIn_r _ [14, 15, 16, 17, 18, 19, 20, 21, 22, 23, 24, 25, 41, 42, 43, 44, 45, 46, 47, 48, 49, 50, 51, 52, 53, 54, 55, 56, 57, 58, 59] (by decide +kernel) (by decide +kernel)
set_option maxRecDepth 20000 in
theorem gX1_layInto_X0_layInto : GoodIn wsX1_layInto (wsV RX1 41 RX0 yX0_layInto wsX0_layInto) := goodIn_app (goodIn_of _ (by decide +kernel)) ggX1_layInto_X0_layInto
set_option maxRecDepth 20000 in
theorem ggX1_layInto_X0_take : GoodIn wsX1_layInto wsX0_take := goodIn_r _ [29, 9, 16, 15, 17, 18, 30, 31, 32, 7, 33, 34, 35, 36, 37, 10, 41, 42, 43, 44, 45, 46] (by decide +kernel) (by decide +kernel)
set_option maxRecDepth 20000 in
theorem gX1_layInto_X0_take : GoodIn wsX1_layInto (wsV RX1 29 RX0 yX0_take wsX0_take) := goodIn_app (goodIn_of _ (by decide +kernel)) ggX1_layInto_X0_take
theorem dX1_layInto_0 : decode cX1_layInto 0 = .ok (.aload_n 0, 1) := by decide +kernel
theorem dX1_layInto_1 : decode cX1_layInto 1 = .ok (.getfield 18, 3) := by decide +kernel
theorem dX1_layInto_4 : decode cX1_layInto 4 = .ok (.invokevirtual 26, 3) := by decide +kernel
theorem dX1_layInto_7 : decode cX1_layInto 7 = .ok (.iconst 0, 1) := by decide +kernel
theorem dX1_layInto_8 : decode cX1_layInto 8 = .ok (.istore_n 2, 1) := by decide +kernel
theorem dX1_layInto_9 : decode cX1_layInto 9 = .ok (.iload_n 2, 1) := by decide +kernel
theorem dX1_layInto_10 : decode cX1_layInto 10 = .ok (.aload_n 0, 1) := by decide +kernel
theorem dX1_layInto_11 : decode cX1_layInto 11 = .ok (.getfield 22, 3) := by decide +kernel
theorem dX1_layInto_14 : decode cX1_layInto 14 = .ok (.if_icmp .ge 48, 3) := by decide +kernel
theorem dX1_layInto_17 : decode cX1_layInto 17 = .ok (.iload_n 2, 1) := by decide +kernel
theorem dX1_layInto_18 : decode cX1_layInto 18 = .ok (.bipush 60, 2) := by decide +kernel
theorem dX1_layInto_20 : decode cX1_layInto 20 = .ok (.if_icmp .ge 42, 3) := by decide +kernel
theorem dX1_layInto_23 : decode cX1_layInto 23 = .ok (.aload_n 0, 1) := by decide +kernel
theorem dX1_layInto_24 : decode cX1_layInto 24 = .ok (.getfield 9, 3) := by decide +kernel
theorem dX1_layInto_27 : decode cX1_layInto 27 = .ok (.iload_n 2, 1) := by decide +kernel
theorem dX1_layInto_28 : decode cX1_layInto 28 = .ok (.iaload, 1) := by decide +kernel
theorem dX1_layInto_29 : decode cX1_layInto 29 = .ok (.bipush 59, 2) := by decide +kernel
theorem dX1_layInto_31 : decode cX1_layInto 31 = .ok (.if_icmp .ne 11, 3) := by decide +kernel
theorem dX1_layInto_34 : decode cX1_layInto 34 = .ok (.aload_n 0, 1) := by decide +kernel
theorem dX1_layInto_35 : decode cX1_layInto 35 = .ok (.getfield 18, 3) := by decide +kernel
theorem dX1_layInto_38 : decode cX1_layInto 38 = .ok (.aload_n 1, 1) := by decide +kernel
theorem dX1_layInto_39 : decode cX1_layInto 39 = .ok (.invokevirtual 41, 3) := by decide +kernel
theorem dX1_layInto_42 : decode cX1_layInto 42 = .ok (.aload_n 0, 1) := by decide +kernel
theorem dX1_layInto_43 : decode cX1_layInto 43 = .ok (.getfield 18, 3) := by decide +kernel
theorem dX1_layInto_46 : decode cX1_layInto 46 = .ok (.aload_n 0, 1) := by decide +kernel
theorem dX1_layInto_47 : decode cX1_layInto 47 = .ok (.getfield 9, 3) := by decide +kernel
theorem dX1_layInto_50 : decode cX1_layInto 50 = .ok (.iload_n 2, 1) := by decide +kernel
theorem dX1_layInto_51 : decode cX1_layInto 51 = .ok (.iaload, 1) := by decide +kernel
theorem dX1_layInto_52 : decode cX1_layInto 52 = .ok (.invokevirtual 29, 3) := by decide +kernel
theorem dX1_layInto_55 : decode cX1_layInto 55 = .ok (.pop, 1) := by decide +kernel
theorem dX1_layInto_56 : decode cX1_layInto 56 = .ok (.iinc 2 1, 3) := by decide +kernel
theorem dX1_layInto_59 : decode cX1_layInto 59 = .ok (.goto (-50), 3) := by decide +kernel
theorem dX1_layInto_62 : decode cX1_layInto 62 = .ok (.aload_n 0, 1) := by decide +kernel
theorem dX1_layInto_63 : decode cX1_layInto 63 = .ok (.getfield 18, 3) := by decide +kernel
theorem dX1_layInto_66 : decode cX1_layInto 66 = .ok (.aload_n 1, 1) := by decide +kernel
theorem dX1_layInto_67 : decode cX1_layInto 67 = .ok (.invokevirtual 41, 3) := by decide +kernel
theorem dX1_layInto_70 : decode cX1_layInto 70 = .ok (.return_, 1) := by decide +kernel
end
section
set_option maxRecDepth 20000 in
theorem ggX2_init_X2_measureAll : GoodIn wsX2_init wsX2_measureAll := goodIn_r _ [20, 11, 21, 22, 12, 13, 23, 24, 25, 26, 27, 28, 29, 30, 31, 32, 19, 33, 10, 34, 35, 36, 37, 9, 38, 39, 40, 41, 42, 43, 44, 45, 14, 15, 46, 47, 48, 49, 5, 50, 51, 52, 53, 54, 55, 56, 57, 58, 59, 60, 61, 62, 63, 64, 65, 66] (by decide +kernel) (by decide +kernel)
set_option maxRecDepth 20000 in
theorem gX2_init_X2_measureAll : GoodIn wsX2_init (wsV RX2 43 RX2 yX2_measureAll wsX2_measureAll) := goodIn_app (goodIn_of _ (by decide +kernel)) ggX2_init_X2_measureAll
theorem dX2_init_0 : decode cX2_init 0 = .ok (.aload_n 0, 1) := by decide +kernel
theorem dX2_init_1 : decode cX2_init 1 = .ok (.invokespecial 3, 3) := by decide +kernel
theorem dX2_init_4 : decode cX2_init 4 = .ok (.aload_n 0, 1) := by decide +kernel
theorem dX2_init_5 : decode cX2_init 5 = .ok (.bipush 36, 2) := by decide +kernel
theorem dX2_init_7 : decode cX2_init 7 = .ok (.newarray .int, 2) := by decide +kernel
theorem dX2_init_9 : decode cX2_init 9 = .ok (.putfield 9, 3) := by decide +kernel
theorem dX2_init_12 : decode cX2_init 12 = .ok (.aload_n 0, 1) := by decide +kernel
theorem dX2_init_13 : decode cX2_init 13 = .ok (.bipush 36, 2) := by decide +kernel
theorem dX2_init_15 : decode cX2_init 15 = .ok (.newarray .int, 2) := by decide +kernel
theorem dX2_init_17 : decode cX2_init 17 = .ok (.putfield 15, 3) := by decide +kernel
theorem dX2_init_20 : decode cX2_init 20 = .ok (.aload_n 0, 1) := by decide +kernel
theorem dX2_init_21 : decode cX2_init 21 = .ok (.bipush 36, 2) := by decide +kernel
theorem dX2_init_23 : decode cX2_init 23 = .ok (.newarray .boolean, 2) := by decide +kernel
theorem dX2_init_25 : decode cX2_init 25 = .ok (.putfield 18, 3) := by decide +kernel
theorem dX2_init_28 : decode cX2_init 28 = .ok (.aload_n 0, 1) := by decide +kernel
theorem dX2_init_29 : decode cX2_init 29 = .ok (.bipush 36, 2) := by decide +kernel
theorem dX2_init_31 : decode cX2_init 31 = .ok (.newarray .int, 2) := by decide +kernel
theorem dX2_init_33 : decode cX2_init 33 = .ok (.putfield 22, 3) := by decide +kernel
theorem dX2_init_36 : decode cX2_init 36 = .ok (.aload_n 0, 1) := by decide +kernel
theorem dX2_init_37 : decode cX2_init 37 = .ok (.bipush 36, 2) := by decide +kernel
theorem dX2_init_39 : decode cX2_init 39 = .ok (.newarray .int, 2) := by decide +kernel
theorem dX2_init_41 : decode cX2_init 41 = .ok (.putfield 25, 3) := by decide +kernel
theorem dX2_init_44 : decode cX2_init 44 = .ok (.aload_n 0, 1) := by decide +kernel
theorem dX2_init_45 : decode cX2_init 45 = .ok (.iconst 3, 1) := by decide +kernel
theorem dX2_init_46 : decode cX2_init 46 = .ok (.newarray .int, 2) := by decide +kernel
theorem dX2_init_48 : decode cX2_init 48 = .ok (.dup, 1) := by decide +kernel
theorem dX2_init_49 : decode cX2_init 49 = .ok (.iconst 0, 1) := by decide +kernel
theorem dX2_init_50 : decode cX2_init 50 = .ok (.bipush 20, 2) := by decide +kernel
theorem dX2_init_52 : decode cX2_init 52 = .ok (.iastore, 1) := by decide +kernel
theorem dX2_init_53 : decode cX2_init 53 = .ok (.dup, 1) := by decide +kernel
theorem dX2_init_54 : decode cX2_init 54 = .ok (.iconst 1, 1) := by decide +kernel
theorem dX2_init_55 : decode cX2_init 55 = .ok (.iconst 2, 1) := by decide +kernel
theorem dX2_init_56 : decode cX2_init 56 = .ok (.iastore, 1) := by decide +kernel
theorem dX2_init_57 : decode cX2_init 57 = .ok (.dup, 1) := by decide +kernel
theorem dX2_init_58 : decode cX2_init 58 = .ok (.iconst 2, 1) := by decide +kernel
theorem dX2_init_59 : decode cX2_init 59 = .ok (.iconst 3, 1) := by decide +kernel
theorem dX2_init_60 : decode cX2_init 60 = .ok (.iastore, 1) := by decide +kernel
theorem dX2_init_61 : decode cX2_init 61 = .ok (.putfield 28, 3) := by decide +kernel
theorem dX2_init_64 : decode cX2_init 64 = .ok (.aload_n 0, 1) := by decide +kernel
theorem dX2_init_65 : decode cX2_init 65 = .ok (.bipush 36, 2) := by decide +kernel
theorem dX2_init_67 : decode cX2_init 67 = .ok (.newarray .int, 2) := by decide +kernel
theorem dX2_init_69 : decode cX2_init 69 = .ok (.putfield 31, 3) := by decide +kernel
theorem dX2_init_72 : decode cX2_init 72 = .ok (.aload_n 0, 1) := by decide +kernel
theorem dX2_init_73 : decode cX2_init 73 = .ok (.bipush 36, 2) := by decide +kernel
theorem dX2_init_75 : decode cX2_init 75 = .ok (.newarray .int, 2) := by decide +kernel
theorem dX2_init_77 : decode cX2_init 77 = .ok (.putfield 34, 3) := by decide +kernel
theorem dX2_init_80 : decode cX2_init 80 = .ok (.aload_n 0, 1) := by decide +kernel
theorem dX2_init_81 : decode cX2_init 81 = .ok (.bipush 36, 2) := by decide +kernel
theorem dX2_init_83 : decode cX2_init 83 = .ok (.newarray .int, 2) := by decide +kernel
theorem dX2_init_85 : decode cX2_init 85 = .ok (.putfield 37, 3) := by decide +kernel
theorem dX2_init_88 : decode cX2_init 88 = .ok (.aload_n 0, 1) := by decide +kernel
theorem dX2_init_89 : decode cX2_init 89 = .ok (.bipush 36, 2) := by decide +kernel
theorem dX2_init_91 : decode cX2_init 91 = .ok (.newarray .int, 2) := by decide +kernel
theorem dX2_init_93 : decode cX2_init 93 = .ok (.putfield 40, 3) := by decide +kernel
theorem dX2_init_96 : decode cX2_init 96 = .ok (.iconst 0, 1) := by decide +kernel
theorem dX2_init_97 : decode cX2_init 97 = .ok (.istore_n 1, 1) := by decide +kernel
theorem dX2_init_98 : decode cX2_init 98 = .ok (.iload_n 1, 1) := by decide +kernel
theorem dX2_init_99 : decode cX2_init 99 = .ok (.bipush 36, 2) := by decide +kernel
theorem dX2_init_101 : decode cX2_init 101 = .ok (.if_icmp .ge 25, 3) := by decide +kernel
theorem dX2_init_104 : decode cX2_init 104 = .ok (.aload_n 0, 1) := by decide +kernel
theorem dX2_init_105 : decode cX2_init 105 = .ok (.getfield 9, 3) := by decide +kernel
theorem dX2_init_108 : decode cX2_init 108 = .ok (.iload_n 1, 1) := by decide +kernel
theorem dX2_init_109 : decode cX2_init 109 = .ok (.bipush 6, 2) := by decide +kernel
theorem dX2_init_111 : decode cX2_init 111 = .ok (.iastore, 1) := by decide +kernel
theorem dX2_init_112 : decode cX2_init 112 = .ok (.aload_n 0, 1) := by decide +kernel
theorem dX2_init_113 : decode cX2_init 113 = .ok (.getfield 15, 3) := by decide +kernel
theorem dX2_init_116 : decode cX2_init 116 = .ok (.iload_n 1, 1) := by decide +kernel
theorem dX2_init_117 : decode cX2_init 117 = .ok (.bipush 10, 2) := by decide +kernel
theorem dX2_init_119 : decode cX2_init 119 = .ok (.iastore, 1) := by decide +kernel
theorem dX2_init_120 : decode cX2_init 120 = .ok (.iinc 1 1, 3) := by decide +kernel
theorem dX2_init_123 : decode cX2_init 123 = .ok (.goto (-25), 3) := by decide +kernel
theorem dX2_init_126 : decode cX2_init 126 = .ok (.aload_n 0, 1) := by decide +kernel
theorem dX2_init_127 : decode cX2_init 127 = .ok (.invokevirtual 43, 3) := by decide +kernel
theorem dX2_init_130 : decode cX2_init 130 = .ok (.return_, 1) := by decide +kernel
theorem dX2_copyFrom_0 : decode cX2_copyFrom 0 = .ok (.iconst 0, 1) := by decide +kernel
theorem dX2_copyFrom_1 : decode cX2_copyFrom 1 = .ok (.istore_n 2, 1) := by decide +kernel
theorem dX2_copyFrom_2 : decode cX2_copyFrom 2 = .ok (.iload_n 2, 1) := by decide +kernel
theorem dX2_copyFrom_3 : decode cX2_copyFrom 3 = .ok (.bipush 36, 2) := by decide +kernel
theorem dX2_copyFrom_5 : decode cX2_copyFrom 5 = .ok (.if_icmp .ge 117, 3) := by decide +kernel
theorem dX2_copyFrom_8 : decode cX2_copyFrom 8 = .ok (.aload_n 0, 1) := by decide +kernel
theorem dX2_copyFrom_9 : decode cX2_copyFrom 9 = .ok (.getfield 9, 3) := by decide +kernel
theorem dX2_copyFrom_12 : decode cX2_copyFrom 12 = .ok (.iload_n 2, 1) := by decide +kernel
theorem dX2_copyFrom_13 : decode cX2_copyFrom 13 = .ok (.aload_n 1, 1) := by decide +kernel
theorem dX2_copyFrom_14 : decode cX2_copyFrom 14 = .ok (.getfield 9, 3) := by decide +kernel
theorem dX2_copyFrom_17 : decode cX2_copyFrom 17 = .ok (.iload_n 2, 1) := by decide +kernel
theorem dX2_copyFrom_18 : decode cX2_copyFrom 18 = .ok (.iaload, 1) := by decide +kernel
theorem dX2_copyFrom_19 : decode cX2_copyFrom 19 = .ok (.iastore, 1) := by decide +kernel
theorem dX2_copyFrom_20 : decode cX2_copyFrom 20 = .ok (.aload_n 0, 1) := by decide +kernel
theorem dX2_copyFrom_21 : decode cX2_copyFrom 21 = .ok (.getfield 15, 3) := by decide +kernel
theorem dX2_copyFrom_24 : decode cX2_copyFrom 24 = .ok (.iload_n 2, 1) := by decide +kernel
theorem dX2_copyFrom_25 : decode cX2_copyFrom 25 = .ok (.aload_n 1, 1) := by decide +kernel
theorem dX2_copyFrom_26 : decode cX2_copyFrom 26 = .ok (.getfield 15, 3) := by decide +kernel
theorem dX2_copyFrom_29 : decode cX2_copyFrom 29 = .ok (.iload_n 2, 1) := by decide +kernel
theorem dX2_copyFrom_30 : decode cX2_copyFrom 30 = .ok (.iaload, 1) := by decide +kernel
theorem dX2_copyFrom_31 : decode cX2_copyFrom 31 = .ok (.iastore, 1) := by decide +kernel
theorem dX2_copyFrom_32 : decode cX2_copyFrom 32 = .ok (.aload_n 0, 1) := by decide +kernel
theorem dX2_copyFrom_33 : decode cX2_copyFrom 33 = .ok (.getfield 18, 3) := by decide +kernel
theorem dX2_copyFrom_36 : decode cX2_copyFrom 36 = .ok (.iload_n 2, 1) := by decide +kernel
theorem dX2_copyFrom_37 : decode cX2_copyFrom 37 = .ok (.aload_n 1, 1) := by decide +kernel
theorem dX2_copyFrom_38 : decode cX2_copyFrom 38 = .ok (.getfield 18, 3) := by decide +kernel
theorem dX2_copyFrom_41 : decode cX2_copyFrom 41 = .ok (.iload_n 2, 1) := by decide +kernel
theorem dX2_copyFrom_42 : decode cX2_copyFrom 42 = .ok (.baload, 1) := by decide +kernel
theorem dX2_copyFrom_43 : decode cX2_copyFrom 43 = .ok (.bastore, 1) := by decide +kernel
theorem dX2_copyFrom_44 : decode cX2_copyFrom 44 = .ok (.aload_n 0, 1) := by decide +kernel
theorem dX2_copyFrom_45 : decode cX2_copyFrom 45 = .ok (.getfield 22, 3) := by decide +kernel
theorem dX2_copyFrom_48 : decode cX2_copyFrom 48 = .ok (.iload_n 2, 1) := by decide +kernel
theorem dX2_copyFrom_49 : decode cX2_copyFrom 49 = .ok (.aload_n 1, 1) := by decide +kernel
theorem dX2_copyFrom_50 : decode cX2_copyFrom 50 = .ok (.getfield 22, 3) := by decide +kernel
theorem dX2_copyFrom_53 : decode cX2_copyFrom 53 = .ok (.iload_n 2, 1) := by decide +kernel
theorem dX2_copyFrom_54 : decode cX2_copyFrom 54 = .ok (.iaload, 1) := by decide +kernel
theorem dX2_copyFrom_55 : decode cX2_copyFrom 55 = .ok (.iastore, 1) := by decide +kernel
theorem dX2_copyFrom_56 : decode cX2_copyFrom 56 = .ok (.aload_n 0, 1) := by decide +kernel
theorem dX2_copyFrom_57 : decode cX2_copyFrom 57 = .ok (.getfield 25, 3) := by decide +kernel
theorem dX2_copyFrom_60 : decode cX2_copyFrom 60 = .ok (.iload_n 2, 1) := by decide +kernel
theorem dX2_copyFrom_61 : decode cX2_copyFrom 61 = .ok (.aload_n 1, 1) := by decide +kernel
theorem dX2_copyFrom_62 : decode cX2_copyFrom 62 = .ok (.getfield 25, 3) := by decide +kernel
theorem dX2_copyFrom_65 : decode cX2_copyFrom 65 = .ok (.iload_n 2, 1) := by decide +kernel
theorem dX2_copyFrom_66 : decode cX2_copyFrom 66 = .ok (.iaload, 1) := by decide +kernel
theorem dX2_copyFrom_67 : decode cX2_copyFrom 67 = .ok (.iastore, 1) := by decide +kernel
theorem dX2_copyFrom_68 : decode cX2_copyFrom 68 = .ok (.aload_n 0, 1) := by decide +kernel
theorem dX2_copyFrom_69 : decode cX2_copyFrom 69 = .ok (.getfield 31, 3) := by decide +kernel
theorem dX2_copyFrom_72 : decode cX2_copyFrom 72 = .ok (.iload_n 2, 1) := by decide +kernel
theorem dX2_copyFrom_73 : decode cX2_copyFrom 73 = .ok (.aload_n 1, 1) := by decide +kernel
theorem dX2_copyFrom_74 : decode cX2_copyFrom 74 = .ok (.getfield 31, 3) := by decide +kernel
theorem dX2_copyFrom_77 : decode cX2_copyFrom 77 = .ok (.iload_n 2, 1) := by decide +kernel
theorem dX2_copyFrom_78 : decode cX2_copyFrom 78 = .ok (.iaload, 1) := by decide +kernel
theorem dX2_copyFrom_79 : decode cX2_copyFrom 79 = .ok (.iastore, 1) := by decide +kernel
theorem dX2_copyFrom_80 : decode cX2_copyFrom 80 = .ok (.aload_n 0, 1) := by decide +kernel
theorem dX2_copyFrom_81 : decode cX2_copyFrom 81 = .ok (.getfield 34, 3) := by decide +kernel
theorem dX2_copyFrom_84 : decode cX2_copyFrom 84 = .ok (.iload_n 2, 1) := by decide +kernel
theorem dX2_copyFrom_85 : decode cX2_copyFrom 85 = .ok (.aload_n 1, 1) := by decide +kernel
theorem dX2_copyFrom_86 : decode cX2_copyFrom 86 = .ok (.getfield 34, 3) := by decide +kernel
theorem dX2_copyFrom_89 : decode cX2_copyFrom 89 = .ok (.iload_n 2, 1) := by decide +kernel
theorem dX2_copyFrom_90 : decode cX2_copyFrom 90 = .ok (.iaload, 1) := by decide +kernel
theorem dX2_copyFrom_91 : decode cX2_copyFrom 91 = .ok (.iastore, 1) := by decide +kernel
theorem dX2_copyFrom_92 : decode cX2_copyFrom 92 = .ok (.aload_n 0, 1) := by decide +kernel
theorem dX2_copyFrom_93 : decode cX2_copyFrom 93 = .ok (.getfield 37, 3) := by decide +kernel
theorem dX2_copyFrom_96 : decode cX2_copyFrom 96 = .ok (.iload_n 2, 1) := by decide +kernel
theorem dX2_copyFrom_97 : decode cX2_copyFrom 97 = .ok (.aload_n 1, 1) := by decide +kernel
theorem dX2_copyFrom_98 : decode cX2_copyFrom 98 = .ok (.getfield 37, 3) := by decide +kernel
theorem dX2_copyFrom_101 : decode cX2_copyFrom 101 = .ok (.iload_n 2, 1) := by decide +kernel
theorem dX2_copyFrom_102 : decode cX2_copyFrom 102 = .ok (.iaload, 1) := by decide +kernel
theorem dX2_copyFrom_103 : decode cX2_copyFrom 103 = .ok (.iastore, 1) := by decide +kernel
theorem dX2_copyFrom_104 : decode cX2_copyFrom 104 = .ok (.aload_n 0, 1) := by decide +kernel
theorem dX2_copyFrom_105 : decode cX2_copyFrom 105 = .ok (.getfield 40, 3) := by decide +kernel
theorem dX2_copyFrom_108 : decode cX2_copyFrom 108 = .ok (.iload_n 2, 1) := by decide +kernel
theorem dX2_copyFrom_109 : decode cX2_copyFrom 109 = .ok (.aload_n 1, 1) := by decide +kernel
theorem dX2_copyFrom_110 : decode cX2_copyFrom 110 = .ok (.getfield 40, 3) := by decide +kernel
theorem dX2_copyFrom_113 : decode cX2_copyFrom 113 = .ok (.iload_n 2, 1) := by decide +kernel
theorem dX2_copyFrom_114 : decode cX2_copyFrom 114 = .ok (.iaload, 1) := by decide +kernel
theorem dX2_copyFrom_115 : decode cX2_copyFrom 115 = .ok (.iastore, 1) := by decide +kernel
theorem dX2_copyFrom_116 : decode cX2_copyFrom 116 = .ok (.iinc 2 1, 3) := by decide +kernel
theorem dX2_copyFrom_119 : decode cX2_copyFrom 119 = .ok (.goto (-117), 3) := by decide +kernel
theorem dX2_copyFrom_122 : decode cX2_copyFrom 122 = .ok (.iconst 0, 1) := by decide +kernel
theorem dX2_copyFrom_123 : decode cX2_copyFrom 123 = .ok (.istore_n 2, 1) := by decide +kernel
theorem dX2_copyFrom_124 : decode cX2_copyFrom 124 = .ok (.iload_n 2, 1) := by decide +kernel
theorem dX2_copyFrom_125 : decode cX2_copyFrom 125 = .ok (.iconst 3, 1) := by decide +kernel
theorem dX2_copyFrom_126 : decode cX2_copyFrom 126 = .ok (.if_icmp .ge 21, 3) := by decide +kernel
theorem dX2_copyFrom_129 : decode cX2_copyFrom 129 = .ok (.aload_n 0, 1) := by decide +kernel
theorem dX2_copyFrom_130 : decode cX2_copyFrom 130 = .ok (.getfield 28, 3) := by decide +kernel
theorem dX2_copyFrom_133 : decode cX2_copyFrom 133 = .ok (.iload_n 2, 1) := by decide +kernel
theorem dX2_copyFrom_134 : decode cX2_copyFrom 134 = .ok (.aload_n 1, 1) := by decide +kernel
theorem dX2_copyFrom_135 : decode cX2_copyFrom 135 = .ok (.getfield 28, 3) := by decide +kernel
theorem dX2_copyFrom_138 : decode cX2_copyFrom 138 = .ok (.iload_n 2, 1) := by decide +kernel
theorem dX2_copyFrom_139 : decode cX2_copyFrom 139 = .ok (.iaload, 1) := by decide +kernel
theorem dX2_copyFrom_140 : decode cX2_copyFrom 140 = .ok (.iastore, 1) := by decide +kernel
theorem dX2_copyFrom_141 : decode cX2_copyFrom 141 = .ok (.iinc 2 1, 3) := by decide +kernel
theorem dX2_copyFrom_144 : decode cX2_copyFrom 144 = .ok (.goto (-20), 3) := by decide +kernel
theorem dX2_copyFrom_147 : decode cX2_copyFrom 147 = .ok (.aload_n 0, 1) := by decide +kernel
theorem dX2_copyFrom_148 : decode cX2_copyFrom 148 = .ok (.aload_n 1, 1) := by decide +kernel
theorem dX2_copyFrom_149 : decode cX2_copyFrom 149 = .ok (.getfield 46, 3) := by decide +kernel
theorem dX2_copyFrom_152 : decode cX2_copyFrom 152 = .ok (.putfield 46, 3) := by decide +kernel
theorem dX2_copyFrom_155 : decode cX2_copyFrom 155 = .ok (.aload_n 0, 1) := by decide +kernel
theorem dX2_copyFrom_156 : decode cX2_copyFrom 156 = .ok (.aload_n 1, 1) := by decide +kernel
theorem dX2_copyFrom_157 : decode cX2_copyFrom 157 = .ok (.getfield 50, 3) := by decide +kernel
theorem dX2_copyFrom_160 : decode cX2_copyFrom 160 = .ok (.putfield 50, 3) := by decide +kernel
theorem dX2_copyFrom_163 : decode cX2_copyFrom 163 = .ok (.aload_n 0, 1) := by decide +kernel
theorem dX2_copyFrom_164 : decode cX2_copyFrom 164 = .ok (.aload_n 1, 1) := by decide +kernel
theorem dX2_copyFrom_165 : decode cX2_copyFrom 165 = .ok (.getfield 53, 3) := by decide +kernel
theorem dX2_copyFrom_168 : decode cX2_copyFrom 168 = .ok (.putfield 53, 3) := by decide +kernel
theorem dX2_copyFrom_171 : decode cX2_copyFrom 171 = .ok (.return_, 1) := by decide +kernel
set_option maxRecDepth 20000 in
theorem ggX2_measureAll_X4_across : GoodIn wsX2_measureAll wsX4_across := goodIn_r _ [8, 9] (by decide +kernel) (by decide +kernel)
set_option maxRecDepth 20000 in
theorem gX2_measureAll_X4_across_n56 : GoodIn wsX2_measureAll (wsX4_across) := ggX2_measureAll_X4_across
set_option maxRecDepth 20000 in
theorem ggX2_measureAll_X4_down : GoodIn wsX2_measureAll wsX4_down := goodIn_r _ [11, 12] (by decide +kernel) (by decide +kernel)
set_option maxRecDepth 20000 in
theorem gX2_measureAll_X4_down_n60 : GoodIn wsX2_measureAll (wsX4_down) := ggX2_measureAll_X4_down
set_option maxRecDepth 20000 in
theorem ggX2_measureAll_X2_hasBar : GoodIn wsX2_measureAll wsX2_hasBar := goodIn_r _ [17, 18, 43, 44, 45, 46, 47, 48, 49, 50, 51, 52, 53, 54, 55] (by decide +kernel) (by decide +kernel)
set_option maxRecDepth 20000 in
theorem gX2_measureAll_X2_hasBar : GoodIn wsX2_measureAll (wsV RX2 63 RX2 yX2_hasBar wsX2_hasBar) := goodIn_app (goodIn_of _ (by decide +kernel)) ggX2_measureAll_X2_hasBar
set_option maxRecDepth 20000 in
theorem ggX2_measureAll_X2_addBarToStill : GoodIn wsX2_measureAll wsX2_addBarToStill := goodIn_r _ [22, 23, 18, 4, 5, 6, 7, 8, 9, 10, 11, 12, 24, 25, 26, 27, 43, 44, 45, 46, 47, 48, 49, 50, 51, 52, 53, 54, 55] (by decide +kernel) (by decide +kernel)
set_option maxRecDepth 20000 in
theorem gX2_measureAll_X2_addBarToStill : GoodIn wsX2_measureAll (wsV RX2 67 RX2 yX2_addBarToStill wsX2_addBarToStill) := goodIn_app (goodIn_of _ (by decide +kernel)) ggX2_measureAll_X2_addBarToStill
set_option maxRecDepth 20000 in
theorem ggX2_measureAll_X2_measureField : GoodIn wsX2_measureAll wsX2_measureField := goodIn_r _ [31, 32, 4, 33, 5, 34, 35, 36, 16, 37, 1, 38, 6, 7, 8, 9, 10, 11, 12, 39, 40, 41, 42, 43, 44, 45, 46, 47, 48, 49, 50, 51, 52, 53, 54, 55] (by decide +kernel) (by decide +kernel)
set_option maxRecDepth 20000 in
theorem gX2_measureAll_X2_measureField : GoodIn wsX2_measureAll (wsV RX2 71 RX2 yX2_measureField wsX2_measureField) := goodIn_app (goodIn_of _ (by decide +kernel)) ggX2_measureAll_X2_measureField
theorem dX2_measureAll_0 : decode cX2_measureAll 0 = .ok (.aload_n 0, 1) := by decide +kernel
theorem dX2_measureAll_1 : decode cX2_measureAll 1 = .ok (.getfield 28, 3) := by decide +kernel
theorem dX2_measureAll_4 : decode cX2_measureAll 4 = .ok (.iconst 1, 1) := by decide +kernel
theorem dX2_measureAll_5 : decode cX2_measureAll 5 = .ok (.iaload, 1) := by decide +kernel
theorem dX2_measureAll_6 : decode cX2_measureAll 6 = .ok (.aload_n 0, 1) := by decide +kernel
theorem dX2_measureAll_7 : decode cX2_measureAll 7 = .ok (.getfield 46, 3) := by decide +kernel
theorem dX2_measureAll_10 : decode cX2_measureAll 10 = .ok (.imul, 1) := by decide +kernel
theorem dX2_measureAll_11 : decode cX2_measureAll 11 = .ok (.istore_n 1, 1) := by decide +kernel
theorem dX2_measureAll_12 : decode cX2_measureAll 12 = .ok (.iload_n 1, 1) := by decide +kernel
theorem dX2_measureAll_13 : decode cX2_measureAll 13 = .ok (.aload_n 0, 1) := by decide +kernel
theorem dX2_measureAll_14 : decode cX2_measureAll 14 = .ok (.getfield 50, 3) := by decide +kernel
theorem dX2_measureAll_17 : decode cX2_measureAll 17 = .ok (.invokestatic 56, 3) := by decide +kernel
theorem dX2_measureAll_20 : decode cX2_measureAll 20 = .ok (.imul, 1) := by decide +kernel
theorem dX2_measureAll_21 : decode cX2_measureAll 21 = .ok (.istore_n 2, 1) := by decide +kernel
theorem dX2_measureAll_22 : decode cX2_measureAll 22 = .ok (.iload_n 1, 1) := by decide +kernel
theorem dX2_measureAll_23 : decode cX2_measureAll 23 = .ok (.aload_n 0, 1) := by decide +kernel
theorem dX2_measureAll_24 : decode cX2_measureAll 24 = .ok (.getfield 50, 3) := by decide +kernel
theorem dX2_measureAll_27 : decode cX2_measureAll 27 = .ok (.invokestatic 60, 3) := by decide +kernel
theorem dX2_measureAll_30 : decode cX2_measureAll 30 = .ok (.imul, 1) := by decide +kernel
theorem dX2_measureAll_31 : decode cX2_measureAll 31 = .ok (.aload_n 0, 1) := by decide +kernel
theorem dX2_measureAll_32 : decode cX2_measureAll 32 = .ok (.getfield 28, 3) := by decide +kernel
theorem dX2_measureAll_35 : decode cX2_measureAll 35 = .ok (.iconst 0, 1) := by decide +kernel
theorem dX2_measureAll_36 : decode cX2_measureAll 36 = .ok (.iaload, 1) := by decide +kernel
theorem dX2_measureAll_37 : decode cX2_measureAll 37 = .ok (.isub, 1) := by decide +kernel
theorem dX2_measureAll_38 : decode cX2_measureAll 38 = .ok (.istore_n 3, 1) := by decide +kernel
theorem dX2_measureAll_39 : decode cX2_measureAll 39 = .ok (.iconst 0, 1) := by decide +kernel
theorem dX2_measureAll_40 : decode cX2_measureAll 40 = .ok (.istore 4, 2) := by decide +kernel
theorem dX2_measureAll_42 : decode cX2_measureAll 42 = .ok (.iload 4, 2) := by decide +kernel
theorem dX2_measureAll_44 : decode cX2_measureAll 44 = .ok (.bipush 36, 2) := by decide +kernel
theorem dX2_measureAll_46 : decode cX2_measureAll 46 = .ok (.if_icmp .ge 25, 3) := by decide +kernel
theorem dX2_measureAll_49 : decode cX2_measureAll 49 = .ok (.aload_n 0, 1) := by decide +kernel
theorem dX2_measureAll_50 : decode cX2_measureAll 50 = .ok (.getfield 31, 3) := by decide +kernel
theorem dX2_measureAll_53 : decode cX2_measureAll 53 = .ok (.iload 4, 2) := by decide +kernel
theorem dX2_measureAll_55 : decode cX2_measureAll 55 = .ok (.iload_n 2, 1) := by decide +kernel
theorem dX2_measureAll_56 : decode cX2_measureAll 56 = .ok (.iastore, 1) := by decide +kernel
theorem dX2_measureAll_57 : decode cX2_measureAll 57 = .ok (.aload_n 0, 1) := by decide +kernel
theorem dX2_measureAll_58 : decode cX2_measureAll 58 = .ok (.getfield 34, 3) := by decide +kernel
theorem dX2_measureAll_61 : decode cX2_measureAll 61 = .ok (.iload 4, 2) := by decide +kernel
theorem dX2_measureAll_63 : decode cX2_measureAll 63 = .ok (.iload_n 3, 1) := by decide +kernel
theorem dX2_measureAll_64 : decode cX2_measureAll 64 = .ok (.iastore, 1) := by decide +kernel
theorem dX2_measureAll_65 : decode cX2_measureAll 65 = .ok (.iinc 4 1, 3) := by decide +kernel
theorem dX2_measureAll_68 : decode cX2_measureAll 68 = .ok (.goto (-26), 3) := by decide +kernel
theorem dX2_measureAll_71 : decode cX2_measureAll 71 = .ok (.iconst 0, 1) := by decide +kernel
theorem dX2_measureAll_72 : decode cX2_measureAll 72 = .ok (.istore 4, 2) := by decide +kernel
theorem dX2_measureAll_74 : decode cX2_measureAll 74 = .ok (.iload 4, 2) := by decide +kernel
theorem dX2_measureAll_76 : decode cX2_measureAll 76 = .ok (.bipush 36, 2) := by decide +kernel
theorem dX2_measureAll_78 : decode cX2_measureAll 78 = .ok (.if_icmp .ge 24, 3) := by decide +kernel
theorem dX2_measureAll_81 : decode cX2_measureAll 81 = .ok (.aload_n 0, 1) := by decide +kernel
theorem dX2_measureAll_82 : decode cX2_measureAll 82 = .ok (.iload 4, 2) := by decide +kernel
theorem dX2_measureAll_84 : decode cX2_measureAll 84 = .ok (.invokevirtual 63, 3) := by decide +kernel
theorem dX2_measureAll_87 : decode cX2_measureAll 87 = .ok (.ifCond .eq 9, 3) := by decide +kernel
theorem dX2_measureAll_90 : decode cX2_measureAll 90 = .ok (.aload_n 0, 1) := by decide +kernel
theorem dX2_measureAll_91 : decode cX2_measureAll 91 = .ok (.iload 4, 2) := by decide +kernel
theorem dX2_measureAll_93 : decode cX2_measureAll 93 = .ok (.invokevirtual 67, 3) := by decide +kernel
theorem dX2_measureAll_96 : decode cX2_measureAll 96 = .ok (.iinc 4 1, 3) := by decide +kernel
theorem dX2_measureAll_99 : decode cX2_measureAll 99 = .ok (.goto (-25), 3) := by decide +kernel
theorem dX2_measureAll_102 : decode cX2_measureAll 102 = .ok (.aload_n 0, 1) := by decide +kernel
theorem dX2_measureAll_103 : decode cX2_measureAll 103 = .ok (.invokevirtual 71, 3) := by decide +kernel
theorem dX2_measureAll_106 : decode cX2_measureAll 106 = .ok (.return_, 1) := by decide +kernel
set_option maxRecDepth 20000 in
theorem ggX2_addBarToStill_X4_across : GoodIn wsX2_addBarToStill wsX4_across := goodIn_r _ [7, 8] (by decide +kernel) (by decide +kernel)
set_option maxRecDepth 20000 in
theorem gX2_addBarToStill_X4_across_n56 : GoodIn wsX2_addBarToStill (wsX4_across) := ggX2_addBarToStill_X4_across
set_option maxRecDepth 20000 in
theorem ggX2_addBarToStill_X4_down : GoodIn wsX2_addBarToStill wsX4_down := goodIn_r _ [10, 11] (by decide +kernel) (by decide +kernel)
set_option maxRecDepth 20000 in
theorem gX2_addBarToStill_X4_down_n60 : GoodIn wsX2_addBarToStill (wsX4_down) := ggX2_addBarToStill_X4_down
set_option maxRecDepth 20000 in
theorem ggX2_addBarToStill_X4_pull : GoodIn wsX2_addBarToStill wsX4_pull := goodIn_r _ [13, 14, 5, 6, 7, 8, 15, 9, 10, 11] (by decide +kernel) (by decide +kernel)
set_option maxRecDepth 20000 in
theorem gX2_addBarToStill_X4_pull_n74 : GoodIn wsX2_addBarToStill (wsX4_pull) := ggX2_addBarToStill_X4_pull
theorem dX2_addBarToStill_0 : decode cX2_addBarToStill 0 = .ok (.aload_n 0, 1) := by decide +kernel
theorem dX2_addBarToStill_1 : decode cX2_addBarToStill 1 = .ok (.getfield 22, 3) := by decide +kernel
theorem dX2_addBarToStill_4 : decode cX2_addBarToStill 4 = .ok (.iload_n 1, 1) := by decide +kernel
theorem dX2_addBarToStill_5 : decode cX2_addBarToStill 5 = .ok (.iaload, 1) := by decide +kernel
theorem dX2_addBarToStill_6 : decode cX2_addBarToStill 6 = .ok (.invokestatic 56, 3) := by decide +kernel
theorem dX2_addBarToStill_9 : decode cX2_addBarToStill 9 = .ok (.istore_n 2, 1) := by decide +kernel
theorem dX2_addBarToStill_10 : decode cX2_addBarToStill 10 = .ok (.aload_n 0, 1) := by decide +kernel
theorem dX2_addBarToStill_11 : decode cX2_addBarToStill 11 = .ok (.getfield 22, 3) := by decide +kernel
theorem dX2_addBarToStill_14 : decode cX2_addBarToStill 14 = .ok (.iload_n 1, 1) := by decide +kernel
theorem dX2_addBarToStill_15 : decode cX2_addBarToStill 15 = .ok (.iaload, 1) := by decide +kernel
theorem dX2_addBarToStill_16 : decode cX2_addBarToStill 16 = .ok (.invokestatic 60, 3) := by decide +kernel
theorem dX2_addBarToStill_19 : decode cX2_addBarToStill 19 = .ok (.istore_n 3, 1) := by decide +kernel
theorem dX2_addBarToStill_20 : decode cX2_addBarToStill 20 = .ok (.iconst 0, 1) := by decide +kernel
theorem dX2_addBarToStill_21 : decode cX2_addBarToStill 21 = .ok (.istore 4, 2) := by decide +kernel
theorem dX2_addBarToStill_23 : decode cX2_addBarToStill 23 = .ok (.iload 4, 2) := by decide +kernel
theorem dX2_addBarToStill_25 : decode cX2_addBarToStill 25 = .ok (.bipush 36, 2) := by decide +kernel
theorem dX2_addBarToStill_27 : decode cX2_addBarToStill 27 = .ok (.if_icmp .ge 57, 3) := by decide +kernel
theorem dX2_addBarToStill_30 : decode cX2_addBarToStill 30 = .ok (.iload_n 1, 1) := by decide +kernel
theorem dX2_addBarToStill_31 : decode cX2_addBarToStill 31 = .ok (.aload_n 0, 1) := by decide +kernel
theorem dX2_addBarToStill_32 : decode cX2_addBarToStill 32 = .ok (.getfield 22, 3) := by decide +kernel
theorem dX2_addBarToStill_35 : decode cX2_addBarToStill 35 = .ok (.iload_n 1, 1) := by decide +kernel
theorem dX2_addBarToStill_36 : decode cX2_addBarToStill 36 = .ok (.iaload, 1) := by decide +kernel
theorem dX2_addBarToStill_37 : decode cX2_addBarToStill 37 = .ok (.aload_n 0, 1) := by decide +kernel
theorem dX2_addBarToStill_38 : decode cX2_addBarToStill 38 = .ok (.getfield 25, 3) := by decide +kernel
theorem dX2_addBarToStill_41 : decode cX2_addBarToStill 41 = .ok (.iload_n 1, 1) := by decide +kernel
theorem dX2_addBarToStill_42 : decode cX2_addBarToStill 42 = .ok (.iaload, 1) := by decide +kernel
theorem dX2_addBarToStill_43 : decode cX2_addBarToStill 43 = .ok (.iload 4, 2) := by decide +kernel
theorem dX2_addBarToStill_45 : decode cX2_addBarToStill 45 = .ok (.invokestatic 74, 3) := by decide +kernel
theorem dX2_addBarToStill_48 : decode cX2_addBarToStill 48 = .ok (.istore 5, 2) := by decide +kernel
theorem dX2_addBarToStill_50 : decode cX2_addBarToStill 50 = .ok (.aload_n 0, 1) := by decide +kernel
theorem dX2_addBarToStill_51 : decode cX2_addBarToStill 51 = .ok (.getfield 31, 3) := by decide +kernel
theorem dX2_addBarToStill_54 : decode cX2_addBarToStill 54 = .ok (.iload 4, 2) := by decide +kernel
theorem dX2_addBarToStill_56 : decode cX2_addBarToStill 56 = .ok (.dup2, 1) := by decide +kernel
theorem dX2_addBarToStill_57 : decode cX2_addBarToStill 57 = .ok (.iaload, 1) := by decide +kernel
theorem dX2_addBarToStill_58 : decode cX2_addBarToStill 58 = .ok (.iload 5, 2) := by decide +kernel
theorem dX2_addBarToStill_60 : decode cX2_addBarToStill 60 = .ok (.iload_n 2, 1) := by decide +kernel
theorem dX2_addBarToStill_61 : decode cX2_addBarToStill 61 = .ok (.imul, 1) := by decide +kernel
theorem dX2_addBarToStill_62 : decode cX2_addBarToStill 62 = .ok (.iadd, 1) := by decide +kernel
theorem dX2_addBarToStill_63 : decode cX2_addBarToStill 63 = .ok (.iastore, 1) := by decide +kernel
theorem dX2_addBarToStill_64 : decode cX2_addBarToStill 64 = .ok (.aload_n 0, 1) := by decide +kernel
theorem dX2_addBarToStill_65 : decode cX2_addBarToStill 65 = .ok (.getfield 34, 3) := by decide +kernel
theorem dX2_addBarToStill_68 : decode cX2_addBarToStill 68 = .ok (.iload 4, 2) := by decide +kernel
theorem dX2_addBarToStill_70 : decode cX2_addBarToStill 70 = .ok (.dup2, 1) := by decide +kernel
theorem dX2_addBarToStill_71 : decode cX2_addBarToStill 71 = .ok (.iaload, 1) := by decide +kernel
theorem dX2_addBarToStill_72 : decode cX2_addBarToStill 72 = .ok (.iload 5, 2) := by decide +kernel
theorem dX2_addBarToStill_74 : decode cX2_addBarToStill 74 = .ok (.iload_n 3, 1) := by decide +kernel
theorem dX2_addBarToStill_75 : decode cX2_addBarToStill 75 = .ok (.imul, 1) := by decide +kernel
theorem dX2_addBarToStill_76 : decode cX2_addBarToStill 76 = .ok (.iadd, 1) := by decide +kernel
theorem dX2_addBarToStill_77 : decode cX2_addBarToStill 77 = .ok (.iastore, 1) := by decide +kernel
theorem dX2_addBarToStill_78 : decode cX2_addBarToStill 78 = .ok (.iinc 4 1, 3) := by decide +kernel
theorem dX2_addBarToStill_81 : decode cX2_addBarToStill 81 = .ok (.goto (-58), 3) := by decide +kernel
theorem dX2_addBarToStill_84 : decode cX2_addBarToStill 84 = .ok (.return_, 1) := by decide +kernel
set_option maxRecDepth 20000 in
theorem ggX2_measureField_X2_addNeedleToNeighbours : GoodIn wsX2_measureField wsX2_addNeedleToNeighbours := goodIn_r _ [9, 10, 11, 12, 13, 14, 15, 16, 17, 18, 19, 20, 21, 8, 22, 1, 3, 23, 24, 25, 26, 27, 28, 29, 30, 31, 32, 33, 34, 35] (by decide +kernel) (by decide +kernel)
set_option maxRecDepth 20000 in
theorem gX2_measureField_X2_addNeedleToNeighbours : GoodIn wsX2_measureField (wsV RX2 78 RX2 yX2_addNeedleToNeighbours wsX2_addNeedleToNeighbours) := goodIn_app (goodIn_of _ (by decide +kernel)) ggX2_measureField_X2_addNeedleToNeighbours
theorem dX2_measureField_0 : decode cX2_measureField 0 = .ok (.iconst 0, 1) := by decide +kernel
theorem dX2_measureField_1 : decode cX2_measureField 1 = .ok (.istore_n 1, 1) := by decide +kernel
theorem dX2_measureField_2 : decode cX2_measureField 2 = .ok (.iload_n 1, 1) := by decide +kernel
theorem dX2_measureField_3 : decode cX2_measureField 3 = .ok (.bipush 36, 2) := by decide +kernel
theorem dX2_measureField_5 : decode cX2_measureField 5 = .ok (.if_icmp .ge 33, 3) := by decide +kernel
theorem dX2_measureField_8 : decode cX2_measureField 8 = .ok (.aload_n 0, 1) := by decide +kernel
theorem dX2_measureField_9 : decode cX2_measureField 9 = .ok (.getfield 37, 3) := by decide +kernel
theorem dX2_measureField_12 : decode cX2_measureField 12 = .ok (.iload_n 1, 1) := by decide +kernel
theorem dX2_measureField_13 : decode cX2_measureField 13 = .ok (.aload_n 0, 1) := by decide +kernel
theorem dX2_measureField_14 : decode cX2_measureField 14 = .ok (.getfield 31, 3) := by decide +kernel
theorem dX2_measureField_17 : decode cX2_measureField 17 = .ok (.iload_n 1, 1) := by decide +kernel
theorem dX2_measureField_18 : decode cX2_measureField 18 = .ok (.iaload, 1) := by decide +kernel
theorem dX2_measureField_19 : decode cX2_measureField 19 = .ok (.iastore, 1) := by decide +kernel
theorem dX2_measureField_20 : decode cX2_measureField 20 = .ok (.aload_n 0, 1) := by decide +kernel
theorem dX2_measureField_21 : decode cX2_measureField 21 = .ok (.getfield 40, 3) := by decide +kernel
theorem dX2_measureField_24 : decode cX2_measureField 24 = .ok (.iload_n 1, 1) := by decide +kernel
theorem dX2_measureField_25 : decode cX2_measureField 25 = .ok (.aload_n 0, 1) := by decide +kernel
theorem dX2_measureField_26 : decode cX2_measureField 26 = .ok (.getfield 34, 3) := by decide +kernel
theorem dX2_measureField_29 : decode cX2_measureField 29 = .ok (.iload_n 1, 1) := by decide +kernel
theorem dX2_measureField_30 : decode cX2_measureField 30 = .ok (.iaload, 1) := by decide +kernel
theorem dX2_measureField_31 : decode cX2_measureField 31 = .ok (.iastore, 1) := by decide +kernel
theorem dX2_measureField_32 : decode cX2_measureField 32 = .ok (.iinc 1 1, 3) := by decide +kernel
theorem dX2_measureField_35 : decode cX2_measureField 35 = .ok (.goto (-33), 3) := by decide +kernel
theorem dX2_measureField_38 : decode cX2_measureField 38 = .ok (.iconst 0, 1) := by decide +kernel
theorem dX2_measureField_39 : decode cX2_measureField 39 = .ok (.istore_n 1, 1) := by decide +kernel
theorem dX2_measureField_40 : decode cX2_measureField 40 = .ok (.iload_n 1, 1) := by decide +kernel
theorem dX2_measureField_41 : decode cX2_measureField 41 = .ok (.bipush 36, 2) := by decide +kernel
theorem dX2_measureField_43 : decode cX2_measureField 43 = .ok (.if_icmp .ge 14, 3) := by decide +kernel
theorem dX2_measureField_46 : decode cX2_measureField 46 = .ok (.aload_n 0, 1) := by decide +kernel
theorem dX2_measureField_47 : decode cX2_measureField 47 = .ok (.iload_n 1, 1) := by decide +kernel
theorem dX2_measureField_48 : decode cX2_measureField 48 = .ok (.invokevirtual 78, 3) := by decide +kernel
theorem dX2_measureField_51 : decode cX2_measureField 51 = .ok (.iinc 1 1, 3) := by decide +kernel
theorem dX2_measureField_54 : decode cX2_measureField 54 = .ok (.goto (-14), 3) := by decide +kernel
theorem dX2_measureField_57 : decode cX2_measureField 57 = .ok (.return_, 1) := by decide +kernel
set_option maxRecDepth 20000 in
theorem ggX2_addNeedleToNeighbours_X4_across : GoodIn wsX2_addNeedleToNeighbours wsX4_across := goodIn_r _ [5, 6] (by decide +kernel) (by decide +kernel)
set_option maxRecDepth 20000 in
theorem gX2_addNeedleToNeighbours_X4_across_n56 : GoodIn wsX2_addNeedleToNeighbours (wsX4_across) := ggX2_addNeedleToNeighbours_X4_across
set_option maxRecDepth 20000 in
theorem ggX2_addNeedleToNeighbours_X4_down : GoodIn wsX2_addNeedleToNeighbours wsX4_down := goodIn_r _ [8, 9] (by decide +kernel) (by decide +kernel)
set_option maxRecDepth 20000 in
theorem gX2_addNeedleToNeighbours_X4_down_n60 : GoodIn wsX2_addNeedleToNeighbours (wsX4_down) := ggX2_addNeedleToNeighbours_X4_down
set_option maxRecDepth 20000 in
theorem ggX2_addNeedleToNeighbours_X2_addToField : GoodIn wsX2_addNeedleToNeighbours wsX2_addToField := goodIn_r _ [14, 15, 16, 17, 18, 19, 20, 21, 22, 23, 24, 25, 26, 27, 28, 29] (by decide +kernel) (by decide +kernel)
set_option maxRecDepth 20000 in
theorem gX2_addNeedleToNeighbours_X2_addToField : GoodIn wsX2_addNeedleToNeighbours (wsV RX2 81 RX2 yX2_addToField wsX2_addToField) := goodIn_app (goodIn_of _ (by decide +kernel)) ggX2_addNeedleToNeighbours_X2_addToField
theorem dX2_addNeedleToNeighbours_0 : decode cX2_addNeedleToNeighbours 0 = .ok (.iload_n 1, 1) := by decide +kernel
theorem dX2_addNeedleToNeighbours_1 : decode cX2_addNeedleToNeighbours 1 = .ok (.bipush 6, 2) := by decide +kernel
theorem dX2_addNeedleToNeighbours_3 : decode cX2_addNeedleToNeighbours 3 = .ok (.irem, 1) := by decide +kernel
theorem dX2_addNeedleToNeighbours_4 : decode cX2_addNeedleToNeighbours 4 = .ok (.istore_n 2, 1) := by decide +kernel
theorem dX2_addNeedleToNeighbours_5 : decode cX2_addNeedleToNeighbours 5 = .ok (.aload_n 0, 1) := by decide +kernel
theorem dX2_addNeedleToNeighbours_6 : decode cX2_addNeedleToNeighbours 6 = .ok (.getfield 28, 3) := by decide +kernel
theorem dX2_addNeedleToNeighbours_9 : decode cX2_addNeedleToNeighbours 9 = .ok (.iconst 2, 1) := by decide +kernel
theorem dX2_addNeedleToNeighbours_10 : decode cX2_addNeedleToNeighbours 10 = .ok (.iaload, 1) := by decide +kernel
theorem dX2_addNeedleToNeighbours_11 : decode cX2_addNeedleToNeighbours 11 = .ok (.aload_n 0, 1) := by decide +kernel
theorem dX2_addNeedleToNeighbours_12 : decode cX2_addNeedleToNeighbours 12 = .ok (.getfield 9, 3) := by decide +kernel
theorem dX2_addNeedleToNeighbours_15 : decode cX2_addNeedleToNeighbours 15 = .ok (.iload_n 1, 1) := by decide +kernel
theorem dX2_addNeedleToNeighbours_16 : decode cX2_addNeedleToNeighbours 16 = .ok (.iaload, 1) := by decide +kernel
theorem dX2_addNeedleToNeighbours_17 : decode cX2_addNeedleToNeighbours 17 = .ok (.invokestatic 56, 3) := by decide +kernel
theorem dX2_addNeedleToNeighbours_20 : decode cX2_addNeedleToNeighbours 20 = .ok (.imul, 1) := by decide +kernel
theorem dX2_addNeedleToNeighbours_21 : decode cX2_addNeedleToNeighbours 21 = .ok (.istore_n 3, 1) := by decide +kernel
theorem dX2_addNeedleToNeighbours_22 : decode cX2_addNeedleToNeighbours 22 = .ok (.aload_n 0, 1) := by decide +kernel
theorem dX2_addNeedleToNeighbours_23 : decode cX2_addNeedleToNeighbours 23 = .ok (.getfield 28, 3) := by decide +kernel
theorem dX2_addNeedleToNeighbours_26 : decode cX2_addNeedleToNeighbours 26 = .ok (.iconst 2, 1) := by decide +kernel
theorem dX2_addNeedleToNeighbours_27 : decode cX2_addNeedleToNeighbours 27 = .ok (.iaload, 1) := by decide +kernel
theorem dX2_addNeedleToNeighbours_28 : decode cX2_addNeedleToNeighbours 28 = .ok (.aload_n 0, 1) := by decide +kernel
theorem dX2_addNeedleToNeighbours_29 : decode cX2_addNeedleToNeighbours 29 = .ok (.getfield 9, 3) := by decide +kernel
theorem dX2_addNeedleToNeighbours_32 : decode cX2_addNeedleToNeighbours 32 = .ok (.iload_n 1, 1) := by decide +kernel
theorem dX2_addNeedleToNeighbours_33 : decode cX2_addNeedleToNeighbours 33 = .ok (.iaload, 1) := by decide +kernel
theorem dX2_addNeedleToNeighbours_34 : decode cX2_addNeedleToNeighbours 34 = .ok (.invokestatic 60, 3) := by decide +kernel
theorem dX2_addNeedleToNeighbours_37 : decode cX2_addNeedleToNeighbours 37 = .ok (.imul, 1) := by decide +kernel
theorem dX2_addNeedleToNeighbours_38 : decode cX2_addNeedleToNeighbours 38 = .ok (.istore 4, 2) := by decide +kernel
theorem dX2_addNeedleToNeighbours_40 : decode cX2_addNeedleToNeighbours 40 = .ok (.iload_n 1, 1) := by decide +kernel
theorem dX2_addNeedleToNeighbours_41 : decode cX2_addNeedleToNeighbours 41 = .ok (.bipush 6, 2) := by decide +kernel
theorem dX2_addNeedleToNeighbours_43 : decode cX2_addNeedleToNeighbours 43 = .ok (.if_icmp .lt 14, 3) := by decide +kernel
theorem dX2_addNeedleToNeighbours_46 : decode cX2_addNeedleToNeighbours 46 = .ok (.aload_n 0, 1) := by decide +kernel
theorem dX2_addNeedleToNeighbours_47 : decode cX2_addNeedleToNeighbours 47 = .ok (.iload_n 1, 1) := by decide +kernel
theorem dX2_addNeedleToNeighbours_48 : decode cX2_addNeedleToNeighbours 48 = .ok (.bipush 6, 2) := by decide +kernel
theorem dX2_addNeedleToNeighbours_50 : decode cX2_addNeedleToNeighbours 50 = .ok (.isub, 1) := by decide +kernel
theorem dX2_addNeedleToNeighbours_51 : decode cX2_addNeedleToNeighbours 51 = .ok (.iload_n 3, 1) := by decide +kernel
theorem dX2_addNeedleToNeighbours_52 : decode cX2_addNeedleToNeighbours 52 = .ok (.iload 4, 2) := by decide +kernel
theorem dX2_addNeedleToNeighbours_54 : decode cX2_addNeedleToNeighbours 54 = .ok (.invokevirtual 81, 3) := by decide +kernel
theorem dX2_addNeedleToNeighbours_57 : decode cX2_addNeedleToNeighbours 57 = .ok (.iload_n 1, 1) := by decide +kernel
theorem dX2_addNeedleToNeighbours_58 : decode cX2_addNeedleToNeighbours 58 = .ok (.bipush 30, 2) := by decide +kernel
theorem dX2_addNeedleToNeighbours_60 : decode cX2_addNeedleToNeighbours 60 = .ok (.if_icmp .ge 14, 3) := by decide +kernel
theorem dX2_addNeedleToNeighbours_63 : decode cX2_addNeedleToNeighbours 63 = .ok (.aload_n 0, 1) := by decide +kernel
theorem dX2_addNeedleToNeighbours_64 : decode cX2_addNeedleToNeighbours 64 = .ok (.iload_n 1, 1) := by decide +kernel
theorem dX2_addNeedleToNeighbours_65 : decode cX2_addNeedleToNeighbours 65 = .ok (.bipush 6, 2) := by decide +kernel
theorem dX2_addNeedleToNeighbours_67 : decode cX2_addNeedleToNeighbours 67 = .ok (.iadd, 1) := by decide +kernel
theorem dX2_addNeedleToNeighbours_68 : decode cX2_addNeedleToNeighbours 68 = .ok (.iload_n 3, 1) := by decide +kernel
theorem dX2_addNeedleToNeighbours_69 : decode cX2_addNeedleToNeighbours 69 = .ok (.iload 4, 2) := by decide +kernel
theorem dX2_addNeedleToNeighbours_71 : decode cX2_addNeedleToNeighbours 71 = .ok (.invokevirtual 81, 3) := by decide +kernel
theorem dX2_addNeedleToNeighbours_74 : decode cX2_addNeedleToNeighbours 74 = .ok (.iload_n 2, 1) := by decide +kernel
theorem dX2_addNeedleToNeighbours_75 : decode cX2_addNeedleToNeighbours 75 = .ok (.ifCond .le 13, 3) := by decide +kernel
theorem dX2_addNeedleToNeighbours_78 : decode cX2_addNeedleToNeighbours 78 = .ok (.aload_n 0, 1) := by decide +kernel
theorem dX2_addNeedleToNeighbours_79 : decode cX2_addNeedleToNeighbours 79 = .ok (.iload_n 1, 1) := by decide +kernel
theorem dX2_addNeedleToNeighbours_80 : decode cX2_addNeedleToNeighbours 80 = .ok (.iconst 1, 1) := by decide +kernel
theorem dX2_addNeedleToNeighbours_81 : decode cX2_addNeedleToNeighbours 81 = .ok (.isub, 1) := by decide +kernel
theorem dX2_addNeedleToNeighbours_82 : decode cX2_addNeedleToNeighbours 82 = .ok (.iload_n 3, 1) := by decide +kernel
theorem dX2_addNeedleToNeighbours_83 : decode cX2_addNeedleToNeighbours 83 = .ok (.iload 4, 2) := by decide +kernel
theorem dX2_addNeedleToNeighbours_85 : decode cX2_addNeedleToNeighbours 85 = .ok (.invokevirtual 81, 3) := by decide +kernel
theorem dX2_addNeedleToNeighbours_88 : decode cX2_addNeedleToNeighbours 88 = .ok (.iload_n 2, 1) := by decide +kernel
theorem dX2_addNeedleToNeighbours_89 : decode cX2_addNeedleToNeighbours 89 = .ok (.iconst 5, 1) := by decide +kernel
theorem dX2_addNeedleToNeighbours_90 : decode cX2_addNeedleToNeighbours 90 = .ok (.if_icmp .ge 13, 3) := by decide +kernel
theorem dX2_addNeedleToNeighbours_93 : decode cX2_addNeedleToNeighbours 93 = .ok (.aload_n 0, 1) := by decide +kernel
theorem dX2_addNeedleToNeighbours_94 : decode cX2_addNeedleToNeighbours 94 = .ok (.iload_n 1, 1) := by decide +kernel
theorem dX2_addNeedleToNeighbours_95 : decode cX2_addNeedleToNeighbours 95 = .ok (.iconst 1, 1) := by decide +kernel
theorem dX2_addNeedleToNeighbours_96 : decode cX2_addNeedleToNeighbours 96 = .ok (.iadd, 1) := by decide +kernel
theorem dX2_addNeedleToNeighbours_97 : decode cX2_addNeedleToNeighbours 97 = .ok (.iload_n 3, 1) := by decide +kernel
theorem dX2_addNeedleToNeighbours_98 : decode cX2_addNeedleToNeighbours 98 = .ok (.iload 4, 2) := by decide +kernel
theorem dX2_addNeedleToNeighbours_100 : decode cX2_addNeedleToNeighbours 100 = .ok (.invokevirtual 81, 3) := by decide +kernel
theorem dX2_addNeedleToNeighbours_103 : decode cX2_addNeedleToNeighbours 103 = .ok (.return_, 1) := by decide +kernel
theorem dX2_addToField_0 : decode cX2_addToField 0 = .ok (.aload_n 0, 1) := by decide +kernel
theorem dX2_addToField_1 : decode cX2_addToField 1 = .ok (.getfield 37, 3) := by decide +kernel
end
section
theorem dX2_addToField_4 : decode cX2_addToField 4 = .ok (.iload_n 1, 1) := by decide +kernel
theorem dX2_addToField_5 : decode cX2_addToField 5 = .ok (.dup2, 1) := by decide +kernel
theorem dX2_addToField_6 : decode cX2_addToField 6 = .ok (.iaload, 1) := by decide +kernel
theorem dX2_addToField_7 : decode cX2_addToField 7 = .ok (.iload_n 2, 1) := by decide +kernel
theorem dX2_addToField_8 : decode cX2_addToField 8 = .ok (.iadd, 1) := by decide +kernel
theorem dX2_addToField_9 : decode cX2_addToField 9 = .ok (.iastore, 1) := by decide +kernel
theorem dX2_addToField_10 : decode cX2_addToField 10 = .ok (.aload_n 0, 1) := by decide +kernel
theorem dX2_addToField_11 : decode cX2_addToField 11 = .ok (.getfield 40, 3) := by decide +kernel
theorem dX2_addToField_14 : decode cX2_addToField 14 = .ok (.iload_n 1, 1) := by decide +kernel
theorem dX2_addToField_15 : decode cX2_addToField 15 = .ok (.dup2, 1) := by decide +kernel
theorem dX2_addToField_16 : decode cX2_addToField 16 = .ok (.iaload, 1) := by decide +kernel
theorem dX2_addToField_17 : decode cX2_addToField 17 = .ok (.iload_n 3, 1) := by decide +kernel
theorem dX2_addToField_18 : decode cX2_addToField 18 = .ok (.iadd, 1) := by decide +kernel
theorem dX2_addToField_19 : decode cX2_addToField 19 = .ok (.iastore, 1) := by decide +kernel
theorem dX2_addToField_20 : decode cX2_addToField 20 = .ok (.return_, 1) := by decide +kernel
set_option maxRecDepth 20000 in
theorem ggX2_aim_X4_aimOf : GoodIn wsX2_aim wsX4_aimOf := goodIn_r _ [5] (by decide +kernel) (by decide +kernel)
set_option maxRecDepth 20000 in
theorem gX2_aim_X4_aimOf_n85 : GoodIn wsX2_aim (wsX4_aimOf) := ggX2_aim_X4_aimOf
theorem dX2_aim_0 : decode cX2_aim 0 = .ok (.aload_n 0, 1) := by decide +kernel
theorem dX2_aim_1 : decode cX2_aim 1 = .ok (.getfield 37, 3) := by decide +kernel
theorem dX2_aim_4 : decode cX2_aim 4 = .ok (.iload_n 1, 1) := by decide +kernel
theorem dX2_aim_5 : decode cX2_aim 5 = .ok (.iaload, 1) := by decide +kernel
theorem dX2_aim_6 : decode cX2_aim 6 = .ok (.aload_n 0, 1) := by decide +kernel
theorem dX2_aim_7 : decode cX2_aim 7 = .ok (.getfield 40, 3) := by decide +kernel
theorem dX2_aim_10 : decode cX2_aim 10 = .ok (.iload_n 1, 1) := by decide +kernel
theorem dX2_aim_11 : decode cX2_aim 11 = .ok (.iaload, 1) := by decide +kernel
theorem dX2_aim_12 : decode cX2_aim 12 = .ok (.invokestatic 85, 3) := by decide +kernel
theorem dX2_aim_15 : decode cX2_aim 15 = .ok (.ireturn, 1) := by decide +kernel
set_option maxRecDepth 20000 in
theorem ggX2_aimIfBar_X4_pull : GoodIn wsX2_aimIfBar wsX4_pull := goodIn_r _ [7, 8, 9, 6, 10, 11, 12, 13, 14, 15] (by decide +kernel) (by decide +kernel)
set_option maxRecDepth 20000 in
theorem gX2_aimIfBar_X4_pull_n74 : GoodIn wsX2_aimIfBar (wsX4_pull) := ggX2_aimIfBar_X4_pull
set_option maxRecDepth 20000 in
theorem ggX2_aimIfBar_X4_across : GoodIn wsX2_aimIfBar wsX4_across := goodIn_r _ [10, 11] (by decide +kernel) (by decide +kernel)
set_option maxRecDepth 20000 in
theorem gX2_aimIfBar_X4_across_n56 : GoodIn wsX2_aimIfBar (wsX4_across) := ggX2_aimIfBar_X4_across
set_option maxRecDepth 20000 in
theorem ggX2_aimIfBar_X4_down : GoodIn wsX2_aimIfBar wsX4_down := goodIn_r _ [14, 15] (by decide +kernel) (by decide +kernel)
set_option maxRecDepth 20000 in
theorem gX2_aimIfBar_X4_down_n60 : GoodIn wsX2_aimIfBar (wsX4_down) := ggX2_aimIfBar_X4_down
set_option maxRecDepth 20000 in
theorem ggX2_aimIfBar_X4_aimOf : GoodIn wsX2_aimIfBar wsX4_aimOf := goodIn_r _ [17] (by decide +kernel) (by decide +kernel)
set_option maxRecDepth 20000 in
theorem gX2_aimIfBar_X4_aimOf_n85 : GoodIn wsX2_aimIfBar (wsX4_aimOf) := ggX2_aimIfBar_X4_aimOf
theorem dX2_aimIfBar_0 : decode cX2_aimIfBar 0 = .ok (.aload_n 0, 1) := by decide +kernel
theorem dX2_aimIfBar_1 : decode cX2_aimIfBar 1 = .ok (.getfield 22, 3) := by decide +kernel
theorem dX2_aimIfBar_4 : decode cX2_aimIfBar 4 = .ok (.iload_n 2, 1) := by decide +kernel
theorem dX2_aimIfBar_5 : decode cX2_aimIfBar 5 = .ok (.iaload, 1) := by decide +kernel
theorem dX2_aimIfBar_6 : decode cX2_aimIfBar 6 = .ok (.istore 5, 2) := by decide +kernel
theorem dX2_aimIfBar_8 : decode cX2_aimIfBar 8 = .ok (.iload_n 2, 1) := by decide +kernel
theorem dX2_aimIfBar_9 : decode cX2_aimIfBar 9 = .ok (.iload 5, 2) := by decide +kernel
theorem dX2_aimIfBar_11 : decode cX2_aimIfBar 11 = .ok (.aload_n 0, 1) := by decide +kernel
theorem dX2_aimIfBar_12 : decode cX2_aimIfBar 12 = .ok (.getfield 25, 3) := by decide +kernel
theorem dX2_aimIfBar_15 : decode cX2_aimIfBar 15 = .ok (.iload_n 2, 1) := by decide +kernel
theorem dX2_aimIfBar_16 : decode cX2_aimIfBar 16 = .ok (.iaload, 1) := by decide +kernel
theorem dX2_aimIfBar_17 : decode cX2_aimIfBar 17 = .ok (.iload_n 1, 1) := by decide +kernel
theorem dX2_aimIfBar_18 : decode cX2_aimIfBar 18 = .ok (.invokestatic 74, 3) := by decide +kernel
theorem dX2_aimIfBar_21 : decode cX2_aimIfBar 21 = .ok (.istore 6, 2) := by decide +kernel
theorem dX2_aimIfBar_23 : decode cX2_aimIfBar 23 = .ok (.iload_n 2, 1) := by decide +kernel
theorem dX2_aimIfBar_24 : decode cX2_aimIfBar 24 = .ok (.iload_n 3, 1) := by decide +kernel
theorem dX2_aimIfBar_25 : decode cX2_aimIfBar 25 = .ok (.iload 4, 2) := by decide +kernel
theorem dX2_aimIfBar_27 : decode cX2_aimIfBar 27 = .ok (.iload_n 1, 1) := by decide +kernel
theorem dX2_aimIfBar_28 : decode cX2_aimIfBar 28 = .ok (.invokestatic 74, 3) := by decide +kernel
theorem dX2_aimIfBar_31 : decode cX2_aimIfBar 31 = .ok (.istore 7, 2) := by decide +kernel
theorem dX2_aimIfBar_33 : decode cX2_aimIfBar 33 = .ok (.aload_n 0, 1) := by decide +kernel
theorem dX2_aimIfBar_34 : decode cX2_aimIfBar 34 = .ok (.getfield 37, 3) := by decide +kernel
theorem dX2_aimIfBar_37 : decode cX2_aimIfBar 37 = .ok (.iload_n 1, 1) := by decide +kernel
theorem dX2_aimIfBar_38 : decode cX2_aimIfBar 38 = .ok (.iaload, 1) := by decide +kernel
theorem dX2_aimIfBar_39 : decode cX2_aimIfBar 39 = .ok (.iload 6, 2) := by decide +kernel
theorem dX2_aimIfBar_41 : decode cX2_aimIfBar 41 = .ok (.iload 5, 2) := by decide +kernel
theorem dX2_aimIfBar_43 : decode cX2_aimIfBar 43 = .ok (.invokestatic 56, 3) := by decide +kernel
theorem dX2_aimIfBar_46 : decode cX2_aimIfBar 46 = .ok (.imul, 1) := by decide +kernel
theorem dX2_aimIfBar_47 : decode cX2_aimIfBar 47 = .ok (.isub, 1) := by decide +kernel
theorem dX2_aimIfBar_48 : decode cX2_aimIfBar 48 = .ok (.iload 7, 2) := by decide +kernel
theorem dX2_aimIfBar_50 : decode cX2_aimIfBar 50 = .ok (.iload_n 3, 1) := by decide +kernel
theorem dX2_aimIfBar_51 : decode cX2_aimIfBar 51 = .ok (.invokestatic 56, 3) := by decide +kernel
theorem dX2_aimIfBar_54 : decode cX2_aimIfBar 54 = .ok (.imul, 1) := by decide +kernel
theorem dX2_aimIfBar_55 : decode cX2_aimIfBar 55 = .ok (.iadd, 1) := by decide +kernel
theorem dX2_aimIfBar_56 : decode cX2_aimIfBar 56 = .ok (.istore 8, 2) := by decide +kernel
theorem dX2_aimIfBar_58 : decode cX2_aimIfBar 58 = .ok (.aload_n 0, 1) := by decide +kernel
theorem dX2_aimIfBar_59 : decode cX2_aimIfBar 59 = .ok (.getfield 40, 3) := by decide +kernel
theorem dX2_aimIfBar_62 : decode cX2_aimIfBar 62 = .ok (.iload_n 1, 1) := by decide +kernel
theorem dX2_aimIfBar_63 : decode cX2_aimIfBar 63 = .ok (.iaload, 1) := by decide +kernel
theorem dX2_aimIfBar_64 : decode cX2_aimIfBar 64 = .ok (.iload 6, 2) := by decide +kernel
theorem dX2_aimIfBar_66 : decode cX2_aimIfBar 66 = .ok (.iload 5, 2) := by decide +kernel
theorem dX2_aimIfBar_68 : decode cX2_aimIfBar 68 = .ok (.invokestatic 60, 3) := by decide +kernel
theorem dX2_aimIfBar_71 : decode cX2_aimIfBar 71 = .ok (.imul, 1) := by decide +kernel
theorem dX2_aimIfBar_72 : decode cX2_aimIfBar 72 = .ok (.isub, 1) := by decide +kernel
theorem dX2_aimIfBar_73 : decode cX2_aimIfBar 73 = .ok (.iload 7, 2) := by decide +kernel
theorem dX2_aimIfBar_75 : decode cX2_aimIfBar 75 = .ok (.iload_n 3, 1) := by decide +kernel
theorem dX2_aimIfBar_76 : decode cX2_aimIfBar 76 = .ok (.invokestatic 60, 3) := by decide +kernel
theorem dX2_aimIfBar_79 : decode cX2_aimIfBar 79 = .ok (.imul, 1) := by decide +kernel
theorem dX2_aimIfBar_80 : decode cX2_aimIfBar 80 = .ok (.iadd, 1) := by decide +kernel
theorem dX2_aimIfBar_81 : decode cX2_aimIfBar 81 = .ok (.istore 9, 2) := by decide +kernel
theorem dX2_aimIfBar_83 : decode cX2_aimIfBar 83 = .ok (.iload 8, 2) := by decide +kernel
theorem dX2_aimIfBar_85 : decode cX2_aimIfBar 85 = .ok (.iload 9, 2) := by decide +kernel
theorem dX2_aimIfBar_87 : decode cX2_aimIfBar 87 = .ok (.invokestatic 85, 3) := by decide +kernel
theorem dX2_aimIfBar_90 : decode cX2_aimIfBar 90 = .ok (.ireturn, 1) := by decide +kernel
set_option maxRecDepth 20000 in
theorem ggX2_aimIfTurns_X4_across : GoodIn wsX2_aimIfTurns wsX4_across := goodIn_r _ [8, 9] (by decide +kernel) (by decide +kernel)
set_option maxRecDepth 20000 in
theorem gX2_aimIfTurns_X4_across_n56 : GoodIn wsX2_aimIfTurns (wsX4_across) := ggX2_aimIfTurns_X4_across
set_option maxRecDepth 20000 in
theorem ggX2_aimIfTurns_X4_down : GoodIn wsX2_aimIfTurns wsX4_down := goodIn_r _ [11, 12] (by decide +kernel) (by decide +kernel)
set_option maxRecDepth 20000 in
theorem gX2_aimIfTurns_X4_down_n60 : GoodIn wsX2_aimIfTurns (wsX4_down) := ggX2_aimIfTurns_X4_down
set_option maxRecDepth 20000 in
theorem ggX2_aimIfTurns_X4_aimOf : GoodIn wsX2_aimIfTurns wsX4_aimOf := goodIn_r _ [14] (by decide +kernel) (by decide +kernel)
set_option maxRecDepth 20000 in
theorem gX2_aimIfTurns_X4_aimOf_n85 : GoodIn wsX2_aimIfTurns (wsX4_aimOf) := ggX2_aimIfTurns_X4_aimOf
theorem dX2_aimIfTurns_0 : decode cX2_aimIfTurns 0 = .ok (.aload_n 0, 1) := by decide +kernel
theorem dX2_aimIfTurns_1 : decode cX2_aimIfTurns 1 = .ok (.getfield 28, 3) := by decide +kernel
theorem dX2_aimIfTurns_4 : decode cX2_aimIfTurns 4 = .ok (.iconst 1, 1) := by decide +kernel
theorem dX2_aimIfTurns_5 : decode cX2_aimIfTurns 5 = .ok (.iaload, 1) := by decide +kernel
theorem dX2_aimIfTurns_6 : decode cX2_aimIfTurns 6 = .ok (.iload_n 2, 1) := by decide +kernel
theorem dX2_aimIfTurns_7 : decode cX2_aimIfTurns 7 = .ok (.aload_n 0, 1) := by decide +kernel
theorem dX2_aimIfTurns_8 : decode cX2_aimIfTurns 8 = .ok (.getfield 46, 3) := by decide +kernel
theorem dX2_aimIfTurns_11 : decode cX2_aimIfTurns 11 = .ok (.isub, 1) := by decide +kernel
theorem dX2_aimIfTurns_12 : decode cX2_aimIfTurns 12 = .ok (.imul, 1) := by decide +kernel
theorem dX2_aimIfTurns_13 : decode cX2_aimIfTurns 13 = .ok (.istore_n 3, 1) := by decide +kernel
theorem dX2_aimIfTurns_14 : decode cX2_aimIfTurns 14 = .ok (.aload_n 0, 1) := by decide +kernel
theorem dX2_aimIfTurns_15 : decode cX2_aimIfTurns 15 = .ok (.getfield 37, 3) := by decide +kernel
theorem dX2_aimIfTurns_18 : decode cX2_aimIfTurns 18 = .ok (.iload_n 1, 1) := by decide +kernel
theorem dX2_aimIfTurns_19 : decode cX2_aimIfTurns 19 = .ok (.iaload, 1) := by decide +kernel
theorem dX2_aimIfTurns_20 : decode cX2_aimIfTurns 20 = .ok (.iload_n 3, 1) := by decide +kernel
theorem dX2_aimIfTurns_21 : decode cX2_aimIfTurns 21 = .ok (.aload_n 0, 1) := by decide +kernel
theorem dX2_aimIfTurns_22 : decode cX2_aimIfTurns 22 = .ok (.getfield 50, 3) := by decide +kernel
theorem dX2_aimIfTurns_25 : decode cX2_aimIfTurns 25 = .ok (.invokestatic 56, 3) := by decide +kernel
theorem dX2_aimIfTurns_28 : decode cX2_aimIfTurns 28 = .ok (.imul, 1) := by decide +kernel
theorem dX2_aimIfTurns_29 : decode cX2_aimIfTurns 29 = .ok (.iadd, 1) := by decide +kernel
theorem dX2_aimIfTurns_30 : decode cX2_aimIfTurns 30 = .ok (.istore 4, 2) := by decide +kernel
theorem dX2_aimIfTurns_32 : decode cX2_aimIfTurns 32 = .ok (.aload_n 0, 1) := by decide +kernel
theorem dX2_aimIfTurns_33 : decode cX2_aimIfTurns 33 = .ok (.getfield 40, 3) := by decide +kernel
theorem dX2_aimIfTurns_36 : decode cX2_aimIfTurns 36 = .ok (.iload_n 1, 1) := by decide +kernel
theorem dX2_aimIfTurns_37 : decode cX2_aimIfTurns 37 = .ok (.iaload, 1) := by decide +kernel
theorem dX2_aimIfTurns_38 : decode cX2_aimIfTurns 38 = .ok (.iload_n 3, 1) := by decide +kernel
theorem dX2_aimIfTurns_39 : decode cX2_aimIfTurns 39 = .ok (.aload_n 0, 1) := by decide +kernel
theorem dX2_aimIfTurns_40 : decode cX2_aimIfTurns 40 = .ok (.getfield 50, 3) := by decide +kernel
theorem dX2_aimIfTurns_43 : decode cX2_aimIfTurns 43 = .ok (.invokestatic 60, 3) := by decide +kernel
theorem dX2_aimIfTurns_46 : decode cX2_aimIfTurns 46 = .ok (.imul, 1) := by decide +kernel
theorem dX2_aimIfTurns_47 : decode cX2_aimIfTurns 47 = .ok (.iadd, 1) := by decide +kernel
theorem dX2_aimIfTurns_48 : decode cX2_aimIfTurns 48 = .ok (.istore 5, 2) := by decide +kernel
theorem dX2_aimIfTurns_50 : decode cX2_aimIfTurns 50 = .ok (.iload 4, 2) := by decide +kernel
theorem dX2_aimIfTurns_52 : decode cX2_aimIfTurns 52 = .ok (.iload 5, 2) := by decide +kernel
theorem dX2_aimIfTurns_54 : decode cX2_aimIfTurns 54 = .ok (.invokestatic 85, 3) := by decide +kernel
theorem dX2_aimIfTurns_57 : decode cX2_aimIfTurns 57 = .ok (.ireturn, 1) := by decide +kernel
set_option maxRecDepth 20000 in
theorem ggX2_awayFromAim_X2_aim : GoodIn wsX2_awayFromAim wsX2_aim := goodIn_r _ [6, 7, 8, 9, 10, 11, 14, 15, 16, 17, 18, 19, 20, 21, 22, 23, 24, 25, 26] (by decide +kernel) (by decide +kernel)
set_option maxRecDepth 20000 in
theorem gX2_awayFromAim_X2_aim : GoodIn wsX2_awayFromAim (wsV RX2 89 RX2 yX2_aim wsX2_aim) := goodIn_app (goodIn_of _ (by decide +kernel)) ggX2_awayFromAim_X2_aim
set_option maxRecDepth 20000 in
theorem ggX2_awayFromAim_X4_ahead : GoodIn wsX2_awayFromAim wsX4_ahead := goodIn_r _ [13] (by decide +kernel) (by decide +kernel)
set_option maxRecDepth 20000 in
theorem gX2_awayFromAim_X4_ahead_n92 : GoodIn wsX2_awayFromAim (wsX4_ahead) := ggX2_awayFromAim_X4_ahead
theorem dX2_awayFromAim_0 : decode cX2_awayFromAim 0 = .ok (.aload_n 0, 1) := by decide +kernel
theorem dX2_awayFromAim_1 : decode cX2_awayFromAim 1 = .ok (.iload_n 1, 1) := by decide +kernel
theorem dX2_awayFromAim_2 : decode cX2_awayFromAim 2 = .ok (.invokevirtual 89, 3) := by decide +kernel
theorem dX2_awayFromAim_5 : decode cX2_awayFromAim 5 = .ok (.istore_n 2, 1) := by decide +kernel
theorem dX2_awayFromAim_6 : decode cX2_awayFromAim 6 = .ok (.iload_n 2, 1) := by decide +kernel
theorem dX2_awayFromAim_7 : decode cX2_awayFromAim 7 = .ok (.iconst (-1), 1) := by decide +kernel
theorem dX2_awayFromAim_8 : decode cX2_awayFromAim 8 = .ok (.if_icmp .ne 5, 3) := by decide +kernel
theorem dX2_awayFromAim_11 : decode cX2_awayFromAim 11 = .ok (.iconst (-1), 1) := by decide +kernel
theorem dX2_awayFromAim_12 : decode cX2_awayFromAim 12 = .ok (.ireturn, 1) := by decide +kernel
theorem dX2_awayFromAim_13 : decode cX2_awayFromAim 13 = .ok (.aload_n 0, 1) := by decide +kernel
theorem dX2_awayFromAim_14 : decode cX2_awayFromAim 14 = .ok (.getfield 9, 3) := by decide +kernel
theorem dX2_awayFromAim_17 : decode cX2_awayFromAim 17 = .ok (.iload_n 1, 1) := by decide +kernel
theorem dX2_awayFromAim_18 : decode cX2_awayFromAim 18 = .ok (.iaload, 1) := by decide +kernel
theorem dX2_awayFromAim_19 : decode cX2_awayFromAim 19 = .ok (.iload_n 2, 1) := by decide +kernel
theorem dX2_awayFromAim_20 : decode cX2_awayFromAim 20 = .ok (.invokestatic 92, 3) := by decide +kernel
theorem dX2_awayFromAim_23 : decode cX2_awayFromAim 23 = .ok (.istore_n 3, 1) := by decide +kernel
theorem dX2_awayFromAim_24 : decode cX2_awayFromAim 24 = .ok (.iload_n 3, 1) := by decide +kernel
theorem dX2_awayFromAim_25 : decode cX2_awayFromAim 25 = .ok (.iconst 4, 1) := by decide +kernel
theorem dX2_awayFromAim_26 : decode cX2_awayFromAim 26 = .ok (.if_icmp .gt 7, 3) := by decide +kernel
theorem dX2_awayFromAim_29 : decode cX2_awayFromAim 29 = .ok (.iload_n 3, 1) := by decide +kernel
theorem dX2_awayFromAim_30 : decode cX2_awayFromAim 30 = .ok (.goto 7, 3) := by decide +kernel
theorem dX2_awayFromAim_33 : decode cX2_awayFromAim 33 = .ok (.bipush 8, 2) := by decide +kernel
theorem dX2_awayFromAim_35 : decode cX2_awayFromAim 35 = .ok (.iload_n 3, 1) := by decide +kernel
theorem dX2_awayFromAim_36 : decode cX2_awayFromAim 36 = .ok (.isub, 1) := by decide +kernel
theorem dX2_awayFromAim_37 : decode cX2_awayFromAim 37 = .ok (.ireturn, 1) := by decide +kernel
set_option maxRecDepth 20000 in
theorem ggX2_wouldTurn_X2_directionAfterStep : GoodIn wsX2_wouldTurn wsX2_directionAfterStep := goodIn_r _ [6, 1, 7, 8, 9, 10, 11, 12, 13, 14, 15, 16, 17, 18, 19, 20, 21, 22, 23, 24, 25, 26, 27, 28] (by decide +kernel) (by decide +kernel)
set_option maxRecDepth 20000 in
theorem gX2_wouldTurn_X2_directionAfterStep : GoodIn wsX2_wouldTurn (wsV RX2 95 RX2 yX2_directionAfterStep wsX2_directionAfterStep) := goodIn_app (goodIn_of _ (by decide +kernel)) ggX2_wouldTurn_X2_directionAfterStep
theorem dX2_wouldTurn_0 : decode cX2_wouldTurn 0 = .ok (.aload_n 0, 1) := by decide +kernel
theorem dX2_wouldTurn_1 : decode cX2_wouldTurn 1 = .ok (.iload_n 1, 1) := by decide +kernel
theorem dX2_wouldTurn_2 : decode cX2_wouldTurn 2 = .ok (.invokevirtual 95, 3) := by decide +kernel
theorem dX2_wouldTurn_5 : decode cX2_wouldTurn 5 = .ok (.aload_n 0, 1) := by decide +kernel
theorem dX2_wouldTurn_6 : decode cX2_wouldTurn 6 = .ok (.getfield 9, 3) := by decide +kernel
theorem dX2_wouldTurn_9 : decode cX2_wouldTurn 9 = .ok (.iload_n 1, 1) := by decide +kernel
theorem dX2_wouldTurn_10 : decode cX2_wouldTurn 10 = .ok (.iaload, 1) := by decide +kernel
theorem dX2_wouldTurn_11 : decode cX2_wouldTurn 11 = .ok (.if_icmp .eq 7, 3) := by decide +kernel
theorem dX2_wouldTurn_14 : decode cX2_wouldTurn 14 = .ok (.iconst 1, 1) := by decide +kernel
theorem dX2_wouldTurn_15 : decode cX2_wouldTurn 15 = .ok (.goto 4, 3) := by decide +kernel
theorem dX2_wouldTurn_18 : decode cX2_wouldTurn 18 = .ok (.iconst 0, 1) := by decide +kernel
theorem dX2_wouldTurn_19 : decode cX2_wouldTurn 19 = .ok (.ireturn, 1) := by decide +kernel
set_option maxRecDepth 20000 in
theorem ggX2_directionAfterStep_X4_aimOf : GoodIn wsX2_directionAfterStep wsX4_aimOf := goodIn_r _ [8] (by decide +kernel) (by decide +kernel)
set_option maxRecDepth 20000 in
theorem gX2_directionAfterStep_X4_aimOf_n85 : GoodIn wsX2_directionAfterStep (wsX4_aimOf) := ggX2_directionAfterStep_X4_aimOf
set_option maxRecDepth 20000 in
theorem ggX2_directionAfterStep_X4_ahead : GoodIn wsX2_directionAfterStep wsX4_ahead := goodIn_r _ [10] (by decide +kernel) (by decide +kernel)
set_option maxRecDepth 20000 in
theorem gX2_directionAfterStep_X4_ahead_n92 : GoodIn wsX2_directionAfterStep (wsX4_ahead) := ggX2_directionAfterStep_X4_ahead
theorem dX2_directionAfterStep_0 : decode cX2_directionAfterStep 0 = .ok (.aload_n 0, 1) := by decide +kernel
theorem dX2_directionAfterStep_1 : decode cX2_directionAfterStep 1 = .ok (.getfield 9, 3) := by decide +kernel
theorem dX2_directionAfterStep_4 : decode cX2_directionAfterStep 4 = .ok (.iload_n 1, 1) := by decide +kernel
theorem dX2_directionAfterStep_5 : decode cX2_directionAfterStep 5 = .ok (.iaload, 1) := by decide +kernel
theorem dX2_directionAfterStep_6 : decode cX2_directionAfterStep 6 = .ok (.istore_n 2, 1) := by decide +kernel
theorem dX2_directionAfterStep_7 : decode cX2_directionAfterStep 7 = .ok (.aload_n 0, 1) := by decide +kernel
theorem dX2_directionAfterStep_8 : decode cX2_directionAfterStep 8 = .ok (.getfield 18, 3) := by decide +kernel
theorem dX2_directionAfterStep_11 : decode cX2_directionAfterStep 11 = .ok (.iload_n 1, 1) := by decide +kernel
theorem dX2_directionAfterStep_12 : decode cX2_directionAfterStep 12 = .ok (.baload, 1) := by decide +kernel
theorem dX2_directionAfterStep_13 : decode cX2_directionAfterStep 13 = .ok (.ifCond .eq 5, 3) := by decide +kernel
theorem dX2_directionAfterStep_16 : decode cX2_directionAfterStep 16 = .ok (.iload_n 2, 1) := by decide +kernel
theorem dX2_directionAfterStep_17 : decode cX2_directionAfterStep 17 = .ok (.ireturn, 1) := by decide +kernel
theorem dX2_directionAfterStep_18 : decode cX2_directionAfterStep 18 = .ok (.aload_n 0, 1) := by decide +kernel
theorem dX2_directionAfterStep_19 : decode cX2_directionAfterStep 19 = .ok (.getfield 37, 3) := by decide +kernel
theorem dX2_directionAfterStep_22 : decode cX2_directionAfterStep 22 = .ok (.iload_n 1, 1) := by decide +kernel
theorem dX2_directionAfterStep_23 : decode cX2_directionAfterStep 23 = .ok (.iaload, 1) := by decide +kernel
theorem dX2_directionAfterStep_24 : decode cX2_directionAfterStep 24 = .ok (.istore_n 3, 1) := by decide +kernel
theorem dX2_directionAfterStep_25 : decode cX2_directionAfterStep 25 = .ok (.aload_n 0, 1) := by decide +kernel
theorem dX2_directionAfterStep_26 : decode cX2_directionAfterStep 26 = .ok (.getfield 40, 3) := by decide +kernel
theorem dX2_directionAfterStep_29 : decode cX2_directionAfterStep 29 = .ok (.iload_n 1, 1) := by decide +kernel
theorem dX2_directionAfterStep_30 : decode cX2_directionAfterStep 30 = .ok (.iaload, 1) := by decide +kernel
theorem dX2_directionAfterStep_31 : decode cX2_directionAfterStep 31 = .ok (.istore 4, 2) := by decide +kernel
theorem dX2_directionAfterStep_33 : decode cX2_directionAfterStep 33 = .ok (.iload_n 3, 1) := by decide +kernel
theorem dX2_directionAfterStep_34 : decode cX2_directionAfterStep 34 = .ok (.iload 4, 2) := by decide +kernel
theorem dX2_directionAfterStep_36 : decode cX2_directionAfterStep 36 = .ok (.invokestatic 85, 3) := by decide +kernel
theorem dX2_directionAfterStep_39 : decode cX2_directionAfterStep 39 = .ok (.istore 5, 2) := by decide +kernel
theorem dX2_directionAfterStep_41 : decode cX2_directionAfterStep 41 = .ok (.iload_n 3, 1) := by decide +kernel
theorem dX2_directionAfterStep_42 : decode cX2_directionAfterStep 42 = .ok (.ifCond .ge 8, 3) := by decide +kernel
theorem dX2_directionAfterStep_45 : decode cX2_directionAfterStep 45 = .ok (.iload_n 3, 1) := by decide +kernel
theorem dX2_directionAfterStep_46 : decode cX2_directionAfterStep 46 = .ok (.ineg, 1) := by decide +kernel
theorem dX2_directionAfterStep_47 : decode cX2_directionAfterStep 47 = .ok (.goto 4, 3) := by decide +kernel
theorem dX2_directionAfterStep_50 : decode cX2_directionAfterStep 50 = .ok (.iload_n 3, 1) := by decide +kernel
theorem dX2_directionAfterStep_51 : decode cX2_directionAfterStep 51 = .ok (.iload 4, 2) := by decide +kernel
theorem dX2_directionAfterStep_53 : decode cX2_directionAfterStep 53 = .ok (.ifCond .ge 9, 3) := by decide +kernel
theorem dX2_directionAfterStep_56 : decode cX2_directionAfterStep 56 = .ok (.iload 4, 2) := by decide +kernel
theorem dX2_directionAfterStep_58 : decode cX2_directionAfterStep 58 = .ok (.ineg, 1) := by decide +kernel
theorem dX2_directionAfterStep_59 : decode cX2_directionAfterStep 59 = .ok (.goto 5, 3) := by decide +kernel
theorem dX2_directionAfterStep_62 : decode cX2_directionAfterStep 62 = .ok (.iload 4, 2) := by decide +kernel
theorem dX2_directionAfterStep_64 : decode cX2_directionAfterStep 64 = .ok (.iadd, 1) := by decide +kernel
theorem dX2_directionAfterStep_65 : decode cX2_directionAfterStep 65 = .ok (.istore 6, 2) := by decide +kernel
theorem dX2_directionAfterStep_67 : decode cX2_directionAfterStep 67 = .ok (.iload 5, 2) := by decide +kernel
theorem dX2_directionAfterStep_69 : decode cX2_directionAfterStep 69 = .ok (.iconst (-1), 1) := by decide +kernel
theorem dX2_directionAfterStep_70 : decode cX2_directionAfterStep 70 = .ok (.if_icmp .eq 20, 3) := by decide +kernel
theorem dX2_directionAfterStep_73 : decode cX2_directionAfterStep 73 = .ok (.iload 5, 2) := by decide +kernel
theorem dX2_directionAfterStep_75 : decode cX2_directionAfterStep 75 = .ok (.iload_n 2, 1) := by decide +kernel
theorem dX2_directionAfterStep_76 : decode cX2_directionAfterStep 76 = .ok (.if_icmp .eq 14, 3) := by decide +kernel
theorem dX2_directionAfterStep_79 : decode cX2_directionAfterStep 79 = .ok (.iload 6, 2) := by decide +kernel
theorem dX2_directionAfterStep_81 : decode cX2_directionAfterStep 81 = .ok (.aload_n 0, 1) := by decide +kernel
theorem dX2_directionAfterStep_82 : decode cX2_directionAfterStep 82 = .ok (.getfield 15, 3) := by decide +kernel
theorem dX2_directionAfterStep_85 : decode cX2_directionAfterStep 85 = .ok (.iload_n 1, 1) := by decide +kernel
theorem dX2_directionAfterStep_86 : decode cX2_directionAfterStep 86 = .ok (.iaload, 1) := by decide +kernel
theorem dX2_directionAfterStep_87 : decode cX2_directionAfterStep 87 = .ok (.if_icmp .gt 5, 3) := by decide +kernel
theorem dX2_directionAfterStep_90 : decode cX2_directionAfterStep 90 = .ok (.iload_n 2, 1) := by decide +kernel
theorem dX2_directionAfterStep_91 : decode cX2_directionAfterStep 91 = .ok (.ireturn, 1) := by decide +kernel
theorem dX2_directionAfterStep_92 : decode cX2_directionAfterStep 92 = .ok (.iload_n 2, 1) := by decide +kernel
theorem dX2_directionAfterStep_93 : decode cX2_directionAfterStep 93 = .ok (.iload 5, 2) := by decide +kernel
theorem dX2_directionAfterStep_95 : decode cX2_directionAfterStep 95 = .ok (.invokestatic 92, 3) := by decide +kernel
theorem dX2_directionAfterStep_98 : decode cX2_directionAfterStep 98 = .ok (.iconst 4, 1) := by decide +kernel
theorem dX2_directionAfterStep_99 : decode cX2_directionAfterStep 99 = .ok (.if_icmp .gt 7, 3) := by decide +kernel
theorem dX2_directionAfterStep_102 : decode cX2_directionAfterStep 102 = .ok (.iconst 1, 1) := by decide +kernel
theorem dX2_directionAfterStep_103 : decode cX2_directionAfterStep 103 = .ok (.goto 4, 3) := by decide +kernel
theorem dX2_directionAfterStep_106 : decode cX2_directionAfterStep 106 = .ok (.iconst (-1), 1) := by decide +kernel
theorem dX2_directionAfterStep_107 : decode cX2_directionAfterStep 107 = .ok (.istore 7, 2) := by decide +kernel
theorem dX2_directionAfterStep_109 : decode cX2_directionAfterStep 109 = .ok (.iload_n 2, 1) := by decide +kernel
theorem dX2_directionAfterStep_110 : decode cX2_directionAfterStep 110 = .ok (.iload 7, 2) := by decide +kernel
theorem dX2_directionAfterStep_112 : decode cX2_directionAfterStep 112 = .ok (.iadd, 1) := by decide +kernel
theorem dX2_directionAfterStep_113 : decode cX2_directionAfterStep 113 = .ok (.bipush 7, 2) := by decide +kernel
theorem dX2_directionAfterStep_115 : decode cX2_directionAfterStep 115 = .ok (.iand, 1) := by decide +kernel
theorem dX2_directionAfterStep_116 : decode cX2_directionAfterStep 116 = .ok (.ireturn, 1) := by decide +kernel
set_option maxRecDepth 20000 in
theorem ggX2_letGoBy_X2_turnAll : GoodIn wsX2_letGoBy wsX2_turnAll := goodIn_r _ [6, 7, 8, 9, 10, 5, 11, 12, 13, 14, 15, 16, 17, 18, 19, 20, 21, 22, 23, 24, 25, 26, 27, 28, 29, 30, 31, 32, 33, 34, 35, 36, 37, 38, 39, 40, 41, 42, 43, 44, 45, 46, 47, 48, 49, 50, 51, 52, 53, 54] (by decide +kernel) (by decide +kernel)
set_option maxRecDepth 20000 in
theorem gX2_letGoBy_X2_turnAll : GoodIn wsX2_letGoBy (wsV RX2 98 RX2 yX2_turnAll wsX2_turnAll) := goodIn_app (goodIn_of _ (by decide +kernel)) ggX2_letGoBy_X2_turnAll
theorem dX2_letGoBy_0 : decode cX2_letGoBy 0 = .ok (.iconst 0, 1) := by decide +kernel
theorem dX2_letGoBy_1 : decode cX2_letGoBy 1 = .ok (.istore_n 2, 1) := by decide +kernel
theorem dX2_letGoBy_2 : decode cX2_letGoBy 2 = .ok (.iconst 0, 1) := by decide +kernel
theorem dX2_letGoBy_3 : decode cX2_letGoBy 3 = .ok (.istore_n 3, 1) := by decide +kernel
theorem dX2_letGoBy_4 : decode cX2_letGoBy 4 = .ok (.iload_n 3, 1) := by decide +kernel
theorem dX2_letGoBy_5 : decode cX2_letGoBy 5 = .ok (.iload_n 1, 1) := by decide +kernel
theorem dX2_letGoBy_6 : decode cX2_letGoBy 6 = .ok (.if_icmp .ge 16, 3) := by decide +kernel
theorem dX2_letGoBy_9 : decode cX2_letGoBy 9 = .ok (.iload_n 2, 1) := by decide +kernel
theorem dX2_letGoBy_10 : decode cX2_letGoBy 10 = .ok (.aload_n 0, 1) := by decide +kernel
theorem dX2_letGoBy_11 : decode cX2_letGoBy 11 = .ok (.invokevirtual 98, 3) := by decide +kernel
theorem dX2_letGoBy_14 : decode cX2_letGoBy 14 = .ok (.iadd, 1) := by decide +kernel
theorem dX2_letGoBy_15 : decode cX2_letGoBy 15 = .ok (.istore_n 2, 1) := by decide +kernel
theorem dX2_letGoBy_16 : decode cX2_letGoBy 16 = .ok (.iinc 3 1, 3) := by decide +kernel
theorem dX2_letGoBy_19 : decode cX2_letGoBy 19 = .ok (.goto (-15), 3) := by decide +kernel
theorem dX2_letGoBy_22 : decode cX2_letGoBy 22 = .ok (.aload_n 0, 1) := by decide +kernel
theorem dX2_letGoBy_23 : decode cX2_letGoBy 23 = .ok (.dup, 1) := by decide +kernel
theorem dX2_letGoBy_24 : decode cX2_letGoBy 24 = .ok (.getfield 53, 3) := by decide +kernel
theorem dX2_letGoBy_27 : decode cX2_letGoBy 27 = .ok (.iload_n 1, 1) := by decide +kernel
theorem dX2_letGoBy_28 : decode cX2_letGoBy 28 = .ok (.iadd, 1) := by decide +kernel
theorem dX2_letGoBy_29 : decode cX2_letGoBy 29 = .ok (.putfield 53, 3) := by decide +kernel
theorem dX2_letGoBy_32 : decode cX2_letGoBy 32 = .ok (.iload_n 2, 1) := by decide +kernel
theorem dX2_letGoBy_33 : decode cX2_letGoBy 33 = .ok (.ireturn, 1) := by decide +kernel
set_option maxRecDepth 20000 in
theorem ggX2_turnAll_X2_directionAfterStep : GoodIn wsX2_turnAll wsX2_directionAfterStep := goodIn_r _ [6, 1, 7, 8, 9, 10, 11, 12, 13, 14, 15, 37, 38, 39, 40, 41, 42, 43, 44, 45, 46, 47, 48, 49] (by decide +kernel) (by decide +kernel)
set_option maxRecDepth 20000 in
theorem gX2_turnAll_X2_directionAfterStep : GoodIn wsX2_turnAll (wsV RX2 95 RX2 yX2_directionAfterStep wsX2_directionAfterStep) := goodIn_app (goodIn_of _ (by decide +kernel)) ggX2_turnAll_X2_directionAfterStep
set_option maxRecDepth 20000 in
theorem ggX2_turnAll_X2_measureField : GoodIn wsX2_turnAll wsX2_measureField := goodIn_r _ [19, 8, 20, 9, 21, 22, 23, 24, 5, 25, 26, 1, 27, 12, 28, 29, 30, 31, 32, 33, 34, 35, 36, 37, 38, 39, 40, 41, 42, 43, 44, 45, 46, 47, 48, 49] (by decide +kernel) (by decide +kernel)
set_option maxRecDepth 20000 in
theorem gX2_turnAll_X2_measureField : GoodIn wsX2_turnAll (wsV RX2 71 RX2 yX2_measureField wsX2_measureField) := goodIn_app (goodIn_of _ (by decide +kernel)) ggX2_turnAll_X2_measureField
theorem dX2_turnAll_0 : decode cX2_turnAll 0 = .ok (.iconst 0, 1) := by decide +kernel
theorem dX2_turnAll_1 : decode cX2_turnAll 1 = .ok (.istore_n 1, 1) := by decide +kernel
theorem dX2_turnAll_2 : decode cX2_turnAll 2 = .ok (.iconst 0, 1) := by decide +kernel
theorem dX2_turnAll_3 : decode cX2_turnAll 3 = .ok (.istore_n 2, 1) := by decide +kernel
theorem dX2_turnAll_4 : decode cX2_turnAll 4 = .ok (.iload_n 2, 1) := by decide +kernel
theorem dX2_turnAll_5 : decode cX2_turnAll 5 = .ok (.bipush 36, 2) := by decide +kernel
theorem dX2_turnAll_7 : decode cX2_turnAll 7 = .ok (.if_icmp .ge 35, 3) := by decide +kernel
theorem dX2_turnAll_10 : decode cX2_turnAll 10 = .ok (.aload_n 0, 1) := by decide +kernel
theorem dX2_turnAll_11 : decode cX2_turnAll 11 = .ok (.iload_n 2, 1) := by decide +kernel
theorem dX2_turnAll_12 : decode cX2_turnAll 12 = .ok (.invokevirtual 95, 3) := by decide +kernel
theorem dX2_turnAll_15 : decode cX2_turnAll 15 = .ok (.istore_n 3, 1) := by decide +kernel
theorem dX2_turnAll_16 : decode cX2_turnAll 16 = .ok (.iload_n 3, 1) := by decide +kernel
theorem dX2_turnAll_17 : decode cX2_turnAll 17 = .ok (.aload_n 0, 1) := by decide +kernel
theorem dX2_turnAll_18 : decode cX2_turnAll 18 = .ok (.getfield 9, 3) := by decide +kernel
theorem dX2_turnAll_21 : decode cX2_turnAll 21 = .ok (.iload_n 2, 1) := by decide +kernel
theorem dX2_turnAll_22 : decode cX2_turnAll 22 = .ok (.iaload, 1) := by decide +kernel
theorem dX2_turnAll_23 : decode cX2_turnAll 23 = .ok (.if_icmp .eq 13, 3) := by decide +kernel
theorem dX2_turnAll_26 : decode cX2_turnAll 26 = .ok (.aload_n 0, 1) := by decide +kernel
theorem dX2_turnAll_27 : decode cX2_turnAll 27 = .ok (.getfield 9, 3) := by decide +kernel
theorem dX2_turnAll_30 : decode cX2_turnAll 30 = .ok (.iload_n 2, 1) := by decide +kernel
theorem dX2_turnAll_31 : decode cX2_turnAll 31 = .ok (.iload_n 3, 1) := by decide +kernel
theorem dX2_turnAll_32 : decode cX2_turnAll 32 = .ok (.iastore, 1) := by decide +kernel
theorem dX2_turnAll_33 : decode cX2_turnAll 33 = .ok (.iinc 1 1, 3) := by decide +kernel
theorem dX2_turnAll_36 : decode cX2_turnAll 36 = .ok (.iinc 2 1, 3) := by decide +kernel
theorem dX2_turnAll_39 : decode cX2_turnAll 39 = .ok (.goto (-35), 3) := by decide +kernel
theorem dX2_turnAll_42 : decode cX2_turnAll 42 = .ok (.aload_n 0, 1) := by decide +kernel
theorem dX2_turnAll_43 : decode cX2_turnAll 43 = .ok (.invokevirtual 71, 3) := by decide +kernel
theorem dX2_turnAll_46 : decode cX2_turnAll 46 = .ok (.iload_n 1, 1) := by decide +kernel
theorem dX2_turnAll_47 : decode cX2_turnAll 47 = .ok (.ireturn, 1) := by decide +kernel
theorem dX2_hasBar_0 : decode cX2_hasBar 0 = .ok (.aload_n 0, 1) := by decide +kernel
theorem dX2_hasBar_1 : decode cX2_hasBar 1 = .ok (.getfield 25, 3) := by decide +kernel
theorem dX2_hasBar_4 : decode cX2_hasBar 4 = .ok (.iload_n 1, 1) := by decide +kernel
theorem dX2_hasBar_5 : decode cX2_hasBar 5 = .ok (.iaload, 1) := by decide +kernel
theorem dX2_hasBar_6 : decode cX2_hasBar 6 = .ok (.ifCond .le 7, 3) := by decide +kernel
theorem dX2_hasBar_9 : decode cX2_hasBar 9 = .ok (.iconst 1, 1) := by decide +kernel
theorem dX2_hasBar_10 : decode cX2_hasBar 10 = .ok (.goto 4, 3) := by decide +kernel
theorem dX2_hasBar_13 : decode cX2_hasBar 13 = .ok (.iconst 0, 1) := by decide +kernel
theorem dX2_hasBar_14 : decode cX2_hasBar 14 = .ok (.ireturn, 1) := by decide +kernel
theorem dX2_layBar_0 : decode cX2_layBar 0 = .ok (.aload_n 0, 1) := by decide +kernel
theorem dX2_layBar_1 : decode cX2_layBar 1 = .ok (.getfield 22, 3) := by decide +kernel
theorem dX2_layBar_4 : decode cX2_layBar 4 = .ok (.iload_n 1, 1) := by decide +kernel
theorem dX2_layBar_5 : decode cX2_layBar 5 = .ok (.iload_n 2, 1) := by decide +kernel
theorem dX2_layBar_6 : decode cX2_layBar 6 = .ok (.iastore, 1) := by decide +kernel
theorem dX2_layBar_7 : decode cX2_layBar 7 = .ok (.aload_n 0, 1) := by decide +kernel
theorem dX2_layBar_8 : decode cX2_layBar 8 = .ok (.getfield 25, 3) := by decide +kernel
theorem dX2_layBar_11 : decode cX2_layBar 11 = .ok (.iload_n 1, 1) := by decide +kernel
theorem dX2_layBar_12 : decode cX2_layBar 12 = .ok (.iload_n 3, 1) := by decide +kernel
theorem dX2_layBar_13 : decode cX2_layBar 13 = .ok (.iastore, 1) := by decide +kernel
theorem dX2_layBar_14 : decode cX2_layBar 14 = .ok (.return_, 1) := by decide +kernel
set_option maxRecDepth 20000 in
theorem ggX2_takeBar_X2_layBar : GoodIn wsX2_takeBar wsX2_layBar := goodIn_r _ [5, 6, 7, 8, 9, 10, 11, 12, 13, 14, 15, 16, 17, 18, 19, 20] (by decide +kernel) (by decide +kernel)
set_option maxRecDepth 20000 in
theorem gX2_takeBar_X2_layBar : GoodIn wsX2_takeBar (wsV RX2 102 RX2 yX2_layBar wsX2_layBar) := goodIn_app (goodIn_of _ (by decide +kernel)) ggX2_takeBar_X2_layBar
theorem dX2_takeBar_0 : decode cX2_takeBar 0 = .ok (.aload_n 0, 1) := by decide +kernel
theorem dX2_takeBar_1 : decode cX2_takeBar 1 = .ok (.iload_n 1, 1) := by decide +kernel
theorem dX2_takeBar_2 : decode cX2_takeBar 2 = .ok (.iconst 0, 1) := by decide +kernel
theorem dX2_takeBar_3 : decode cX2_takeBar 3 = .ok (.iconst 0, 1) := by decide +kernel
theorem dX2_takeBar_4 : decode cX2_takeBar 4 = .ok (.invokevirtual 102, 3) := by decide +kernel
theorem dX2_takeBar_7 : decode cX2_takeBar 7 = .ok (.return_, 1) := by decide +kernel
set_option maxRecDepth 20000 in
theorem ggX2_takeAllBars_X2_takeBar : GoodIn wsX2_takeAllBars wsX2_takeBar := goodIn_r _ [5, 6, 7, 8, 4, 9, 10, 11, 12, 13, 14, 15, 16, 17, 18, 19, 20, 21, 22, 23, 24] (by decide +kernel) (by decide +kernel)
set_option maxRecDepth 20000 in
theorem gX2_takeAllBars_X2_takeBar : GoodIn wsX2_takeAllBars (wsV RX2 105 RX2 yX2_takeBar wsX2_takeBar) := goodIn_app (goodIn_of _ (by decide +kernel)) ggX2_takeAllBars_X2_takeBar
theorem dX2_takeAllBars_0 : decode cX2_takeAllBars 0 = .ok (.iconst 0, 1) := by decide +kernel
theorem dX2_takeAllBars_1 : decode cX2_takeAllBars 1 = .ok (.istore_n 1, 1) := by decide +kernel
theorem dX2_takeAllBars_2 : decode cX2_takeAllBars 2 = .ok (.iload_n 1, 1) := by decide +kernel
theorem dX2_takeAllBars_3 : decode cX2_takeAllBars 3 = .ok (.bipush 36, 2) := by decide +kernel
theorem dX2_takeAllBars_5 : decode cX2_takeAllBars 5 = .ok (.if_icmp .ge 14, 3) := by decide +kernel
theorem dX2_takeAllBars_8 : decode cX2_takeAllBars 8 = .ok (.aload_n 0, 1) := by decide +kernel
theorem dX2_takeAllBars_9 : decode cX2_takeAllBars 9 = .ok (.iload_n 1, 1) := by decide +kernel
theorem dX2_takeAllBars_10 : decode cX2_takeAllBars 10 = .ok (.invokevirtual 105, 3) := by decide +kernel
theorem dX2_takeAllBars_13 : decode cX2_takeAllBars 13 = .ok (.iinc 1 1, 3) := by decide +kernel
theorem dX2_takeAllBars_16 : decode cX2_takeAllBars 16 = .ok (.goto (-14), 3) := by decide +kernel
theorem dX2_takeAllBars_19 : decode cX2_takeAllBars 19 = .ok (.return_, 1) := by decide +kernel
set_option maxRecDepth 20000 in
theorem ggX2_barCount_X2_hasBar : GoodIn wsX2_barCount wsX2_hasBar := goodIn_r _ [5, 6, 7, 8, 9, 10, 11, 12, 13, 14, 15, 16, 17, 18, 19] (by decide +kernel) (by decide +kernel)
set_option maxRecDepth 20000 in
theorem gX2_barCount_X2_hasBar : GoodIn wsX2_barCount (wsV RX2 63 RX2 yX2_hasBar wsX2_hasBar) := goodIn_app (goodIn_of _ (by decide +kernel)) ggX2_barCount_X2_hasBar
theorem dX2_barCount_0 : decode cX2_barCount 0 = .ok (.iconst 0, 1) := by decide +kernel
theorem dX2_barCount_1 : decode cX2_barCount 1 = .ok (.istore_n 1, 1) := by decide +kernel
theorem dX2_barCount_2 : decode cX2_barCount 2 = .ok (.iconst 0, 1) := by decide +kernel
theorem dX2_barCount_3 : decode cX2_barCount 3 = .ok (.istore_n 2, 1) := by decide +kernel
theorem dX2_barCount_4 : decode cX2_barCount 4 = .ok (.iload_n 2, 1) := by decide +kernel
theorem dX2_barCount_5 : decode cX2_barCount 5 = .ok (.bipush 36, 2) := by decide +kernel
theorem dX2_barCount_7 : decode cX2_barCount 7 = .ok (.if_icmp .ge 20, 3) := by decide +kernel
theorem dX2_barCount_10 : decode cX2_barCount 10 = .ok (.aload_n 0, 1) := by decide +kernel
theorem dX2_barCount_11 : decode cX2_barCount 11 = .ok (.iload_n 2, 1) := by decide +kernel
theorem dX2_barCount_12 : decode cX2_barCount 12 = .ok (.invokevirtual 63, 3) := by decide +kernel
theorem dX2_barCount_15 : decode cX2_barCount 15 = .ok (.ifCond .eq 6, 3) := by decide +kernel
theorem dX2_barCount_18 : decode cX2_barCount 18 = .ok (.iinc 1 1, 3) := by decide +kernel
theorem dX2_barCount_21 : decode cX2_barCount 21 = .ok (.iinc 2 1, 3) := by decide +kernel
theorem dX2_barCount_24 : decode cX2_barCount 24 = .ok (.goto (-20), 3) := by decide +kernel
theorem dX2_barCount_27 : decode cX2_barCount 27 = .ok (.iload_n 1, 1) := by decide +kernel
theorem dX2_barCount_28 : decode cX2_barCount 28 = .ok (.ireturn, 1) := by decide +kernel
set_option maxRecDepth 20000 in
theorem ggX2_cellOfBar_X2_hasBar : GoodIn wsX2_cellOfBar wsX2_hasBar := goodIn_r _ [5, 6, 7, 8, 9, 10, 11, 12, 13, 14, 15, 16, 17, 18, 19] (by decide +kernel) (by decide +kernel)
set_option maxRecDepth 20000 in
theorem gX2_cellOfBar_X2_hasBar : GoodIn wsX2_cellOfBar (wsV RX2 63 RX2 yX2_hasBar wsX2_hasBar) := goodIn_app (goodIn_of _ (by decide +kernel)) ggX2_cellOfBar_X2_hasBar
theorem dX2_cellOfBar_0 : decode cX2_cellOfBar 0 = .ok (.iconst 0, 1) := by decide +kernel
theorem dX2_cellOfBar_1 : decode cX2_cellOfBar 1 = .ok (.istore_n 2, 1) := by decide +kernel
theorem dX2_cellOfBar_2 : decode cX2_cellOfBar 2 = .ok (.iconst 0, 1) := by decide +kernel
theorem dX2_cellOfBar_3 : decode cX2_cellOfBar 3 = .ok (.istore_n 3, 1) := by decide +kernel
theorem dX2_cellOfBar_4 : decode cX2_cellOfBar 4 = .ok (.iload_n 3, 1) := by decide +kernel
theorem dX2_cellOfBar_5 : decode cX2_cellOfBar 5 = .ok (.bipush 36, 2) := by decide +kernel
theorem dX2_cellOfBar_7 : decode cX2_cellOfBar 7 = .ok (.if_icmp .ge 27, 3) := by decide +kernel
theorem dX2_cellOfBar_10 : decode cX2_cellOfBar 10 = .ok (.aload_n 0, 1) := by decide +kernel
theorem dX2_cellOfBar_11 : decode cX2_cellOfBar 11 = .ok (.iload_n 3, 1) := by decide +kernel
theorem dX2_cellOfBar_12 : decode cX2_cellOfBar 12 = .ok (.invokevirtual 63, 3) := by decide +kernel
theorem dX2_cellOfBar_15 : decode cX2_cellOfBar 15 = .ok (.ifCond .eq 13, 3) := by decide +kernel
theorem dX2_cellOfBar_18 : decode cX2_cellOfBar 18 = .ok (.iload_n 2, 1) := by decide +kernel
theorem dX2_cellOfBar_19 : decode cX2_cellOfBar 19 = .ok (.iload_n 1, 1) := by decide +kernel
theorem dX2_cellOfBar_20 : decode cX2_cellOfBar 20 = .ok (.if_icmp .ne 5, 3) := by decide +kernel
theorem dX2_cellOfBar_23 : decode cX2_cellOfBar 23 = .ok (.iload_n 3, 1) := by decide +kernel
theorem dX2_cellOfBar_24 : decode cX2_cellOfBar 24 = .ok (.ireturn, 1) := by decide +kernel
theorem dX2_cellOfBar_25 : decode cX2_cellOfBar 25 = .ok (.iinc 2 1, 3) := by decide +kernel
theorem dX2_cellOfBar_28 : decode cX2_cellOfBar 28 = .ok (.iinc 3 1, 3) := by decide +kernel
theorem dX2_cellOfBar_31 : decode cX2_cellOfBar 31 = .ok (.goto (-27), 3) := by decide +kernel
theorem dX2_cellOfBar_34 : decode cX2_cellOfBar 34 = .ok (.iconst (-1), 1) := by decide +kernel
theorem dX2_cellOfBar_35 : decode cX2_cellOfBar 35 = .ok (.ireturn, 1) := by decide +kernel
theorem dX2_heldCount_0 : decode cX2_heldCount 0 = .ok (.iconst 0, 1) := by decide +kernel
theorem dX2_heldCount_1 : decode cX2_heldCount 1 = .ok (.istore_n 1, 1) := by decide +kernel
theorem dX2_heldCount_2 : decode cX2_heldCount 2 = .ok (.iconst 0, 1) := by decide +kernel
theorem dX2_heldCount_3 : decode cX2_heldCount 3 = .ok (.istore_n 2, 1) := by decide +kernel
theorem dX2_heldCount_4 : decode cX2_heldCount 4 = .ok (.iload_n 2, 1) := by decide +kernel
theorem dX2_heldCount_5 : decode cX2_heldCount 5 = .ok (.bipush 36, 2) := by decide +kernel
theorem dX2_heldCount_7 : decode cX2_heldCount 7 = .ok (.if_icmp .ge 21, 3) := by decide +kernel
theorem dX2_heldCount_10 : decode cX2_heldCount 10 = .ok (.aload_n 0, 1) := by decide +kernel
theorem dX2_heldCount_11 : decode cX2_heldCount 11 = .ok (.getfield 18, 3) := by decide +kernel
theorem dX2_heldCount_14 : decode cX2_heldCount 14 = .ok (.iload_n 2, 1) := by decide +kernel
theorem dX2_heldCount_15 : decode cX2_heldCount 15 = .ok (.baload, 1) := by decide +kernel
theorem dX2_heldCount_16 : decode cX2_heldCount 16 = .ok (.ifCond .eq 6, 3) := by decide +kernel
theorem dX2_heldCount_19 : decode cX2_heldCount 19 = .ok (.iinc 1 1, 3) := by decide +kernel
theorem dX2_heldCount_22 : decode cX2_heldCount 22 = .ok (.iinc 2 1, 3) := by decide +kernel
theorem dX2_heldCount_25 : decode cX2_heldCount 25 = .ok (.goto (-21), 3) := by decide +kernel
theorem dX2_heldCount_28 : decode cX2_heldCount 28 = .ok (.iload_n 1, 1) := by decide +kernel
theorem dX2_heldCount_29 : decode cX2_heldCount 29 = .ok (.ireturn, 1) := by decide +kernel
set_option maxRecDepth 20000 in
theorem ggX2_turningCount_X2_wouldTurn : GoodIn wsX2_turningCount wsX2_wouldTurn := goodIn_r _ [5, 6, 7, 8, 9, 4, 10, 11, 12, 13, 14, 15, 16, 17, 18, 19, 20, 21, 22, 23, 24, 25, 26, 27, 28, 29, 30, 31, 32] (by decide +kernel) (by decide +kernel)
set_option maxRecDepth 20000 in
theorem gX2_turningCount_X2_wouldTurn : GoodIn wsX2_turningCount (wsV RX2 108 RX2 yX2_wouldTurn wsX2_wouldTurn) := goodIn_app (goodIn_of _ (by decide +kernel)) ggX2_turningCount_X2_wouldTurn
theorem dX2_turningCount_0 : decode cX2_turningCount 0 = .ok (.iconst 0, 1) := by decide +kernel
theorem dX2_turningCount_1 : decode cX2_turningCount 1 = .ok (.istore_n 1, 1) := by decide +kernel
theorem dX2_turningCount_2 : decode cX2_turningCount 2 = .ok (.iconst 0, 1) := by decide +kernel
theorem dX2_turningCount_3 : decode cX2_turningCount 3 = .ok (.istore_n 2, 1) := by decide +kernel
theorem dX2_turningCount_4 : decode cX2_turningCount 4 = .ok (.iload_n 2, 1) := by decide +kernel
theorem dX2_turningCount_5 : decode cX2_turningCount 5 = .ok (.bipush 36, 2) := by decide +kernel
theorem dX2_turningCount_7 : decode cX2_turningCount 7 = .ok (.if_icmp .ge 20, 3) := by decide +kernel
theorem dX2_turningCount_10 : decode cX2_turningCount 10 = .ok (.aload_n 0, 1) := by decide +kernel
theorem dX2_turningCount_11 : decode cX2_turningCount 11 = .ok (.iload_n 2, 1) := by decide +kernel
theorem dX2_turningCount_12 : decode cX2_turningCount 12 = .ok (.invokevirtual 108, 3) := by decide +kernel
theorem dX2_turningCount_15 : decode cX2_turningCount 15 = .ok (.ifCond .eq 6, 3) := by decide +kernel
theorem dX2_turningCount_18 : decode cX2_turningCount 18 = .ok (.iinc 1 1, 3) := by decide +kernel
theorem dX2_turningCount_21 : decode cX2_turningCount 21 = .ok (.iinc 2 1, 3) := by decide +kernel
theorem dX2_turningCount_24 : decode cX2_turningCount 24 = .ok (.goto (-20), 3) := by decide +kernel
theorem dX2_turningCount_27 : decode cX2_turningCount 27 = .ok (.iload_n 1, 1) := by decide +kernel
end
section
theorem dX2_turningCount_28 : decode cX2_turningCount 28 = .ok (.ireturn, 1) := by decide +kernel
set_option maxRecDepth 20000 in
theorem ggX2_aimedCount_X2_aim : GoodIn wsX2_aimedCount wsX2_aim := goodIn_r _ [5, 6, 7, 8, 9, 10, 11, 12, 13, 14, 15, 16, 17, 18, 19, 20, 21, 22, 23] (by decide +kernel) (by decide +kernel)
set_option maxRecDepth 20000 in
theorem gX2_aimedCount_X2_aim : GoodIn wsX2_aimedCount (wsV RX2 89 RX2 yX2_aim wsX2_aim) := goodIn_app (goodIn_of _ (by decide +kernel)) ggX2_aimedCount_X2_aim
theorem dX2_aimedCount_0 : decode cX2_aimedCount 0 = .ok (.iconst 0, 1) := by decide +kernel
theorem dX2_aimedCount_1 : decode cX2_aimedCount 1 = .ok (.istore_n 1, 1) := by decide +kernel
theorem dX2_aimedCount_2 : decode cX2_aimedCount 2 = .ok (.iconst 0, 1) := by decide +kernel
theorem dX2_aimedCount_3 : decode cX2_aimedCount 3 = .ok (.istore_n 2, 1) := by decide +kernel
theorem dX2_aimedCount_4 : decode cX2_aimedCount 4 = .ok (.iload_n 2, 1) := by decide +kernel
theorem dX2_aimedCount_5 : decode cX2_aimedCount 5 = .ok (.bipush 36, 2) := by decide +kernel
theorem dX2_aimedCount_7 : decode cX2_aimedCount 7 = .ok (.if_icmp .ge 21, 3) := by decide +kernel
theorem dX2_aimedCount_10 : decode cX2_aimedCount 10 = .ok (.aload_n 0, 1) := by decide +kernel
theorem dX2_aimedCount_11 : decode cX2_aimedCount 11 = .ok (.iload_n 2, 1) := by decide +kernel
theorem dX2_aimedCount_12 : decode cX2_aimedCount 12 = .ok (.invokevirtual 89, 3) := by decide +kernel
theorem dX2_aimedCount_15 : decode cX2_aimedCount 15 = .ok (.iconst (-1), 1) := by decide +kernel
theorem dX2_aimedCount_16 : decode cX2_aimedCount 16 = .ok (.if_icmp .eq 6, 3) := by decide +kernel
theorem dX2_aimedCount_19 : decode cX2_aimedCount 19 = .ok (.iinc 1 1, 3) := by decide +kernel
theorem dX2_aimedCount_22 : decode cX2_aimedCount 22 = .ok (.iinc 2 1, 3) := by decide +kernel
theorem dX2_aimedCount_25 : decode cX2_aimedCount 25 = .ok (.goto (-21), 3) := by decide +kernel
theorem dX2_aimedCount_28 : decode cX2_aimedCount 28 = .ok (.iload_n 1, 1) := by decide +kernel
theorem dX2_aimedCount_29 : decode cX2_aimedCount 29 = .ok (.ireturn, 1) := by decide +kernel
set_option maxRecDepth 20000 in
theorem ggX2_obeyingCount_X2_aim : GoodIn wsX2_obeyingCount wsX2_aim := goodIn_r _ [6, 7, 8, 9, 10, 11, 12, 13, 14, 15, 16, 17, 18, 19, 20, 21, 22, 23, 24] (by decide +kernel) (by decide +kernel)
set_option maxRecDepth 20000 in
theorem gX2_obeyingCount_X2_aim : GoodIn wsX2_obeyingCount (wsV RX2 89 RX2 yX2_aim wsX2_aim) := goodIn_app (goodIn_of _ (by decide +kernel)) ggX2_obeyingCount_X2_aim
theorem dX2_obeyingCount_0 : decode cX2_obeyingCount 0 = .ok (.iconst 0, 1) := by decide +kernel
theorem dX2_obeyingCount_1 : decode cX2_obeyingCount 1 = .ok (.istore_n 1, 1) := by decide +kernel
theorem dX2_obeyingCount_2 : decode cX2_obeyingCount 2 = .ok (.iconst 0, 1) := by decide +kernel
theorem dX2_obeyingCount_3 : decode cX2_obeyingCount 3 = .ok (.istore_n 2, 1) := by decide +kernel
theorem dX2_obeyingCount_4 : decode cX2_obeyingCount 4 = .ok (.iload_n 2, 1) := by decide +kernel
theorem dX2_obeyingCount_5 : decode cX2_obeyingCount 5 = .ok (.bipush 36, 2) := by decide +kernel
theorem dX2_obeyingCount_7 : decode cX2_obeyingCount 7 = .ok (.if_icmp .ge 26, 3) := by decide +kernel
theorem dX2_obeyingCount_10 : decode cX2_obeyingCount 10 = .ok (.aload_n 0, 1) := by decide +kernel
theorem dX2_obeyingCount_11 : decode cX2_obeyingCount 11 = .ok (.iload_n 2, 1) := by decide +kernel
theorem dX2_obeyingCount_12 : decode cX2_obeyingCount 12 = .ok (.invokevirtual 89, 3) := by decide +kernel
theorem dX2_obeyingCount_15 : decode cX2_obeyingCount 15 = .ok (.aload_n 0, 1) := by decide +kernel
theorem dX2_obeyingCount_16 : decode cX2_obeyingCount 16 = .ok (.getfield 9, 3) := by decide +kernel
theorem dX2_obeyingCount_19 : decode cX2_obeyingCount 19 = .ok (.iload_n 2, 1) := by decide +kernel
theorem dX2_obeyingCount_20 : decode cX2_obeyingCount 20 = .ok (.iaload, 1) := by decide +kernel
theorem dX2_obeyingCount_21 : decode cX2_obeyingCount 21 = .ok (.if_icmp .ne 6, 3) := by decide +kernel
theorem dX2_obeyingCount_24 : decode cX2_obeyingCount 24 = .ok (.iinc 1 1, 3) := by decide +kernel
theorem dX2_obeyingCount_27 : decode cX2_obeyingCount 27 = .ok (.iinc 2 1, 3) := by decide +kernel
theorem dX2_obeyingCount_30 : decode cX2_obeyingCount 30 = .ok (.goto (-26), 3) := by decide +kernel
theorem dX2_obeyingCount_33 : decode cX2_obeyingCount 33 = .ok (.iload_n 1, 1) := by decide +kernel
theorem dX2_obeyingCount_34 : decode cX2_obeyingCount 34 = .ok (.ireturn, 1) := by decide +kernel
set_option maxRecDepth 20000 in
theorem ggX2_awayTogether_X2_awayFromAim : GoodIn wsX2_awayTogether wsX2_awayFromAim := goodIn_r _ [5, 6, 7, 8, 9, 4, 10, 11, 12, 13, 14, 15, 16, 17, 18, 19, 20, 21, 22, 23, 24, 25, 26, 27, 28, 29, 30] (by decide +kernel) (by decide +kernel)
set_option maxRecDepth 20000 in
theorem gX2_awayTogether_X2_awayFromAim : GoodIn wsX2_awayTogether (wsV RX2 111 RX2 yX2_awayFromAim wsX2_awayFromAim) := goodIn_app (goodIn_of _ (by decide +kernel)) ggX2_awayTogether_X2_awayFromAim
theorem dX2_awayTogether_0 : decode cX2_awayTogether 0 = .ok (.iconst 0, 1) := by decide +kernel
theorem dX2_awayTogether_1 : decode cX2_awayTogether 1 = .ok (.istore_n 1, 1) := by decide +kernel
theorem dX2_awayTogether_2 : decode cX2_awayTogether 2 = .ok (.iconst 0, 1) := by decide +kernel
theorem dX2_awayTogether_3 : decode cX2_awayTogether 3 = .ok (.istore_n 2, 1) := by decide +kernel
theorem dX2_awayTogether_4 : decode cX2_awayTogether 4 = .ok (.iload_n 2, 1) := by decide +kernel
theorem dX2_awayTogether_5 : decode cX2_awayTogether 5 = .ok (.bipush 36, 2) := by decide +kernel
theorem dX2_awayTogether_7 : decode cX2_awayTogether 7 = .ok (.if_icmp .ge 24, 3) := by decide +kernel
theorem dX2_awayTogether_10 : decode cX2_awayTogether 10 = .ok (.aload_n 0, 1) := by decide +kernel
theorem dX2_awayTogether_11 : decode cX2_awayTogether 11 = .ok (.iload_n 2, 1) := by decide +kernel
theorem dX2_awayTogether_12 : decode cX2_awayTogether 12 = .ok (.invokevirtual 111, 3) := by decide +kernel
theorem dX2_awayTogether_15 : decode cX2_awayTogether 15 = .ok (.istore_n 3, 1) := by decide +kernel
theorem dX2_awayTogether_16 : decode cX2_awayTogether 16 = .ok (.iload_n 3, 1) := by decide +kernel
theorem dX2_awayTogether_17 : decode cX2_awayTogether 17 = .ok (.iconst (-1), 1) := by decide +kernel
theorem dX2_awayTogether_18 : decode cX2_awayTogether 18 = .ok (.if_icmp .eq 7, 3) := by decide +kernel
theorem dX2_awayTogether_21 : decode cX2_awayTogether 21 = .ok (.iload_n 1, 1) := by decide +kernel
theorem dX2_awayTogether_22 : decode cX2_awayTogether 22 = .ok (.iload_n 3, 1) := by decide +kernel
theorem dX2_awayTogether_23 : decode cX2_awayTogether 23 = .ok (.iadd, 1) := by decide +kernel
theorem dX2_awayTogether_24 : decode cX2_awayTogether 24 = .ok (.istore_n 1, 1) := by decide +kernel
theorem dX2_awayTogether_25 : decode cX2_awayTogether 25 = .ok (.iinc 2 1, 3) := by decide +kernel
theorem dX2_awayTogether_28 : decode cX2_awayTogether 28 = .ok (.goto (-24), 3) := by decide +kernel
theorem dX2_awayTogether_31 : decode cX2_awayTogether 31 = .ok (.iload_n 1, 1) := by decide +kernel
theorem dX2_awayTogether_32 : decode cX2_awayTogether 32 = .ok (.ireturn, 1) := by decide +kernel
theorem dX2_pointingCount_0 : decode cX2_pointingCount 0 = .ok (.iconst 0, 1) := by decide +kernel
theorem dX2_pointingCount_1 : decode cX2_pointingCount 1 = .ok (.istore_n 2, 1) := by decide +kernel
theorem dX2_pointingCount_2 : decode cX2_pointingCount 2 = .ok (.iconst 0, 1) := by decide +kernel
theorem dX2_pointingCount_3 : decode cX2_pointingCount 3 = .ok (.istore_n 3, 1) := by decide +kernel
theorem dX2_pointingCount_4 : decode cX2_pointingCount 4 = .ok (.iload_n 3, 1) := by decide +kernel
theorem dX2_pointingCount_5 : decode cX2_pointingCount 5 = .ok (.bipush 36, 2) := by decide +kernel
theorem dX2_pointingCount_7 : decode cX2_pointingCount 7 = .ok (.if_icmp .ge 22, 3) := by decide +kernel
theorem dX2_pointingCount_10 : decode cX2_pointingCount 10 = .ok (.aload_n 0, 1) := by decide +kernel
theorem dX2_pointingCount_11 : decode cX2_pointingCount 11 = .ok (.getfield 9, 3) := by decide +kernel
theorem dX2_pointingCount_14 : decode cX2_pointingCount 14 = .ok (.iload_n 3, 1) := by decide +kernel
theorem dX2_pointingCount_15 : decode cX2_pointingCount 15 = .ok (.iaload, 1) := by decide +kernel
theorem dX2_pointingCount_16 : decode cX2_pointingCount 16 = .ok (.iload_n 1, 1) := by decide +kernel
theorem dX2_pointingCount_17 : decode cX2_pointingCount 17 = .ok (.if_icmp .ne 6, 3) := by decide +kernel
theorem dX2_pointingCount_20 : decode cX2_pointingCount 20 = .ok (.iinc 2 1, 3) := by decide +kernel
theorem dX2_pointingCount_23 : decode cX2_pointingCount 23 = .ok (.iinc 3 1, 3) := by decide +kernel
theorem dX2_pointingCount_26 : decode cX2_pointingCount 26 = .ok (.goto (-22), 3) := by decide +kernel
theorem dX2_pointingCount_29 : decode cX2_pointingCount 29 = .ok (.iload_n 2, 1) := by decide +kernel
theorem dX2_pointingCount_30 : decode cX2_pointingCount 30 = .ok (.ireturn, 1) := by decide +kernel
end
section
set_option maxRecDepth 20000 in
theorem ggX3_init_X2_init : GoodIn wsX3_init wsX2_init := goodIn_r _ [10, 11, 2, 3, 12, 13, 14, 15, 16, 17, 18, 19, 20, 21, 22, 23, 24, 25, 26, 7, 27, 28, 29, 30, 31, 32, 33, 34, 35, 36, 37, 38, 39, 40, 41, 42, 43, 44, 45, 46, 47, 48, 49, 50, 51, 52, 53, 54, 55, 56, 57, 58, 59, 60, 64, 65, 66, 67, 68, 69, 70, 71, 72, 73, 74, 75, 76] (by decide +kernel) (by decide +kernel)
set_option maxRecDepth 20000 in
theorem gX3_init_X2_init : GoodIn wsX3_init (wsX2_init) := ggX3_init_X2_init
theorem dX3_init_0 : decode cX3_init 0 = .ok (.aload_n 0, 1) := by decide +kernel
theorem dX3_init_1 : decode cX3_init 1 = .ok (.invokespecial 3, 3) := by decide +kernel
theorem dX3_init_4 : decode cX3_init 4 = .ok (.aload_n 0, 1) := by decide +kernel
theorem dX3_init_5 : decode cX3_init 5 = .ok (.bipush 6, 2) := by decide +kernel
theorem dX3_init_7 : decode cX3_init 7 = .ok (.anewarray 9, 3) := by decide +kernel
theorem dX3_init_10 : decode cX3_init 10 = .ok (.putfield 11, 3) := by decide +kernel
theorem dX3_init_13 : decode cX3_init 13 = .ok (.iconst 0, 1) := by decide +kernel
theorem dX3_init_14 : decode cX3_init 14 = .ok (.istore_n 1, 1) := by decide +kernel
theorem dX3_init_15 : decode cX3_init 15 = .ok (.iload_n 1, 1) := by decide +kernel
theorem dX3_init_16 : decode cX3_init 16 = .ok (.bipush 6, 2) := by decide +kernel
theorem dX3_init_18 : decode cX3_init 18 = .ok (.if_icmp .ge 22, 3) := by decide +kernel
theorem dX3_init_21 : decode cX3_init 21 = .ok (.aload_n 0, 1) := by decide +kernel
theorem dX3_init_22 : decode cX3_init 22 = .ok (.getfield 11, 3) := by decide +kernel
theorem dX3_init_25 : decode cX3_init 25 = .ok (.iload_n 1, 1) := by decide +kernel
theorem dX3_init_26 : decode cX3_init 26 = .ok (.new 9, 3) := by decide +kernel
theorem dX3_init_29 : decode cX3_init 29 = .ok (.dup, 1) := by decide +kernel
theorem dX3_init_30 : decode cX3_init 30 = .ok (.invokespecial 17, 3) := by decide +kernel
theorem dX3_init_33 : decode cX3_init 33 = .ok (.aastore, 1) := by decide +kernel
theorem dX3_init_34 : decode cX3_init 34 = .ok (.iinc 1 1, 3) := by decide +kernel
theorem dX3_init_37 : decode cX3_init 37 = .ok (.goto (-22), 3) := by decide +kernel
theorem dX3_init_40 : decode cX3_init 40 = .ok (.return_, 1) := by decide +kernel
set_option maxRecDepth 20000 in
theorem ggX3_save_X2_copyFrom : GoodIn wsX3_save wsX2_copyFrom := goodIn_r _ [8, 9, 10, 11, 12, 13, 14, 15, 16, 17, 18, 19, 20, 21, 25, 26, 27, 28, 29, 30, 31, 32, 33, 34, 35, 36, 37] (by decide +kernel) (by decide +kernel)
set_option maxRecDepth 20000 in
theorem gX3_save_X2_copyFrom : GoodIn wsX3_save (wsV RX3 22 RX2 yX2_copyFrom wsX2_copyFrom) := goodIn_app (goodIn_of _ (by decide +kernel)) ggX3_save_X2_copyFrom
theorem dX3_save_0 : decode cX3_save 0 = .ok (.aload_n 0, 1) := by decide +kernel
theorem dX3_save_1 : decode cX3_save 1 = .ok (.getfield 11, 3) := by decide +kernel
theorem dX3_save_4 : decode cX3_save 4 = .ok (.aload_n 0, 1) := by decide +kernel
theorem dX3_save_5 : decode cX3_save 5 = .ok (.getfield 18, 3) := by decide +kernel
theorem dX3_save_8 : decode cX3_save 8 = .ok (.aaload, 1) := by decide +kernel
theorem dX3_save_9 : decode cX3_save 9 = .ok (.astore_n 2, 1) := by decide +kernel
theorem dX3_save_10 : decode cX3_save 10 = .ok (.aload_n 2, 1) := by decide +kernel
theorem dX3_save_11 : decode cX3_save 11 = .ok (.ifnull 8, 3) := by decide +kernel
theorem dX3_save_14 : decode cX3_save 14 = .ok (.aload_n 2, 1) := by decide +kernel
theorem dX3_save_15 : decode cX3_save 15 = .ok (.aload_n 1, 1) := by decide +kernel
theorem dX3_save_16 : decode cX3_save 16 = .ok (.invokevirtual 22, 3) := by decide +kernel
theorem dX3_save_19 : decode cX3_save 19 = .ok (.aload_n 0, 1) := by decide +kernel
theorem dX3_save_20 : decode cX3_save 20 = .ok (.aload_n 0, 1) := by decide +kernel
theorem dX3_save_21 : decode cX3_save 21 = .ok (.getfield 18, 3) := by decide +kernel
theorem dX3_save_24 : decode cX3_save 24 = .ok (.iconst 1, 1) := by decide +kernel
theorem dX3_save_25 : decode cX3_save 25 = .ok (.iadd, 1) := by decide +kernel
theorem dX3_save_26 : decode cX3_save 26 = .ok (.bipush 6, 2) := by decide +kernel
theorem dX3_save_28 : decode cX3_save 28 = .ok (.if_icmp .ge 12, 3) := by decide +kernel
theorem dX3_save_31 : decode cX3_save 31 = .ok (.aload_n 0, 1) := by decide +kernel
theorem dX3_save_32 : decode cX3_save 32 = .ok (.getfield 18, 3) := by decide +kernel
theorem dX3_save_35 : decode cX3_save 35 = .ok (.iconst 1, 1) := by decide +kernel
theorem dX3_save_36 : decode cX3_save 36 = .ok (.iadd, 1) := by decide +kernel
theorem dX3_save_37 : decode cX3_save 37 = .ok (.goto 4, 3) := by decide +kernel
theorem dX3_save_40 : decode cX3_save 40 = .ok (.iconst 0, 1) := by decide +kernel
theorem dX3_save_41 : decode cX3_save 41 = .ok (.putfield 18, 3) := by decide +kernel
theorem dX3_save_44 : decode cX3_save 44 = .ok (.aload_n 0, 1) := by decide +kernel
theorem dX3_save_45 : decode cX3_save 45 = .ok (.getfield 26, 3) := by decide +kernel
theorem dX3_save_48 : decode cX3_save 48 = .ok (.bipush 6, 2) := by decide +kernel
theorem dX3_save_50 : decode cX3_save 50 = .ok (.if_icmp .ge 13, 3) := by decide +kernel
theorem dX3_save_53 : decode cX3_save 53 = .ok (.aload_n 0, 1) := by decide +kernel
theorem dX3_save_54 : decode cX3_save 54 = .ok (.dup, 1) := by decide +kernel
theorem dX3_save_55 : decode cX3_save 55 = .ok (.getfield 26, 3) := by decide +kernel
theorem dX3_save_58 : decode cX3_save 58 = .ok (.iconst 1, 1) := by decide +kernel
theorem dX3_save_59 : decode cX3_save 59 = .ok (.iadd, 1) := by decide +kernel
theorem dX3_save_60 : decode cX3_save 60 = .ok (.putfield 26, 3) := by decide +kernel
theorem dX3_save_63 : decode cX3_save 63 = .ok (.return_, 1) := by decide +kernel
set_option maxRecDepth 20000 in
theorem ggX3_restoreInto_X2_copyFrom : GoodIn wsX3_restoreInto wsX2_copyFrom := goodIn_r _ [8, 9, 10, 11, 12, 13, 14, 15, 16, 17, 18, 19, 20, 21, 25, 26, 27, 28, 29, 30, 31, 32, 33, 34, 35, 36, 37] (by decide +kernel) (by decide +kernel)
set_option maxRecDepth 20000 in
theorem gX3_restoreInto_X2_copyFrom : GoodIn wsX3_restoreInto (wsV RX3 22 RX2 yX2_copyFrom wsX2_copyFrom) := goodIn_app (goodIn_of _ (by decide +kernel)) ggX3_restoreInto_X2_copyFrom
theorem dX3_restoreInto_0 : decode cX3_restoreInto 0 = .ok (.aload_n 0, 1) := by decide +kernel
theorem dX3_restoreInto_1 : decode cX3_restoreInto 1 = .ok (.aload_n 0, 1) := by decide +kernel
theorem dX3_restoreInto_2 : decode cX3_restoreInto 2 = .ok (.getfield 18, 3) := by decide +kernel
theorem dX3_restoreInto_5 : decode cX3_restoreInto 5 = .ok (.ifCond .le 12, 3) := by decide +kernel
theorem dX3_restoreInto_8 : decode cX3_restoreInto 8 = .ok (.aload_n 0, 1) := by decide +kernel
theorem dX3_restoreInto_9 : decode cX3_restoreInto 9 = .ok (.getfield 18, 3) := by decide +kernel
theorem dX3_restoreInto_12 : decode cX3_restoreInto 12 = .ok (.iconst 1, 1) := by decide +kernel
theorem dX3_restoreInto_13 : decode cX3_restoreInto 13 = .ok (.isub, 1) := by decide +kernel
theorem dX3_restoreInto_14 : decode cX3_restoreInto 14 = .ok (.goto 4, 3) := by decide +kernel
theorem dX3_restoreInto_17 : decode cX3_restoreInto 17 = .ok (.iconst 5, 1) := by decide +kernel
theorem dX3_restoreInto_18 : decode cX3_restoreInto 18 = .ok (.putfield 18, 3) := by decide +kernel
theorem dX3_restoreInto_21 : decode cX3_restoreInto 21 = .ok (.aload_n 0, 1) := by decide +kernel
theorem dX3_restoreInto_22 : decode cX3_restoreInto 22 = .ok (.dup, 1) := by decide +kernel
theorem dX3_restoreInto_23 : decode cX3_restoreInto 23 = .ok (.getfield 26, 3) := by decide +kernel
theorem dX3_restoreInto_26 : decode cX3_restoreInto 26 = .ok (.iconst 1, 1) := by decide +kernel
theorem dX3_restoreInto_27 : decode cX3_restoreInto 27 = .ok (.isub, 1) := by decide +kernel
theorem dX3_restoreInto_28 : decode cX3_restoreInto 28 = .ok (.putfield 26, 3) := by decide +kernel
theorem dX3_restoreInto_31 : decode cX3_restoreInto 31 = .ok (.aload_n 0, 1) := by decide +kernel
theorem dX3_restoreInto_32 : decode cX3_restoreInto 32 = .ok (.getfield 11, 3) := by decide +kernel
theorem dX3_restoreInto_35 : decode cX3_restoreInto 35 = .ok (.aload_n 0, 1) := by decide +kernel
theorem dX3_restoreInto_36 : decode cX3_restoreInto 36 = .ok (.getfield 18, 3) := by decide +kernel
theorem dX3_restoreInto_39 : decode cX3_restoreInto 39 = .ok (.aaload, 1) := by decide +kernel
theorem dX3_restoreInto_40 : decode cX3_restoreInto 40 = .ok (.astore_n 2, 1) := by decide +kernel
theorem dX3_restoreInto_41 : decode cX3_restoreInto 41 = .ok (.aload_n 2, 1) := by decide +kernel
theorem dX3_restoreInto_42 : decode cX3_restoreInto 42 = .ok (.ifnull 8, 3) := by decide +kernel
theorem dX3_restoreInto_45 : decode cX3_restoreInto 45 = .ok (.aload_n 1, 1) := by decide +kernel
theorem dX3_restoreInto_46 : decode cX3_restoreInto 46 = .ok (.aload_n 2, 1) := by decide +kernel
theorem dX3_restoreInto_47 : decode cX3_restoreInto 47 = .ok (.invokevirtual 22, 3) := by decide +kernel
theorem dX3_restoreInto_50 : decode cX3_restoreInto 50 = .ok (.return_, 1) := by decide +kernel
end
section
set_option maxRecDepth 20000 in
theorem ggX4_init_X2_init : GoodIn wsX4_init wsX2_init := goodIn_r _ [19, 20, 2, 3, 21, 22, 23, 24, 25, 26, 27, 28, 29, 30, 31, 32, 33, 34, 35, 6, 36, 37, 38, 39, 40, 41, 42, 43, 44, 45, 46, 47, 48, 49, 50, 51, 52, 53, 54, 55, 56, 57, 58, 59, 60, 61, 62, 63, 64, 65, 66, 67, 68, 69, 88, 89, 90, 91, 92, 93, 94, 95, 96, 97, 98, 99, 100] (by decide +kernel) (by decide +kernel)
set_option maxRecDepth 20000 in
theorem gX4_init_X2_init : GoodIn wsX4_init (wsX2_init) := ggX4_init_X2_init
set_option maxRecDepth 20000 in
theorem ggX4_init_X3_init : GoodIn wsX4_init wsX3_init := goodIn_r _ [72, 73, 2, 3, 74, 75, 5, 6, 76, 18, 19, 20, 21, 22, 23, 24, 25, 26, 27, 28, 29, 30, 31, 32, 33, 34, 35, 36, 37, 38, 39, 40, 41, 42, 43, 44, 45, 46, 47, 48, 49, 50, 51, 52, 53, 54, 55, 56, 57, 58, 59, 60, 61, 62, 63, 64, 65, 66, 67, 68, 69, 105, 106, 107, 88, 89, 90, 91, 92, 93, 94, 95, 96, 97, 98, 99, 100] (by decide +kernel) (by decide +kernel)
set_option maxRecDepth 20000 in
theorem gX4_init_X3_init : GoodIn wsX4_init (wsX3_init) := ggX4_init_X3_init
set_option maxRecDepth 20000 in
theorem ggX4_init_X1_init : GoodIn wsX4_init wsX1_init := goodIn_r _ [78, 79, 2, 3, 21, 80, 81, 82, 83, 84, 85, 86, 87, 108, 109, 110, 111, 112, 113, 114, 115, 116] (by decide +kernel) (by decide +kernel)
set_option maxRecDepth 20000 in
theorem gX4_init_X1_init_n28 : GoodIn wsX4_init (wsX1_init) := ggX4_init_X1_init
theorem dX4_init_0 : decode cX4_init 0 = .ok (.aload_n 0, 1) := by decide +kernel
theorem dX4_init_1 : decode cX4_init 1 = .ok (.invokespecial 3, 3) := by decide +kernel
theorem dX4_init_4 : decode cX4_init 4 = .ok (.aload_n 0, 1) := by decide +kernel
theorem dX4_init_5 : decode cX4_init 5 = .ok (.new 9, 3) := by decide +kernel
theorem dX4_init_8 : decode cX4_init 8 = .ok (.dup, 1) := by decide +kernel
theorem dX4_init_9 : decode cX4_init 9 = .ok (.invokespecial 11, 3) := by decide +kernel
theorem dX4_init_12 : decode cX4_init 12 = .ok (.putfield 12, 3) := by decide +kernel
theorem dX4_init_15 : decode cX4_init 15 = .ok (.aload_n 0, 1) := by decide +kernel
theorem dX4_init_16 : decode cX4_init 16 = .ok (.new 9, 3) := by decide +kernel
theorem dX4_init_19 : decode cX4_init 19 = .ok (.dup, 1) := by decide +kernel
theorem dX4_init_20 : decode cX4_init 20 = .ok (.invokespecial 11, 3) := by decide +kernel
theorem dX4_init_23 : decode cX4_init 23 = .ok (.putfield 16, 3) := by decide +kernel
theorem dX4_init_26 : decode cX4_init 26 = .ok (.aload_n 0, 1) := by decide +kernel
theorem dX4_init_27 : decode cX4_init 27 = .ok (.new 19, 3) := by decide +kernel
theorem dX4_init_30 : decode cX4_init 30 = .ok (.dup, 1) := by decide +kernel
theorem dX4_init_31 : decode cX4_init 31 = .ok (.invokespecial 21, 3) := by decide +kernel
theorem dX4_init_34 : decode cX4_init 34 = .ok (.putfield 22, 3) := by decide +kernel
theorem dX4_init_37 : decode cX4_init 37 = .ok (.aload_n 0, 1) := by decide +kernel
theorem dX4_init_38 : decode cX4_init 38 = .ok (.new 26, 3) := by decide +kernel
theorem dX4_init_41 : decode cX4_init 41 = .ok (.dup, 1) := by decide +kernel
theorem dX4_init_42 : decode cX4_init 42 = .ok (.invokespecial 28, 3) := by decide +kernel
theorem dX4_init_45 : decode cX4_init 45 = .ok (.putfield 29, 3) := by decide +kernel
theorem dX4_init_48 : decode cX4_init 48 = .ok (.return_, 1) := by decide +kernel
set_option maxRecDepth 20000 in
theorem ggX4_needle_X4_requireCell : GoodIn wsX4_needle wsX4_requireCell := goodIn_ca (goodIn_r _ [6, 7, 8] (by decide +kernel) (by decide +kernel)) (goodIn_sub (fun _ h => List.mem_cons_of_mem _ (List.mem_append_left _ (List.mem_append_right _ h))) (by decide +kernel))
set_option maxRecDepth 20000 in
theorem gX4_needle_X4_requireCell : GoodIn wsX4_needle (va_wsS RX4 33 yX4_requireCell wsX4_requireCell) := goodIn_app (goodIn_of _ (by decide +kernel)) ggX4_needle_X4_requireCell
set_option maxRecDepth 20000 in
theorem ggX4_needle_X4_requireDirection : GoodIn wsX4_needle wsX4_requireDirection := goodIn_ca (goodIn_r _ [11, 12, 13, 5, 14, 15, 16] (by decide +kernel) (by decide +kernel)) (goodIn_sub (fun _ h => List.mem_cons_of_mem _ (List.mem_append_right _ h)) (by decide +kernel))
set_option maxRecDepth 20000 in
theorem gX4_needle_X4_requireDirection : GoodIn wsX4_needle (va_wsS RX4 37 yX4_requireDirection wsX4_requireDirection) := goodIn_app (goodIn_of _ (by decide +kernel)) ggX4_needle_X4_requireDirection
set_option maxRecDepth 20000 in
theorem ggX4_needle_X3_save : GoodIn wsX4_needle wsX3_save := goodIn_r _ [21, 22, 23, 24, 25, 26, 27, 28, 29, 30, 31, 32, 33, 34, 35, 36, 37, 38, 39, 40, 41, 42, 78, 79, 80, 65, 66, 67, 68, 69, 70, 71, 72, 73, 74, 75, 76, 77] (by decide +kernel) (by decide +kernel)
set_option maxRecDepth 20000 in
theorem gX4_needle_X3_save : GoodIn wsX4_needle (wsV RX4 40 RX3 yX3_save wsX3_save) := goodIn_app (goodIn_of _ (by decide +kernel)) ggX4_needle_X3_save
set_option maxRecDepth 20000 in
theorem ggX4_needle_X2_measureField : GoodIn wsX4_needle wsX2_measureField := goodIn_r _ [46, 37, 35, 38, 36, 47, 48, 49, 28, 50, 39, 30, 51, 5, 52, 53, 54, 55, 56, 57, 58, 59, 60, 65, 66, 67, 68, 69, 70, 71, 72, 73, 74, 75, 76, 77] (by decide +kernel) (by decide +kernel)
set_option maxRecDepth 20000 in
theorem gX4_needle_X2_measureField : GoodIn wsX4_needle (wsV RX4 48 RX2 yX2_measureField wsX2_measureField) := goodIn_app (goodIn_of _ (by decide +kernel)) ggX4_needle_X2_measureField
theorem dX4_needle_0 : decode cX4_needle 0 = .ok (.iload_n 1, 1) := by decide +kernel
theorem dX4_needle_1 : decode cX4_needle 1 = .ok (.invokestatic 33, 3) := by decide +kernel
theorem dX4_needle_4 : decode cX4_needle 4 = .ok (.iload_n 2, 1) := by decide +kernel
theorem dX4_needle_5 : decode cX4_needle 5 = .ok (.invokestatic 37, 3) := by decide +kernel
theorem dX4_needle_8 : decode cX4_needle 8 = .ok (.aload_n 0, 1) := by decide +kernel
theorem dX4_needle_9 : decode cX4_needle 9 = .ok (.getfield 22, 3) := by decide +kernel
theorem dX4_needle_12 : decode cX4_needle 12 = .ok (.aload_n 0, 1) := by decide +kernel
theorem dX4_needle_13 : decode cX4_needle 13 = .ok (.getfield 12, 3) := by decide +kernel
theorem dX4_needle_16 : decode cX4_needle 16 = .ok (.invokevirtual 40, 3) := by decide +kernel
theorem dX4_needle_19 : decode cX4_needle 19 = .ok (.aload_n 0, 1) := by decide +kernel
theorem dX4_needle_20 : decode cX4_needle 20 = .ok (.getfield 12, 3) := by decide +kernel
theorem dX4_needle_23 : decode cX4_needle 23 = .ok (.getfield 44, 3) := by decide +kernel
theorem dX4_needle_26 : decode cX4_needle 26 = .ok (.iload_n 1, 1) := by decide +kernel
theorem dX4_needle_27 : decode cX4_needle 27 = .ok (.iaload, 1) := by decide +kernel
theorem dX4_needle_28 : decode cX4_needle 28 = .ok (.istore_n 3, 1) := by decide +kernel
theorem dX4_needle_29 : decode cX4_needle 29 = .ok (.aload_n 0, 1) := by decide +kernel
theorem dX4_needle_30 : decode cX4_needle 30 = .ok (.getfield 12, 3) := by decide +kernel
theorem dX4_needle_33 : decode cX4_needle 33 = .ok (.getfield 44, 3) := by decide +kernel
theorem dX4_needle_36 : decode cX4_needle 36 = .ok (.iload_n 1, 1) := by decide +kernel
theorem dX4_needle_37 : decode cX4_needle 37 = .ok (.iload_n 2, 1) := by decide +kernel
theorem dX4_needle_38 : decode cX4_needle 38 = .ok (.iastore, 1) := by decide +kernel
theorem dX4_needle_39 : decode cX4_needle 39 = .ok (.aload_n 0, 1) := by decide +kernel
theorem dX4_needle_40 : decode cX4_needle 40 = .ok (.getfield 12, 3) := by decide +kernel
theorem dX4_needle_43 : decode cX4_needle 43 = .ok (.invokevirtual 48, 3) := by decide +kernel
theorem dX4_needle_46 : decode cX4_needle 46 = .ok (.iload_n 3, 1) := by decide +kernel
theorem dX4_needle_47 : decode cX4_needle 47 = .ok (.ireturn, 1) := by decide +kernel
set_option maxRecDepth 20000 in
theorem ggX4_friction_X4_requireCell : GoodIn wsX4_friction wsX4_requireCell := goodIn_ca (goodIn_r _ [6, 7, 8] (by decide +kernel) (by decide +kernel)) (goodIn_sub (fun _ h => List.mem_cons_of_mem _ (List.mem_append_left _ (List.mem_append_right _ h))) (by decide +kernel))
set_option maxRecDepth 20000 in
theorem gX4_friction_X4_requireCell : GoodIn wsX4_friction (va_wsS RX4 33 yX4_requireCell wsX4_requireCell) := goodIn_app (goodIn_of _ (by decide +kernel)) ggX4_friction_X4_requireCell
set_option maxRecDepth 20000 in
theorem ggX4_friction_X4_requireBetween : GoodIn wsX4_friction wsX4_requireBetween := goodIn_ca (goodIn_r _ [11, 12, 13] (by decide +kernel) (by decide +kernel)) (goodIn_sub (fun _ h => List.mem_cons_of_mem _ (List.mem_append_right _ h)) (by decide +kernel))
set_option maxRecDepth 20000 in
theorem gX4_friction_X4_requireBetween : GoodIn wsX4_friction (va_wsS RX4 51 yX4_requireBetween wsX4_requireBetween) := goodIn_app (goodIn_of _ (by decide +kernel)) ggX4_friction_X4_requireBetween
set_option maxRecDepth 20000 in
theorem ggX4_friction_X3_save : GoodIn wsX4_friction wsX3_save := goodIn_r _ [18, 19, 20, 21, 22, 23, 24, 25, 26, 27, 28, 29, 30, 31, 32, 33, 34, 35, 36, 37, 38, 39, 57, 58, 59, 44, 45, 46, 47, 48, 49, 50, 51, 52, 53, 54, 55, 56] (by decide +kernel) (by decide +kernel)
set_option maxRecDepth 20000 in
theorem gX4_friction_X3_save : GoodIn wsX4_friction (wsV RX4 40 RX3 yX3_save wsX3_save) := goodIn_app (goodIn_of _ (by decide +kernel)) ggX4_friction_X3_save
theorem dX4_friction_0 : decode cX4_friction 0 = .ok (.iload_n 1, 1) := by decide +kernel
theorem dX4_friction_1 : decode cX4_friction 1 = .ok (.invokestatic 33, 3) := by decide +kernel
theorem dX4_friction_4 : decode cX4_friction 4 = .ok (.iload_n 2, 1) := by decide +kernel
theorem dX4_friction_5 : decode cX4_friction 5 = .ok (.iconst 0, 1) := by decide +kernel
theorem dX4_friction_6 : decode cX4_friction 6 = .ok (.sipush 999, 3) := by decide +kernel
theorem dX4_friction_9 : decode cX4_friction 9 = .ok (.invokestatic 51, 3) := by decide +kernel
theorem dX4_friction_12 : decode cX4_friction 12 = .ok (.aload_n 0, 1) := by decide +kernel
theorem dX4_friction_13 : decode cX4_friction 13 = .ok (.getfield 22, 3) := by decide +kernel
theorem dX4_friction_16 : decode cX4_friction 16 = .ok (.aload_n 0, 1) := by decide +kernel
theorem dX4_friction_17 : decode cX4_friction 17 = .ok (.getfield 12, 3) := by decide +kernel
theorem dX4_friction_20 : decode cX4_friction 20 = .ok (.invokevirtual 40, 3) := by decide +kernel
theorem dX4_friction_23 : decode cX4_friction 23 = .ok (.aload_n 0, 1) := by decide +kernel
theorem dX4_friction_24 : decode cX4_friction 24 = .ok (.getfield 12, 3) := by decide +kernel
theorem dX4_friction_27 : decode cX4_friction 27 = .ok (.getfield 55, 3) := by decide +kernel
theorem dX4_friction_30 : decode cX4_friction 30 = .ok (.iload_n 1, 1) := by decide +kernel
theorem dX4_friction_31 : decode cX4_friction 31 = .ok (.iaload, 1) := by decide +kernel
theorem dX4_friction_32 : decode cX4_friction 32 = .ok (.istore_n 3, 1) := by decide +kernel
theorem dX4_friction_33 : decode cX4_friction 33 = .ok (.aload_n 0, 1) := by decide +kernel
theorem dX4_friction_34 : decode cX4_friction 34 = .ok (.getfield 12, 3) := by decide +kernel
theorem dX4_friction_37 : decode cX4_friction 37 = .ok (.getfield 55, 3) := by decide +kernel
theorem dX4_friction_40 : decode cX4_friction 40 = .ok (.iload_n 1, 1) := by decide +kernel
theorem dX4_friction_41 : decode cX4_friction 41 = .ok (.iload_n 2, 1) := by decide +kernel
theorem dX4_friction_42 : decode cX4_friction 42 = .ok (.iastore, 1) := by decide +kernel
theorem dX4_friction_43 : decode cX4_friction 43 = .ok (.iload_n 3, 1) := by decide +kernel
theorem dX4_friction_44 : decode cX4_friction 44 = .ok (.ireturn, 1) := by decide +kernel
set_option maxRecDepth 20000 in
theorem ggX4_hold_X4_requireCell : GoodIn wsX4_hold wsX4_requireCell := goodIn_ca (goodIn_r _ [6, 7, 8] (by decide +kernel) (by decide +kernel)) (goodIn_sub (fun _ h => List.mem_cons_of_mem _ (List.mem_append_right _ h)) (by decide +kernel))
set_option maxRecDepth 20000 in
theorem gX4_hold_X4_requireCell : GoodIn wsX4_hold (va_wsS RX4 33 yX4_requireCell wsX4_requireCell) := goodIn_app (goodIn_of _ (by decide +kernel)) ggX4_hold_X4_requireCell
set_option maxRecDepth 20000 in
theorem ggX4_hold_X3_save : GoodIn wsX4_hold wsX3_save := goodIn_r _ [13, 14, 15, 16, 17, 18, 19, 20, 21, 22, 23, 24, 25, 26, 27, 28, 29, 30, 31, 32, 33, 34, 52, 53, 54, 39, 40, 41, 42, 43, 44, 45, 46, 47, 48, 49, 50, 51] (by decide +kernel) (by decide +kernel)
set_option maxRecDepth 20000 in
theorem gX4_hold_X3_save : GoodIn wsX4_hold (wsV RX4 40 RX3 yX3_save wsX3_save) := goodIn_app (goodIn_of _ (by decide +kernel)) ggX4_hold_X3_save
theorem dX4_hold_0 : decode cX4_hold 0 = .ok (.iload_n 1, 1) := by decide +kernel
theorem dX4_hold_1 : decode cX4_hold 1 = .ok (.invokestatic 33, 3) := by decide +kernel
theorem dX4_hold_4 : decode cX4_hold 4 = .ok (.aload_n 0, 1) := by decide +kernel
theorem dX4_hold_5 : decode cX4_hold 5 = .ok (.getfield 22, 3) := by decide +kernel
theorem dX4_hold_8 : decode cX4_hold 8 = .ok (.aload_n 0, 1) := by decide +kernel
theorem dX4_hold_9 : decode cX4_hold 9 = .ok (.getfield 12, 3) := by decide +kernel
theorem dX4_hold_12 : decode cX4_hold 12 = .ok (.invokevirtual 40, 3) := by decide +kernel
theorem dX4_hold_15 : decode cX4_hold 15 = .ok (.aload_n 0, 1) := by decide +kernel
theorem dX4_hold_16 : decode cX4_hold 16 = .ok (.getfield 12, 3) := by decide +kernel
theorem dX4_hold_19 : decode cX4_hold 19 = .ok (.getfield 58, 3) := by decide +kernel
theorem dX4_hold_22 : decode cX4_hold 22 = .ok (.iload_n 1, 1) := by decide +kernel
theorem dX4_hold_23 : decode cX4_hold 23 = .ok (.baload, 1) := by decide +kernel
theorem dX4_hold_24 : decode cX4_hold 24 = .ok (.ifCond .eq 7, 3) := by decide +kernel
theorem dX4_hold_27 : decode cX4_hold 27 = .ok (.iconst 1, 1) := by decide +kernel
theorem dX4_hold_28 : decode cX4_hold 28 = .ok (.goto 4, 3) := by decide +kernel
theorem dX4_hold_31 : decode cX4_hold 31 = .ok (.iconst 0, 1) := by decide +kernel
theorem dX4_hold_32 : decode cX4_hold 32 = .ok (.istore_n 3, 1) := by decide +kernel
theorem dX4_hold_33 : decode cX4_hold 33 = .ok (.aload_n 0, 1) := by decide +kernel
theorem dX4_hold_34 : decode cX4_hold 34 = .ok (.getfield 12, 3) := by decide +kernel
theorem dX4_hold_37 : decode cX4_hold 37 = .ok (.getfield 58, 3) := by decide +kernel
theorem dX4_hold_40 : decode cX4_hold 40 = .ok (.iload_n 1, 1) := by decide +kernel
theorem dX4_hold_41 : decode cX4_hold 41 = .ok (.iload_n 2, 1) := by decide +kernel
theorem dX4_hold_42 : decode cX4_hold 42 = .ok (.bastore, 1) := by decide +kernel
theorem dX4_hold_43 : decode cX4_hold 43 = .ok (.iload_n 3, 1) := by decide +kernel
theorem dX4_hold_44 : decode cX4_hold 44 = .ok (.ireturn, 1) := by decide +kernel
set_option maxRecDepth 20000 in
theorem ggX4_swap_X4_requireCell : GoodIn wsX4_swap wsX4_requireCell := goodIn_ca (goodIn_r _ [6, 7, 8] (by decide +kernel) (by decide +kernel)) (goodIn_sub (fun _ h => List.mem_cons_of_mem _ (List.mem_append_right _ h)) (by decide +kernel))
set_option maxRecDepth 20000 in
theorem gX4_swap_X4_requireCell : GoodIn wsX4_swap (va_wsS RX4 33 yX4_requireCell wsX4_requireCell) := goodIn_app (goodIn_of _ (by decide +kernel)) ggX4_swap_X4_requireCell
set_option maxRecDepth 20000 in
theorem ggX4_swap_X3_save : GoodIn wsX4_swap wsX3_save := goodIn_r _ [13, 14, 15, 16, 17, 18, 19, 20, 21, 22, 23, 24, 25, 26, 27, 28, 29, 30, 31, 32, 33, 34, 73, 74, 75, 60, 61, 62, 63, 64, 65, 66, 67, 68, 69, 70, 71, 72] (by decide +kernel) (by decide +kernel)
set_option maxRecDepth 20000 in
theorem gX4_swap_X3_save : GoodIn wsX4_swap (wsV RX4 40 RX3 yX3_save wsX3_save) := goodIn_app (goodIn_of _ (by decide +kernel)) ggX4_swap_X3_save
set_option maxRecDepth 20000 in
theorem ggX4_swap_X4_exchange : GoodIn wsX4_swap wsX4_exchange := goodIn_r _ [37] (by decide +kernel) (by decide +kernel)
set_option maxRecDepth 20000 in
theorem gX4_swap_X4_exchange : GoodIn wsX4_swap (va_wsS RX4 62 yX4_exchange wsX4_exchange) := goodIn_app (goodIn_of _ (by decide +kernel)) ggX4_swap_X4_exchange
set_option maxRecDepth 20000 in
theorem ggX4_swap_X2_measureField : GoodIn wsX4_swap wsX2_measureField := goodIn_r _ [41, 29, 27, 30, 28, 42, 43, 44, 20, 45, 31, 22, 46, 5, 47, 48, 49, 50, 51, 52, 53, 54, 55, 60, 61, 62, 63, 64, 65, 66, 67, 68, 69, 70, 71, 72] (by decide +kernel) (by decide +kernel)
set_option maxRecDepth 20000 in
theorem gX4_swap_X2_measureField : GoodIn wsX4_swap (wsV RX4 48 RX2 yX2_measureField wsX2_measureField) := goodIn_app (goodIn_of _ (by decide +kernel)) ggX4_swap_X2_measureField
theorem dX4_swap_0 : decode cX4_swap 0 = .ok (.iload_n 1, 1) := by decide +kernel
theorem dX4_swap_1 : decode cX4_swap 1 = .ok (.invokestatic 33, 3) := by decide +kernel
theorem dX4_swap_4 : decode cX4_swap 4 = .ok (.iload_n 2, 1) := by decide +kernel
theorem dX4_swap_5 : decode cX4_swap 5 = .ok (.invokestatic 33, 3) := by decide +kernel
theorem dX4_swap_8 : decode cX4_swap 8 = .ok (.aload_n 0, 1) := by decide +kernel
theorem dX4_swap_9 : decode cX4_swap 9 = .ok (.getfield 22, 3) := by decide +kernel
theorem dX4_swap_12 : decode cX4_swap 12 = .ok (.aload_n 0, 1) := by decide +kernel
theorem dX4_swap_13 : decode cX4_swap 13 = .ok (.getfield 12, 3) := by decide +kernel
theorem dX4_swap_16 : decode cX4_swap 16 = .ok (.invokevirtual 40, 3) := by decide +kernel
theorem dX4_swap_19 : decode cX4_swap 19 = .ok (.aload_n 0, 1) := by decide +kernel
theorem dX4_swap_20 : decode cX4_swap 20 = .ok (.getfield 12, 3) := by decide +kernel
theorem dX4_swap_23 : decode cX4_swap 23 = .ok (.getfield 44, 3) := by decide +kernel
theorem dX4_swap_26 : decode cX4_swap 26 = .ok (.iload_n 1, 1) := by decide +kernel
theorem dX4_swap_27 : decode cX4_swap 27 = .ok (.iload_n 2, 1) := by decide +kernel
theorem dX4_swap_28 : decode cX4_swap 28 = .ok (.invokestatic 62, 3) := by decide +kernel
theorem dX4_swap_31 : decode cX4_swap 31 = .ok (.aload_n 0, 1) := by decide +kernel
theorem dX4_swap_32 : decode cX4_swap 32 = .ok (.getfield 12, 3) := by decide +kernel
theorem dX4_swap_35 : decode cX4_swap 35 = .ok (.getfield 55, 3) := by decide +kernel
theorem dX4_swap_38 : decode cX4_swap 38 = .ok (.iload_n 1, 1) := by decide +kernel
theorem dX4_swap_39 : decode cX4_swap 39 = .ok (.iload_n 2, 1) := by decide +kernel
theorem dX4_swap_40 : decode cX4_swap 40 = .ok (.invokestatic 62, 3) := by decide +kernel
theorem dX4_swap_43 : decode cX4_swap 43 = .ok (.aload_n 0, 1) := by decide +kernel
theorem dX4_swap_44 : decode cX4_swap 44 = .ok (.getfield 12, 3) := by decide +kernel
theorem dX4_swap_47 : decode cX4_swap 47 = .ok (.invokevirtual 48, 3) := by decide +kernel
theorem dX4_swap_50 : decode cX4_swap 50 = .ok (.aload_n 0, 1) := by decide +kernel
theorem dX4_swap_51 : decode cX4_swap 51 = .ok (.getfield 12, 3) := by decide +kernel
theorem dX4_swap_54 : decode cX4_swap 54 = .ok (.getfield 44, 3) := by decide +kernel
theorem dX4_swap_57 : decode cX4_swap 57 = .ok (.iload_n 1, 1) := by decide +kernel
theorem dX4_swap_58 : decode cX4_swap 58 = .ok (.iaload, 1) := by decide +kernel
theorem dX4_swap_59 : decode cX4_swap 59 = .ok (.ireturn, 1) := by decide +kernel
set_option maxRecDepth 20000 in
theorem ggX4_bar_X4_requireCell : GoodIn wsX4_bar wsX4_requireCell := goodIn_ca (goodIn_r _ [8, 9, 10] (by decide +kernel) (by decide +kernel)) (goodIn_sub (fun _ h => List.mem_cons_of_mem _ (List.mem_append_left _ (List.mem_append_right _ h))) (by decide +kernel))
set_option maxRecDepth 20000 in
theorem gX4_bar_X4_requireCell : GoodIn wsX4_bar (va_wsS RX4 33 yX4_requireCell wsX4_requireCell) := goodIn_app (goodIn_of _ (by decide +kernel)) ggX4_bar_X4_requireCell
set_option maxRecDepth 20000 in
theorem ggX4_bar_X4_requireDirection : GoodIn wsX4_bar wsX4_requireDirection := goodIn_ca (goodIn_r _ [13, 14, 15, 7, 16, 17, 18] (by decide +kernel) (by decide +kernel)) (goodIn_sub (fun _ h => List.mem_cons_of_mem _ (List.mem_append_right _ h)) (by decide +kernel))
set_option maxRecDepth 20000 in
theorem gX4_bar_X4_requireDirection : GoodIn wsX4_bar (va_wsS RX4 37 yX4_requireDirection wsX4_requireDirection) := goodIn_app (goodIn_of _ (by decide +kernel)) ggX4_bar_X4_requireDirection
set_option maxRecDepth 20000 in
theorem ggX4_bar_X4_requireBetween : GoodIn wsX4_bar wsX4_requireBetween := goodIn_ca (goodIn_r _ [16, 17, 18] (by decide +kernel) (by decide +kernel)) (goodIn_sub (fun _ h => List.mem_cons_of_mem _ (List.mem_append_right _ h)) (by decide +kernel))
set_option maxRecDepth 20000 in
theorem gX4_bar_X4_requireBetween : GoodIn wsX4_bar (va_wsS RX4 51 yX4_requireBetween wsX4_requireBetween) := goodIn_app (goodIn_of _ (by decide +kernel)) ggX4_bar_X4_requireBetween
set_option maxRecDepth 20000 in
theorem ggX4_bar_X2_hasBar : GoodIn wsX4_bar wsX2_hasBar := goodIn_r _ [23, 24, 92, 93, 94, 95, 96, 97, 98, 99, 100, 101, 102, 103, 104] (by decide +kernel) (by decide +kernel)
set_option maxRecDepth 20000 in
theorem gX4_bar_X2_hasBar : GoodIn wsX4_bar (wsV RX4 66 RX2 yX2_hasBar wsX2_hasBar) := goodIn_app (goodIn_of _ (by decide +kernel)) ggX4_bar_X2_hasBar
set_option maxRecDepth 20000 in
theorem ggX4_bar_X2_barCount : GoodIn wsX4_bar wsX2_barCount := goodIn_r _ [28, 29, 20, 21, 22, 23, 24, 92, 93, 94, 95, 96, 97, 98, 99, 100, 101, 102, 103, 104] (by decide +kernel) (by decide +kernel)
set_option maxRecDepth 20000 in
theorem gX4_bar_X2_barCount : GoodIn wsX4_bar (wsV RX4 70 RX2 yX2_barCount wsX2_barCount) := goodIn_app (goodIn_of _ (by decide +kernel)) ggX4_bar_X2_barCount
set_option maxRecDepth 20000 in
theorem ggX4_bar_X3_save : GoodIn wsX4_bar wsX3_save := goodIn_r _ [34, 35, 36, 37, 38, 39, 40, 22, 41, 42, 43, 44, 45, 24, 46, 47, 48, 49, 50, 51, 52, 53, 105, 106, 107, 92, 93, 94, 95, 96, 97, 98, 99, 100, 101, 102, 103, 104] (by decide +kernel) (by decide +kernel)
set_option maxRecDepth 20000 in
theorem gX4_bar_X3_save : GoodIn wsX4_bar (wsV RX4 40 RX3 yX3_save wsX3_save) := goodIn_app (goodIn_of _ (by decide +kernel)) ggX4_bar_X3_save
set_option maxRecDepth 20000 in
theorem ggX4_bar_X2_layBar : GoodIn wsX4_bar wsX2_layBar := goodIn_r _ [57, 45, 24, 92, 93, 94, 95, 96, 97, 98, 99, 100, 101, 102, 103, 104] (by decide +kernel) (by decide +kernel)
set_option maxRecDepth 20000 in
theorem gX4_bar_X2_layBar : GoodIn wsX4_bar (wsV RX4 81 RX2 yX2_layBar wsX2_layBar) := goodIn_app (goodIn_of _ (by decide +kernel)) ggX4_bar_X2_layBar
set_option maxRecDepth 20000 in
theorem ggX4_bar_X2_measureAll : GoodIn wsX4_bar wsX2_measureAll := goodIn_r _ [61, 50, 51, 52, 46, 47, 62, 7, 63, 64, 65, 66, 67, 29, 20, 21, 22, 23, 24, 68, 69, 70, 71, 45, 72, 73, 74, 75, 76, 77, 78, 79, 48, 49, 80, 81, 82, 83, 42, 84, 85, 86, 87, 92, 93, 94, 95, 96, 97, 98, 99, 100, 101, 102, 103, 104] (by decide +kernel) (by decide +kernel)
set_option maxRecDepth 20000 in
theorem gX4_bar_X2_measureAll : GoodIn wsX4_bar (wsV RX4 84 RX2 yX2_measureAll wsX2_measureAll) := goodIn_app (goodIn_of _ (by decide +kernel)) ggX4_bar_X2_measureAll
theorem dX4_bar_0 : decode cX4_bar 0 = .ok (.iload_n 1, 1) := by decide +kernel
theorem dX4_bar_1 : decode cX4_bar 1 = .ok (.invokestatic 33, 3) := by decide +kernel
theorem dX4_bar_4 : decode cX4_bar 4 = .ok (.iload_n 2, 1) := by decide +kernel
theorem dX4_bar_5 : decode cX4_bar 5 = .ok (.invokestatic 37, 3) := by decide +kernel
theorem dX4_bar_8 : decode cX4_bar 8 = .ok (.iload_n 3, 1) := by decide +kernel
theorem dX4_bar_9 : decode cX4_bar 9 = .ok (.iconst 1, 1) := by decide +kernel
theorem dX4_bar_10 : decode cX4_bar 10 = .ok (.bipush 50, 2) := by decide +kernel
theorem dX4_bar_12 : decode cX4_bar 12 = .ok (.invokestatic 51, 3) := by decide +kernel
theorem dX4_bar_15 : decode cX4_bar 15 = .ok (.aload_n 0, 1) := by decide +kernel
theorem dX4_bar_16 : decode cX4_bar 16 = .ok (.getfield 12, 3) := by decide +kernel
theorem dX4_bar_19 : decode cX4_bar 19 = .ok (.iload_n 1, 1) := by decide +kernel
theorem dX4_bar_20 : decode cX4_bar 20 = .ok (.invokevirtual 66, 3) := by decide +kernel
theorem dX4_bar_23 : decode cX4_bar 23 = .ok (.ifCond .ne 25, 3) := by decide +kernel
theorem dX4_bar_26 : decode cX4_bar 26 = .ok (.aload_n 0, 1) := by decide +kernel
theorem dX4_bar_27 : decode cX4_bar 27 = .ok (.getfield 12, 3) := by decide +kernel
theorem dX4_bar_30 : decode cX4_bar 30 = .ok (.invokevirtual 70, 3) := by decide +kernel
theorem dX4_bar_33 : decode cX4_bar 33 = .ok (.bipush 6, 2) := by decide +kernel
theorem dX4_bar_35 : decode cX4_bar 35 = .ok (.if_icmp .lt 13, 3) := by decide +kernel
theorem dX4_bar_38 : decode cX4_bar 38 = .ok (.new 74, 3) := by decide +kernel
theorem dX4_bar_41 : decode cX4_bar 41 = .ok (.dup, 1) := by decide +kernel
theorem dX4_bar_42 : decode cX4_bar 42 = .ok (.ldc 76, 2) := by decide +kernel
theorem dX4_bar_44 : decode cX4_bar 44 = .ok (.invokespecial 78, 3) := by decide +kernel
theorem dX4_bar_47 : decode cX4_bar 47 = .ok (.athrow, 1) := by decide +kernel
theorem dX4_bar_48 : decode cX4_bar 48 = .ok (.aload_n 0, 1) := by decide +kernel
theorem dX4_bar_49 : decode cX4_bar 49 = .ok (.getfield 22, 3) := by decide +kernel
theorem dX4_bar_52 : decode cX4_bar 52 = .ok (.aload_n 0, 1) := by decide +kernel
theorem dX4_bar_53 : decode cX4_bar 53 = .ok (.getfield 12, 3) := by decide +kernel
theorem dX4_bar_56 : decode cX4_bar 56 = .ok (.invokevirtual 40, 3) := by decide +kernel
theorem dX4_bar_59 : decode cX4_bar 59 = .ok (.aload_n 0, 1) := by decide +kernel
theorem dX4_bar_60 : decode cX4_bar 60 = .ok (.getfield 12, 3) := by decide +kernel
theorem dX4_bar_63 : decode cX4_bar 63 = .ok (.iload_n 1, 1) := by decide +kernel
theorem dX4_bar_64 : decode cX4_bar 64 = .ok (.iload_n 2, 1) := by decide +kernel
theorem dX4_bar_65 : decode cX4_bar 65 = .ok (.iload_n 3, 1) := by decide +kernel
theorem dX4_bar_66 : decode cX4_bar 66 = .ok (.invokevirtual 81, 3) := by decide +kernel
theorem dX4_bar_69 : decode cX4_bar 69 = .ok (.aload_n 0, 1) := by decide +kernel
theorem dX4_bar_70 : decode cX4_bar 70 = .ok (.getfield 12, 3) := by decide +kernel
theorem dX4_bar_73 : decode cX4_bar 73 = .ok (.invokevirtual 84, 3) := by decide +kernel
theorem dX4_bar_76 : decode cX4_bar 76 = .ok (.aload_n 0, 1) := by decide +kernel
theorem dX4_bar_77 : decode cX4_bar 77 = .ok (.getfield 12, 3) := by decide +kernel
theorem dX4_bar_80 : decode cX4_bar 80 = .ok (.invokevirtual 70, 3) := by decide +kernel
theorem dX4_bar_83 : decode cX4_bar 83 = .ok (.ireturn, 1) := by decide +kernel
set_option maxRecDepth 20000 in
theorem ggX4_unbar_X4_requireCell : GoodIn wsX4_unbar wsX4_requireCell := goodIn_ca (goodIn_r _ [8, 9, 10] (by decide +kernel) (by decide +kernel)) (goodIn_sub (fun _ h => List.mem_cons_of_mem _ (List.mem_append_right _ h)) (by decide +kernel))
set_option maxRecDepth 20000 in
theorem gX4_unbar_X4_requireCell : GoodIn wsX4_unbar (va_wsS RX4 33 yX4_requireCell wsX4_requireCell) := goodIn_app (goodIn_of _ (by decide +kernel)) ggX4_unbar_X4_requireCell
set_option maxRecDepth 20000 in
theorem ggX4_unbar_X2_hasBar : GoodIn wsX4_unbar wsX2_hasBar := goodIn_r _ [15, 16, 88, 89, 90, 91, 92, 93, 94, 95, 96, 97, 98, 99, 100] (by decide +kernel) (by decide +kernel)
set_option maxRecDepth 20000 in
theorem gX4_unbar_X2_hasBar : GoodIn wsX4_unbar (wsV RX4 66 RX2 yX2_hasBar wsX2_hasBar) := goodIn_app (goodIn_of _ (by decide +kernel)) ggX4_unbar_X2_hasBar
set_option maxRecDepth 20000 in
theorem ggX4_unbar_X3_save : GoodIn wsX4_unbar wsX3_save := goodIn_r _ [21, 22, 23, 24, 25, 26, 27, 14, 28, 29, 30, 31, 32, 16, 33, 34, 35, 36, 37, 38, 39, 40, 101, 102, 103, 88, 89, 90, 91, 92, 93, 94, 95, 96, 97, 98, 99, 100] (by decide +kernel) (by decide +kernel)
set_option maxRecDepth 20000 in
theorem gX4_unbar_X3_save : GoodIn wsX4_unbar (wsV RX4 40 RX3 yX3_save wsX3_save) := goodIn_app (goodIn_of _ (by decide +kernel)) ggX4_unbar_X3_save
set_option maxRecDepth 20000 in
theorem ggX4_unbar_X2_takeBar : GoodIn wsX4_unbar wsX2_takeBar := goodIn_r _ [44, 45, 46, 47, 14, 48, 32, 16, 88, 89, 90, 91, 92, 93, 94, 95, 96, 97, 98, 99, 100] (by decide +kernel) (by decide +kernel)
set_option maxRecDepth 20000 in
theorem gX4_unbar_X2_takeBar : GoodIn wsX4_unbar (wsV RX4 89 RX2 yX2_takeBar wsX2_takeBar) := goodIn_app (goodIn_of _ (by decide +kernel)) ggX4_unbar_X2_takeBar
set_option maxRecDepth 20000 in
theorem ggX4_unbar_X2_measureAll : GoodIn wsX4_unbar wsX2_measureAll := goodIn_r _ [52, 37, 38, 39, 33, 34, 53, 7, 54, 55, 56, 57, 58, 59, 12, 13, 14, 15, 16, 60, 61, 62, 63, 32, 64, 65, 66, 67, 68, 69, 70, 71, 35, 36, 72, 73, 74, 75, 29, 76, 77, 78, 79, 88, 89, 90, 91, 92, 93, 94, 95, 96, 97, 98, 99, 100] (by decide +kernel) (by decide +kernel)
set_option maxRecDepth 20000 in
theorem gX4_unbar_X2_measureAll : GoodIn wsX4_unbar (wsV RX4 84 RX2 yX2_measureAll wsX2_measureAll) := goodIn_app (goodIn_of _ (by decide +kernel)) ggX4_unbar_X2_measureAll
set_option maxRecDepth 20000 in
theorem ggX4_unbar_X2_barCount : GoodIn wsX4_unbar wsX2_barCount := goodIn_r _ [83, 59, 12, 13, 14, 15, 16, 88, 89, 90, 91, 92, 93, 94, 95, 96, 97, 98, 99, 100] (by decide +kernel) (by decide +kernel)
set_option maxRecDepth 20000 in
theorem gX4_unbar_X2_barCount : GoodIn wsX4_unbar (wsV RX4 70 RX2 yX2_barCount wsX2_barCount) := goodIn_app (goodIn_of _ (by decide +kernel)) ggX4_unbar_X2_barCount
theorem dX4_unbar_0 : decode cX4_unbar 0 = .ok (.iload_n 1, 1) := by decide +kernel
theorem dX4_unbar_1 : decode cX4_unbar 1 = .ok (.invokestatic 33, 3) := by decide +kernel
theorem dX4_unbar_4 : decode cX4_unbar 4 = .ok (.aload_n 0, 1) := by decide +kernel
theorem dX4_unbar_5 : decode cX4_unbar 5 = .ok (.getfield 12, 3) := by decide +kernel
theorem dX4_unbar_8 : decode cX4_unbar 8 = .ok (.iload_n 1, 1) := by decide +kernel
theorem dX4_unbar_9 : decode cX4_unbar 9 = .ok (.invokevirtual 66, 3) := by decide +kernel
theorem dX4_unbar_12 : decode cX4_unbar 12 = .ok (.ifCond .ne 13, 3) := by decide +kernel
theorem dX4_unbar_15 : decode cX4_unbar 15 = .ok (.new 74, 3) := by decide +kernel
theorem dX4_unbar_18 : decode cX4_unbar 18 = .ok (.dup, 1) := by decide +kernel
theorem dX4_unbar_19 : decode cX4_unbar 19 = .ok (.ldc 87, 2) := by decide +kernel
theorem dX4_unbar_21 : decode cX4_unbar 21 = .ok (.invokespecial 78, 3) := by decide +kernel
theorem dX4_unbar_24 : decode cX4_unbar 24 = .ok (.athrow, 1) := by decide +kernel
theorem dX4_unbar_25 : decode cX4_unbar 25 = .ok (.aload_n 0, 1) := by decide +kernel
theorem dX4_unbar_26 : decode cX4_unbar 26 = .ok (.getfield 22, 3) := by decide +kernel
theorem dX4_unbar_29 : decode cX4_unbar 29 = .ok (.aload_n 0, 1) := by decide +kernel
theorem dX4_unbar_30 : decode cX4_unbar 30 = .ok (.getfield 12, 3) := by decide +kernel
theorem dX4_unbar_33 : decode cX4_unbar 33 = .ok (.invokevirtual 40, 3) := by decide +kernel
theorem dX4_unbar_36 : decode cX4_unbar 36 = .ok (.aload_n 0, 1) := by decide +kernel
theorem dX4_unbar_37 : decode cX4_unbar 37 = .ok (.getfield 12, 3) := by decide +kernel
theorem dX4_unbar_40 : decode cX4_unbar 40 = .ok (.iload_n 1, 1) := by decide +kernel
theorem dX4_unbar_41 : decode cX4_unbar 41 = .ok (.invokevirtual 89, 3) := by decide +kernel
theorem dX4_unbar_44 : decode cX4_unbar 44 = .ok (.aload_n 0, 1) := by decide +kernel
theorem dX4_unbar_45 : decode cX4_unbar 45 = .ok (.getfield 12, 3) := by decide +kernel
theorem dX4_unbar_48 : decode cX4_unbar 48 = .ok (.invokevirtual 84, 3) := by decide +kernel
theorem dX4_unbar_51 : decode cX4_unbar 51 = .ok (.aload_n 0, 1) := by decide +kernel
theorem dX4_unbar_52 : decode cX4_unbar 52 = .ok (.getfield 12, 3) := by decide +kernel
theorem dX4_unbar_55 : decode cX4_unbar 55 = .ok (.invokevirtual 70, 3) := by decide +kernel
theorem dX4_unbar_58 : decode cX4_unbar 58 = .ok (.ireturn, 1) := by decide +kernel
set_option maxRecDepth 20000 in
theorem ggX4_coil_X4_requireBetween : GoodIn wsX4_coil wsX4_requireBetween := goodIn_ca (goodIn_r _ [6, 7, 8] (by decide +kernel) (by decide +kernel)) (goodIn_sub (fun _ h => List.mem_cons_of_mem _ (List.mem_append_right _ h)) (by decide +kernel))
set_option maxRecDepth 20000 in
theorem gX4_coil_X4_requireBetween : GoodIn wsX4_coil (va_wsS RX4 51 yX4_requireBetween wsX4_requireBetween) := goodIn_app (goodIn_of _ (by decide +kernel)) ggX4_coil_X4_requireBetween
set_option maxRecDepth 20000 in
theorem ggX4_coil_X4_requireDirection : GoodIn wsX4_coil wsX4_requireDirection := goodIn_ca (goodIn_r _ [11, 3, 4, 5, 6, 7, 8] (by decide +kernel) (by decide +kernel)) (goodIn_sub (fun _ h => List.mem_cons_of_mem _ (List.mem_append_right _ h)) (by decide +kernel))
set_option maxRecDepth 20000 in
theorem gX4_coil_X4_requireDirection : GoodIn wsX4_coil (va_wsS RX4 37 yX4_requireDirection wsX4_requireDirection) := goodIn_app (goodIn_of _ (by decide +kernel)) ggX4_coil_X4_requireDirection
set_option maxRecDepth 20000 in
theorem ggX4_coil_X3_save : GoodIn wsX4_coil wsX3_save := goodIn_r _ [16, 17, 18, 19, 20, 21, 22, 23, 24, 25, 26, 27, 28, 29, 30, 31, 32, 33, 34, 35, 36, 37, 89, 90, 91, 76, 77, 78, 79, 80, 81, 82, 83, 84, 85, 86, 87, 88] (by decide +kernel) (by decide +kernel)
set_option maxRecDepth 20000 in
theorem gX4_coil_X3_save : GoodIn wsX4_coil (wsV RX4 40 RX3 yX3_save wsX3_save) := goodIn_app (goodIn_of _ (by decide +kernel)) ggX4_coil_X3_save
set_option maxRecDepth 20000 in
theorem ggX4_coil_X2_measureAll : GoodIn wsX4_coil wsX2_measureAll := goodIn_r _ [41, 34, 35, 36, 30, 31, 42, 5, 43, 44, 45, 46, 47, 48, 49, 50, 23, 51, 29, 52, 53, 54, 55, 28, 56, 57, 58, 59, 60, 61, 62, 63, 32, 33, 64, 65, 66, 67, 25, 68, 69, 70, 71, 76, 77, 78, 79, 80, 81, 82, 83, 84, 85, 86, 87, 88] (by decide +kernel) (by decide +kernel)
set_option maxRecDepth 20000 in
theorem gX4_coil_X2_measureAll : GoodIn wsX4_coil (wsV RX4 84 RX2 yX2_measureAll wsX2_measureAll) := goodIn_app (goodIn_of _ (by decide +kernel)) ggX4_coil_X2_measureAll
theorem dX4_coil_0 : decode cX4_coil 0 = .ok (.iload_n 1, 1) := by decide +kernel
theorem dX4_coil_1 : decode cX4_coil 1 = .ok (.iconst 0, 1) := by decide +kernel
theorem dX4_coil_2 : decode cX4_coil 2 = .ok (.bipush 50, 2) := by decide +kernel
theorem dX4_coil_4 : decode cX4_coil 4 = .ok (.invokestatic 51, 3) := by decide +kernel
theorem dX4_coil_7 : decode cX4_coil 7 = .ok (.iload_n 2, 1) := by decide +kernel
theorem dX4_coil_8 : decode cX4_coil 8 = .ok (.invokestatic 37, 3) := by decide +kernel
theorem dX4_coil_11 : decode cX4_coil 11 = .ok (.aload_n 0, 1) := by decide +kernel
theorem dX4_coil_12 : decode cX4_coil 12 = .ok (.getfield 22, 3) := by decide +kernel
theorem dX4_coil_15 : decode cX4_coil 15 = .ok (.aload_n 0, 1) := by decide +kernel
theorem dX4_coil_16 : decode cX4_coil 16 = .ok (.getfield 12, 3) := by decide +kernel
theorem dX4_coil_19 : decode cX4_coil 19 = .ok (.invokevirtual 40, 3) := by decide +kernel
theorem dX4_coil_22 : decode cX4_coil 22 = .ok (.aload_n 0, 1) := by decide +kernel
theorem dX4_coil_23 : decode cX4_coil 23 = .ok (.getfield 12, 3) := by decide +kernel
theorem dX4_coil_26 : decode cX4_coil 26 = .ok (.getfield 92, 3) := by decide +kernel
theorem dX4_coil_29 : decode cX4_coil 29 = .ok (.istore_n 3, 1) := by decide +kernel
theorem dX4_coil_30 : decode cX4_coil 30 = .ok (.aload_n 0, 1) := by decide +kernel
theorem dX4_coil_31 : decode cX4_coil 31 = .ok (.getfield 12, 3) := by decide +kernel
theorem dX4_coil_34 : decode cX4_coil 34 = .ok (.iload_n 1, 1) := by decide +kernel
theorem dX4_coil_35 : decode cX4_coil 35 = .ok (.putfield 92, 3) := by decide +kernel
theorem dX4_coil_38 : decode cX4_coil 38 = .ok (.aload_n 0, 1) := by decide +kernel
theorem dX4_coil_39 : decode cX4_coil 39 = .ok (.getfield 12, 3) := by decide +kernel
theorem dX4_coil_42 : decode cX4_coil 42 = .ok (.iload_n 2, 1) := by decide +kernel
theorem dX4_coil_43 : decode cX4_coil 43 = .ok (.putfield 96, 3) := by decide +kernel
theorem dX4_coil_46 : decode cX4_coil 46 = .ok (.aload_n 0, 1) := by decide +kernel
theorem dX4_coil_47 : decode cX4_coil 47 = .ok (.getfield 12, 3) := by decide +kernel
theorem dX4_coil_50 : decode cX4_coil 50 = .ok (.invokevirtual 84, 3) := by decide +kernel
theorem dX4_coil_53 : decode cX4_coil 53 = .ok (.iload_n 3, 1) := by decide +kernel
theorem dX4_coil_54 : decode cX4_coil 54 = .ok (.ireturn, 1) := by decide +kernel
set_option maxRecDepth 20000 in
theorem ggX4_set_X4_requireSetting : GoodIn wsX4_set wsX4_requireSetting := goodIn_ca (goodIn_r _ [7, 8, 9] (by decide +kernel) (by decide +kernel)) (goodIn_sub (fun _ h => List.mem_cons_of_mem _ (List.mem_append_left _ (List.mem_append_right _ h))) (by decide +kernel))
set_option maxRecDepth 20000 in
theorem gX4_set_X4_requireSetting : GoodIn wsX4_set (va_wsS RX4 99 yX4_requireSetting wsX4_requireSetting) := goodIn_app (goodIn_of _ (by decide +kernel)) ggX4_set_X4_requireSetting
set_option maxRecDepth 20000 in
theorem ggX4_set_X4_requireBetween : GoodIn wsX4_set wsX4_requireBetween := goodIn_ca (goodIn_r _ [12, 13, 14] (by decide +kernel) (by decide +kernel)) (goodIn_sub (fun _ h => List.mem_cons_of_mem _ (List.mem_append_right _ h)) (by decide +kernel))
set_option maxRecDepth 20000 in
theorem gX4_set_X4_requireBetween : GoodIn wsX4_set (va_wsS RX4 51 yX4_requireBetween wsX4_requireBetween) := goodIn_app (goodIn_of _ (by decide +kernel)) ggX4_set_X4_requireBetween
set_option maxRecDepth 20000 in
theorem ggX4_set_X3_save : GoodIn wsX4_set wsX3_save := goodIn_r _ [19, 20, 21, 22, 23, 24, 25, 26, 27, 28, 29, 30, 31, 32, 33, 34, 35, 36, 37, 38, 39, 40, 92, 93, 94, 79, 80, 81, 82, 83, 84, 85, 86, 87, 88, 89, 90, 91] (by decide +kernel) (by decide +kernel)
set_option maxRecDepth 20000 in
theorem gX4_set_X3_save : GoodIn wsX4_set (wsV RX4 40 RX3 yX3_save wsX3_save) := goodIn_app (goodIn_of _ (by decide +kernel)) ggX4_set_X3_save
set_option maxRecDepth 20000 in
theorem ggX4_set_X2_measureAll : GoodIn wsX4_set wsX2_measureAll := goodIn_r _ [44, 37, 38, 39, 33, 34, 45, 6, 46, 47, 48, 49, 50, 51, 52, 53, 26, 54, 32, 55, 56, 57, 58, 31, 59, 60, 61, 62, 63, 64, 65, 66, 35, 36, 67, 68, 69, 70, 28, 71, 72, 73, 74, 79, 80, 81, 82, 83, 84, 85, 86, 87, 88, 89, 90, 91] (by decide +kernel) (by decide +kernel)
set_option maxRecDepth 20000 in
theorem gX4_set_X2_measureAll : GoodIn wsX4_set (wsV RX4 84 RX2 yX2_measureAll wsX2_measureAll) := goodIn_app (goodIn_of _ (by decide +kernel)) ggX4_set_X2_measureAll
theorem dX4_set_0 : decode cX4_set 0 = .ok (.iload_n 1, 1) := by decide +kernel
theorem dX4_set_1 : decode cX4_set 1 = .ok (.invokestatic 99, 3) := by decide +kernel
theorem dX4_set_4 : decode cX4_set 4 = .ok (.iload_n 2, 1) := by decide +kernel
theorem dX4_set_5 : decode cX4_set 5 = .ok (.iconst 0, 1) := by decide +kernel
theorem dX4_set_6 : decode cX4_set 6 = .ok (.getstatic 102, 3) := by decide +kernel
theorem dX4_set_9 : decode cX4_set 9 = .ok (.iload_n 1, 1) := by decide +kernel
theorem dX4_set_10 : decode cX4_set 10 = .ok (.iaload, 1) := by decide +kernel
theorem dX4_set_11 : decode cX4_set 11 = .ok (.invokestatic 51, 3) := by decide +kernel
theorem dX4_set_14 : decode cX4_set 14 = .ok (.aload_n 0, 1) := by decide +kernel
theorem dX4_set_15 : decode cX4_set 15 = .ok (.getfield 22, 3) := by decide +kernel
theorem dX4_set_18 : decode cX4_set 18 = .ok (.aload_n 0, 1) := by decide +kernel
theorem dX4_set_19 : decode cX4_set 19 = .ok (.getfield 12, 3) := by decide +kernel
theorem dX4_set_22 : decode cX4_set 22 = .ok (.invokevirtual 40, 3) := by decide +kernel
theorem dX4_set_25 : decode cX4_set 25 = .ok (.aload_n 0, 1) := by decide +kernel
theorem dX4_set_26 : decode cX4_set 26 = .ok (.getfield 12, 3) := by decide +kernel
theorem dX4_set_29 : decode cX4_set 29 = .ok (.getfield 105, 3) := by decide +kernel
theorem dX4_set_32 : decode cX4_set 32 = .ok (.iload_n 1, 1) := by decide +kernel
theorem dX4_set_33 : decode cX4_set 33 = .ok (.iaload, 1) := by decide +kernel
theorem dX4_set_34 : decode cX4_set 34 = .ok (.istore_n 3, 1) := by decide +kernel
theorem dX4_set_35 : decode cX4_set 35 = .ok (.aload_n 0, 1) := by decide +kernel
theorem dX4_set_36 : decode cX4_set 36 = .ok (.getfield 12, 3) := by decide +kernel
theorem dX4_set_39 : decode cX4_set 39 = .ok (.getfield 105, 3) := by decide +kernel
theorem dX4_set_42 : decode cX4_set 42 = .ok (.iload_n 1, 1) := by decide +kernel
theorem dX4_set_43 : decode cX4_set 43 = .ok (.iload_n 2, 1) := by decide +kernel
theorem dX4_set_44 : decode cX4_set 44 = .ok (.iastore, 1) := by decide +kernel
theorem dX4_set_45 : decode cX4_set 45 = .ok (.aload_n 0, 1) := by decide +kernel
theorem dX4_set_46 : decode cX4_set 46 = .ok (.getfield 12, 3) := by decide +kernel
theorem dX4_set_49 : decode cX4_set 49 = .ok (.invokevirtual 84, 3) := by decide +kernel
theorem dX4_set_52 : decode cX4_set 52 = .ok (.iload_n 3, 1) := by decide +kernel
theorem dX4_set_53 : decode cX4_set 53 = .ok (.ireturn, 1) := by decide +kernel
set_option maxRecDepth 20000 in
theorem ggX4_step_X4_requireBetween : GoodIn wsX4_step wsX4_requireBetween := goodIn_ca (goodIn_r _ [6, 7, 8] (by decide +kernel) (by decide +kernel)) (goodIn_sub (fun _ h => List.mem_cons_of_mem _ (List.mem_append_right _ h)) (by decide +kernel))
set_option maxRecDepth 20000 in
theorem gX4_step_X4_requireBetween : GoodIn wsX4_step (va_wsS RX4 51 yX4_requireBetween wsX4_requireBetween) := goodIn_app (goodIn_of _ (by decide +kernel)) ggX4_step_X4_requireBetween
set_option maxRecDepth 20000 in
theorem ggX4_step_X3_save : GoodIn wsX4_step wsX3_save := goodIn_r _ [13, 14, 15, 16, 17, 18, 19, 20, 21, 22, 23, 24, 25, 26, 27, 28, 29, 30, 31, 32, 33, 34, 73, 74, 75, 76, 77, 78, 79, 80, 81, 82, 83, 84, 85, 86, 87, 88] (by decide +kernel) (by decide +kernel)
set_option maxRecDepth 20000 in
theorem gX4_step_X3_save : GoodIn wsX4_step (wsV RX4 40 RX3 yX3_save wsX3_save) := goodIn_app (goodIn_of _ (by decide +kernel)) ggX4_step_X3_save
set_option maxRecDepth 20000 in
theorem ggX4_step_X2_letGoBy : GoodIn wsX4_step wsX2_letGoBy := goodIn_r _ [38, 34, 39, 40, 41, 20, 42, 22, 43, 44, 45, 46, 24, 29, 30, 23, 47, 5, 48, 49, 50, 51, 52, 53, 54, 27, 28, 55, 56, 57, 58, 31, 59, 60, 61, 62, 63, 64, 65, 66, 67, 68, 76, 77, 78, 79, 80, 81, 82, 83, 84, 85, 86, 87, 88] (by decide +kernel) (by decide +kernel)
set_option maxRecDepth 20000 in
theorem gX4_step_X2_letGoBy : GoodIn wsX4_step (wsV RX4 108 RX2 yX2_letGoBy wsX2_letGoBy) := goodIn_app (goodIn_of _ (by decide +kernel)) ggX4_step_X2_letGoBy
theorem dX4_step_0 : decode cX4_step 0 = .ok (.iload_n 1, 1) := by decide +kernel
theorem dX4_step_1 : decode cX4_step 1 = .ok (.iconst 1, 1) := by decide +kernel
theorem dX4_step_2 : decode cX4_step 2 = .ok (.bipush 50, 2) := by decide +kernel
theorem dX4_step_4 : decode cX4_step 4 = .ok (.invokestatic 51, 3) := by decide +kernel
theorem dX4_step_7 : decode cX4_step 7 = .ok (.aload_n 0, 1) := by decide +kernel
theorem dX4_step_8 : decode cX4_step 8 = .ok (.getfield 22, 3) := by decide +kernel
theorem dX4_step_11 : decode cX4_step 11 = .ok (.aload_n 0, 1) := by decide +kernel
theorem dX4_step_12 : decode cX4_step 12 = .ok (.getfield 12, 3) := by decide +kernel
theorem dX4_step_15 : decode cX4_step 15 = .ok (.invokevirtual 40, 3) := by decide +kernel
theorem dX4_step_18 : decode cX4_step 18 = .ok (.aload_n 0, 1) := by decide +kernel
theorem dX4_step_19 : decode cX4_step 19 = .ok (.getfield 12, 3) := by decide +kernel
theorem dX4_step_22 : decode cX4_step 22 = .ok (.iload_n 1, 1) := by decide +kernel
theorem dX4_step_23 : decode cX4_step 23 = .ok (.invokevirtual 108, 3) := by decide +kernel
theorem dX4_step_26 : decode cX4_step 26 = .ok (.ireturn, 1) := by decide +kernel
set_option maxRecDepth 20000 in
theorem ggX4_append_X4_requireBetween : GoodIn wsX4_append wsX4_requireBetween := goodIn_ca (goodIn_r _ [7, 8, 9] (by decide +kernel) (by decide +kernel)) (goodIn_sub (fun _ h => List.mem_cons_of_mem _ (List.mem_append_right _ h)) (by decide +kernel))
set_option maxRecDepth 20000 in
theorem gX4_append_X4_requireBetween : GoodIn wsX4_append (va_wsS RX4 51 yX4_requireBetween wsX4_requireBetween) := goodIn_app (goodIn_of _ (by decide +kernel)) ggX4_append_X4_requireBetween
set_option maxRecDepth 20000 in
theorem ggX4_append_X1_add : GoodIn wsX4_append wsX1_add := goodIn_r _ [14, 15, 16, 21, 22, 23] (by decide +kernel) (by decide +kernel)
set_option maxRecDepth 20000 in
theorem gX4_append_X1_add : GoodIn wsX4_append (wsV RX4 117 RX1 yX1_add wsX1_add) := goodIn_app (goodIn_of _ (by decide +kernel)) ggX4_append_X1_add
theorem dX4_append_0 : decode cX4_append 0 = .ok (.iload_n 1, 1) := by decide +kernel
theorem dX4_append_1 : decode cX4_append 1 = .ok (.bipush 33, 2) := by decide +kernel
theorem dX4_append_3 : decode cX4_append 3 = .ok (.bipush 126, 2) := by decide +kernel
theorem dX4_append_5 : decode cX4_append 5 = .ok (.invokestatic 51, 3) := by decide +kernel
theorem dX4_append_8 : decode cX4_append 8 = .ok (.aload_n 0, 1) := by decide +kernel
theorem dX4_append_9 : decode cX4_append 9 = .ok (.getfield 29, 3) := by decide +kernel
theorem dX4_append_12 : decode cX4_append 12 = .ok (.getfield 112, 3) := by decide +kernel
theorem dX4_append_15 : decode cX4_append 15 = .ok (.bipush 60, 2) := by decide +kernel
theorem dX4_append_17 : decode cX4_append 17 = .ok (.if_icmp .lt 13, 3) := by decide +kernel
theorem dX4_append_20 : decode cX4_append 20 = .ok (.new 74, 3) := by decide +kernel
theorem dX4_append_23 : decode cX4_append 23 = .ok (.dup, 1) := by decide +kernel
theorem dX4_append_24 : decode cX4_append 24 = .ok (.ldc 115, 2) := by decide +kernel
theorem dX4_append_26 : decode cX4_append 26 = .ok (.invokespecial 78, 3) := by decide +kernel
theorem dX4_append_29 : decode cX4_append 29 = .ok (.athrow, 1) := by decide +kernel
theorem dX4_append_30 : decode cX4_append 30 = .ok (.aload_n 0, 1) := by decide +kernel
theorem dX4_append_31 : decode cX4_append 31 = .ok (.getfield 29, 3) := by decide +kernel
theorem dX4_append_34 : decode cX4_append 34 = .ok (.iload_n 1, 1) := by decide +kernel
theorem dX4_append_35 : decode cX4_append 35 = .ok (.invokevirtual 117, 3) := by decide +kernel
theorem dX4_append_38 : decode cX4_append 38 = .ok (.aload_n 0, 1) := by decide +kernel
theorem dX4_append_39 : decode cX4_append 39 = .ok (.getfield 29, 3) := by decide +kernel
theorem dX4_append_42 : decode cX4_append 42 = .ok (.getfield 112, 3) := by decide +kernel
theorem dX4_append_45 : decode cX4_append 45 = .ok (.ireturn, 1) := by decide +kernel
theorem dX4_clearBuffer_0 : decode cX4_clearBuffer 0 = .ok (.aload_n 0, 1) := by decide +kernel
theorem dX4_clearBuffer_1 : decode cX4_clearBuffer 1 = .ok (.getfield 29, 3) := by decide +kernel
theorem dX4_clearBuffer_4 : decode cX4_clearBuffer 4 = .ok (.getfield 112, 3) := by decide +kernel
theorem dX4_clearBuffer_7 : decode cX4_clearBuffer 7 = .ok (.istore_n 1, 1) := by decide +kernel
theorem dX4_clearBuffer_8 : decode cX4_clearBuffer 8 = .ok (.aload_n 0, 1) := by decide +kernel
theorem dX4_clearBuffer_9 : decode cX4_clearBuffer 9 = .ok (.getfield 29, 3) := by decide +kernel
theorem dX4_clearBuffer_12 : decode cX4_clearBuffer 12 = .ok (.iconst 0, 1) := by decide +kernel
theorem dX4_clearBuffer_13 : decode cX4_clearBuffer 13 = .ok (.putfield 112, 3) := by decide +kernel
theorem dX4_clearBuffer_16 : decode cX4_clearBuffer 16 = .ok (.iload_n 1, 1) := by decide +kernel
theorem dX4_clearBuffer_17 : decode cX4_clearBuffer 17 = .ok (.ireturn, 1) := by decide +kernel
set_option maxRecDepth 20000 in
theorem ggX4_firstError_X1_goodLength : GoodIn wsX4_firstError wsX1_goodLength := goodIn_r _ [6, 7, 8, 9, 10, 11, 12, 13, 14, 15, 16, 17, 18, 19, 20, 21, 22, 23, 24, 25, 26, 27, 28, 29, 30, 31, 32, 37, 38, 39, 40, 41, 42, 43, 44, 45] (by decide +kernel) (by decide +kernel)
set_option maxRecDepth 20000 in
theorem gX4_firstError_X1_goodLength : GoodIn wsX4_firstError (wsV RX4 120 RX1 yX1_goodLength wsX1_goodLength) := goodIn_app (goodIn_of _ (by decide +kernel)) ggX4_firstError_X1_goodLength
theorem dX4_firstError_0 : decode cX4_firstError 0 = .ok (.aload_n 0, 1) := by decide +kernel
theorem dX4_firstError_1 : decode cX4_firstError 1 = .ok (.getfield 29, 3) := by decide +kernel
theorem dX4_firstError_4 : decode cX4_firstError 4 = .ok (.invokevirtual 120, 3) := by decide +kernel
theorem dX4_firstError_7 : decode cX4_firstError 7 = .ok (.ireturn, 1) := by decide +kernel
set_option maxRecDepth 20000 in
theorem ggX4_bars_X1_isComplete : GoodIn wsX4_bars wsX1_isComplete := goodIn_r _ [10, 11, 12, 13, 14, 15, 9, 16, 17, 18, 19, 20, 21, 22, 23, 24, 25, 26, 27, 28, 29, 30, 31, 32, 33, 34, 35, 36, 37, 38, 39, 40, 41, 42, 43, 44, 135, 136, 137, 138, 139, 140, 141, 142, 143] (by decide +kernel) (by decide +kernel)
set_option maxRecDepth 20000 in
theorem gX4_bars_X1_isComplete : GoodIn wsX4_bars (wsV RX4 123 RX1 yX1_isComplete wsX1_isComplete) := goodIn_app (goodIn_of _ (by decide +kernel)) ggX4_bars_X1_isComplete
set_option maxRecDepth 20000 in
theorem ggX4_bars_X3_save : GoodIn wsX4_bars wsX3_save := goodIn_r _ [49, 50, 51, 52, 53, 54, 55, 56, 57, 58, 59, 60, 61, 62, 63, 64, 65, 66, 67, 68, 69, 70, 144, 145, 146, 147, 148, 149, 150, 151, 152, 153, 154, 155, 156, 157, 158, 159] (by decide +kernel) (by decide +kernel)
set_option maxRecDepth 20000 in
theorem gX4_bars_X3_save : GoodIn wsX4_bars (wsV RX4 40 RX3 yX3_save wsX3_save) := goodIn_app (goodIn_of _ (by decide +kernel)) ggX4_bars_X3_save
set_option maxRecDepth 20000 in
theorem ggX4_bars_X2_takeAllBars : GoodIn wsX4_bars wsX2_takeAllBars := goodIn_r _ [74, 75, 76, 77, 56, 78, 79, 80, 81, 82, 61, 62, 147, 148, 149, 150, 151, 152, 153, 154, 155, 156, 157, 158, 159] (by decide +kernel) (by decide +kernel)
set_option maxRecDepth 20000 in
theorem gX4_bars_X2_takeAllBars : GoodIn wsX4_bars (wsV RX4 132 RX2 yX2_takeAllBars wsX2_takeAllBars) := goodIn_app (goodIn_of _ (by decide +kernel)) ggX4_bars_X2_takeAllBars
set_option maxRecDepth 20000 in
theorem ggX4_bars_X1_layInto : GoodIn wsX4_bars wsX1_layInto := goodIn_r _ [86, 12, 11, 17, 18, 19, 20, 21, 22, 23, 24, 87, 88, 89, 90, 30, 29, 31, 32, 91, 80, 81, 56, 82, 61, 62, 25, 26, 27, 28, 33, 34, 35, 36, 37, 38, 39, 40, 135, 136, 137, 138, 139, 140, 141, 142, 143, 147, 148, 149, 150, 151, 152, 153, 154, 155, 156, 157, 158, 159] (by decide +kernel) (by decide +kernel)
set_option maxRecDepth 20000 in
theorem gX4_bars_X1_layInto : GoodIn wsX4_bars (wsV RX4 135 RX1 yX1_layInto wsX1_layInto) := goodIn_app (goodIn_of _ (by decide +kernel)) ggX4_bars_X1_layInto
set_option maxRecDepth 20000 in
theorem ggX4_bars_X2_measureAll : GoodIn wsX4_bars wsX2_measureAll := goodIn_r _ [95, 67, 68, 69, 63, 64, 96, 97, 98, 99, 100, 101, 102, 103, 104, 105, 56, 106, 62, 107, 108, 109, 110, 61, 111, 112, 113, 114, 115, 116, 117, 118, 65, 66, 119, 120, 121, 122, 58, 123, 124, 125, 126, 147, 148, 149, 150, 151, 152, 153, 154, 155, 156, 157, 158, 159] (by decide +kernel) (by decide +kernel)
set_option maxRecDepth 20000 in
theorem gX4_bars_X2_measureAll : GoodIn wsX4_bars (wsV RX4 84 RX2 yX2_measureAll wsX2_measureAll) := goodIn_app (goodIn_of _ (by decide +kernel)) ggX4_bars_X2_measureAll
set_option maxRecDepth 20000 in
theorem ggX4_bars_X2_barCount : GoodIn wsX4_bars wsX2_barCount := goodIn_r _ [130, 103, 104, 105, 56, 106, 62, 147, 148, 149, 150, 151, 152, 153, 154, 155, 156, 157, 158, 159] (by decide +kernel) (by decide +kernel)
set_option maxRecDepth 20000 in
theorem gX4_bars_X2_barCount : GoodIn wsX4_bars (wsV RX4 70 RX2 yX2_barCount wsX2_barCount) := goodIn_app (goodIn_of _ (by decide +kernel)) ggX4_bars_X2_barCount
theorem dX4_bars_0 : decode cX4_bars 0 = .ok (.aload_n 0, 1) := by decide +kernel
theorem dX4_bars_1 : decode cX4_bars 1 = .ok (.getfield 29, 3) := by decide +kernel
theorem dX4_bars_4 : decode cX4_bars 4 = .ok (.invokevirtual 123, 3) := by decide +kernel
theorem dX4_bars_7 : decode cX4_bars 7 = .ok (.ifCond .ne 13, 3) := by decide +kernel
theorem dX4_bars_10 : decode cX4_bars 10 = .ok (.new 127, 3) := by decide +kernel
theorem dX4_bars_13 : decode cX4_bars 13 = .ok (.dup, 1) := by decide +kernel
theorem dX4_bars_14 : decode cX4_bars 14 = .ok (.ldc 129, 2) := by decide +kernel
theorem dX4_bars_16 : decode cX4_bars 16 = .ok (.invokespecial 131, 3) := by decide +kernel
theorem dX4_bars_19 : decode cX4_bars 19 = .ok (.athrow, 1) := by decide +kernel
theorem dX4_bars_20 : decode cX4_bars 20 = .ok (.aload_n 0, 1) := by decide +kernel
theorem dX4_bars_21 : decode cX4_bars 21 = .ok (.getfield 22, 3) := by decide +kernel
theorem dX4_bars_24 : decode cX4_bars 24 = .ok (.aload_n 0, 1) := by decide +kernel
theorem dX4_bars_25 : decode cX4_bars 25 = .ok (.getfield 12, 3) := by decide +kernel
theorem dX4_bars_28 : decode cX4_bars 28 = .ok (.invokevirtual 40, 3) := by decide +kernel
end
section
theorem dX4_bars_31 : decode cX4_bars 31 = .ok (.aload_n 0, 1) := by decide +kernel
theorem dX4_bars_32 : decode cX4_bars 32 = .ok (.getfield 12, 3) := by decide +kernel
theorem dX4_bars_35 : decode cX4_bars 35 = .ok (.invokevirtual 132, 3) := by decide +kernel
theorem dX4_bars_38 : decode cX4_bars 38 = .ok (.aload_n 0, 1) := by decide +kernel
theorem dX4_bars_39 : decode cX4_bars 39 = .ok (.getfield 29, 3) := by decide +kernel
theorem dX4_bars_42 : decode cX4_bars 42 = .ok (.aload_n 0, 1) := by decide +kernel
theorem dX4_bars_43 : decode cX4_bars 43 = .ok (.getfield 12, 3) := by decide +kernel
theorem dX4_bars_46 : decode cX4_bars 46 = .ok (.invokevirtual 135, 3) := by decide +kernel
theorem dX4_bars_49 : decode cX4_bars 49 = .ok (.aload_n 0, 1) := by decide +kernel
theorem dX4_bars_50 : decode cX4_bars 50 = .ok (.getfield 12, 3) := by decide +kernel
theorem dX4_bars_53 : decode cX4_bars 53 = .ok (.invokevirtual 84, 3) := by decide +kernel
theorem dX4_bars_56 : decode cX4_bars 56 = .ok (.aload_n 0, 1) := by decide +kernel
theorem dX4_bars_57 : decode cX4_bars 57 = .ok (.getfield 29, 3) := by decide +kernel
theorem dX4_bars_60 : decode cX4_bars 60 = .ok (.iconst 0, 1) := by decide +kernel
theorem dX4_bars_61 : decode cX4_bars 61 = .ok (.putfield 112, 3) := by decide +kernel
theorem dX4_bars_64 : decode cX4_bars 64 = .ok (.aload_n 0, 1) := by decide +kernel
theorem dX4_bars_65 : decode cX4_bars 65 = .ok (.getfield 12, 3) := by decide +kernel
theorem dX4_bars_68 : decode cX4_bars 68 = .ok (.invokevirtual 70, 3) := by decide +kernel
theorem dX4_bars_71 : decode cX4_bars 71 = .ok (.ireturn, 1) := by decide +kernel
set_option maxRecDepth 20000 in
theorem ggX4_undo_X3_restoreInto : GoodIn wsX4_undo wsX3_restoreInto := goodIn_r _ [9, 10, 11, 12, 13, 14, 15, 16, 17, 18, 19, 20, 21, 22, 23, 24, 25, 26, 27, 28, 29, 30, 35, 36, 37, 38, 39, 40, 41, 42, 43, 44, 45, 46, 47, 48, 49, 50] (by decide +kernel) (by decide +kernel)
set_option maxRecDepth 20000 in
theorem gX4_undo_X3_restoreInto : GoodIn wsX4_undo (wsV RX4 143 RX3 yX3_restoreInto wsX3_restoreInto) := goodIn_app (goodIn_of _ (by decide +kernel)) ggX4_undo_X3_restoreInto
theorem dX4_undo_0 : decode cX4_undo 0 = .ok (.aload_n 0, 1) := by decide +kernel
theorem dX4_undo_1 : decode cX4_undo 1 = .ok (.getfield 22, 3) := by decide +kernel
theorem dX4_undo_4 : decode cX4_undo 4 = .ok (.getfield 138, 3) := by decide +kernel
theorem dX4_undo_7 : decode cX4_undo 7 = .ok (.ifCond .ne 13, 3) := by decide +kernel
theorem dX4_undo_10 : decode cX4_undo 10 = .ok (.new 74, 3) := by decide +kernel
theorem dX4_undo_13 : decode cX4_undo 13 = .ok (.dup, 1) := by decide +kernel
theorem dX4_undo_14 : decode cX4_undo 14 = .ok (.ldc 141, 2) := by decide +kernel
theorem dX4_undo_16 : decode cX4_undo 16 = .ok (.invokespecial 78, 3) := by decide +kernel
theorem dX4_undo_19 : decode cX4_undo 19 = .ok (.athrow, 1) := by decide +kernel
theorem dX4_undo_20 : decode cX4_undo 20 = .ok (.aload_n 0, 1) := by decide +kernel
theorem dX4_undo_21 : decode cX4_undo 21 = .ok (.getfield 22, 3) := by decide +kernel
theorem dX4_undo_24 : decode cX4_undo 24 = .ok (.aload_n 0, 1) := by decide +kernel
theorem dX4_undo_25 : decode cX4_undo 25 = .ok (.getfield 12, 3) := by decide +kernel
theorem dX4_undo_28 : decode cX4_undo 28 = .ok (.invokevirtual 143, 3) := by decide +kernel
theorem dX4_undo_31 : decode cX4_undo 31 = .ok (.aload_n 0, 1) := by decide +kernel
theorem dX4_undo_32 : decode cX4_undo 32 = .ok (.getfield 22, 3) := by decide +kernel
theorem dX4_undo_35 : decode cX4_undo 35 = .ok (.getfield 138, 3) := by decide +kernel
theorem dX4_undo_38 : decode cX4_undo 38 = .ok (.ireturn, 1) := by decide +kernel
set_option maxRecDepth 20000 in
theorem ggX4_cell_X4_requireCell : GoodIn wsX4_cell wsX4_requireCell := goodIn_ca (goodIn_r _ [8, 9, 10] (by decide +kernel) (by decide +kernel)) (goodIn_sub (fun _ h => List.mem_cons_of_mem _ (List.mem_append_right _ h)) (by decide +kernel))
set_option maxRecDepth 20000 in
theorem gX4_cell_X4_requireCell : GoodIn wsX4_cell (va_wsS RX4 33 yX4_requireCell wsX4_requireCell) := goodIn_app (goodIn_of _ (by decide +kernel)) ggX4_cell_X4_requireCell
set_option maxRecDepth 20000 in
theorem ggX4_cell_X2_aim : GoodIn wsX4_cell wsX2_aim := goodIn_r _ [15, 16, 17, 18, 7, 19, 42, 43, 44, 45, 46, 47, 48, 49, 50, 51, 52, 53, 54] (by decide +kernel) (by decide +kernel)
set_option maxRecDepth 20000 in
theorem gX4_cell_X2_aim : GoodIn wsX4_cell (wsV RX4 153 RX2 yX2_aim wsX2_aim) := goodIn_app (goodIn_of _ (by decide +kernel)) ggX4_cell_X2_aim
set_option maxRecDepth 20000 in
theorem ggX4_cell_X2_wouldTurn : GoodIn wsX4_cell wsX2_wouldTurn := goodIn_r _ [23, 24, 25, 26, 27, 14, 28, 29, 16, 17, 30, 18, 7, 19, 31, 32, 42, 43, 44, 45, 46, 47, 48, 49, 50, 51, 52, 53, 54] (by decide +kernel) (by decide +kernel)
set_option maxRecDepth 20000 in
theorem gX4_cell_X2_wouldTurn : GoodIn wsX4_cell (wsV RX4 156 RX2 yX2_wouldTurn wsX2_wouldTurn) := goodIn_app (goodIn_of _ (by decide +kernel)) ggX4_cell_X2_wouldTurn
set_option maxRecDepth 20000 in
theorem ggX4_cell_X2_awayFromAim : GoodIn wsX4_cell wsX2_awayFromAim := goodIn_r _ [36, 24, 37, 12, 13, 14, 15, 16, 17, 18, 7, 19, 31, 32, 42, 43, 44, 45, 46, 47, 48, 49, 50, 51, 52, 53, 54] (by decide +kernel) (by decide +kernel)
set_option maxRecDepth 20000 in
theorem gX4_cell_X2_awayFromAim : GoodIn wsX4_cell (wsV RX4 159 RX2 yX2_awayFromAim wsX2_awayFromAim) := goodIn_app (goodIn_of _ (by decide +kernel)) ggX4_cell_X2_awayFromAim
theorem dX4_cell_0 : decode cX4_cell 0 = .ok (.iload_n 1, 1) := by decide +kernel
theorem dX4_cell_1 : decode cX4_cell 1 = .ok (.invokestatic 33, 3) := by decide +kernel
theorem dX4_cell_4 : decode cX4_cell 4 = .ok (.iload_n 2, 1) := by decide +kernel
theorem dX4_cell_5 : decode cX4_cell 5 = .ok (.tableswitch 146 0 7 #[47, 57, 67, 85, 98, 111, 120, 137], 47) := by decide +kernel
theorem dX4_cell_52 : decode cX4_cell 52 = .ok (.aload_n 0, 1) := by decide +kernel
theorem dX4_cell_53 : decode cX4_cell 53 = .ok (.getfield 12, 3) := by decide +kernel
theorem dX4_cell_56 : decode cX4_cell 56 = .ok (.getfield 44, 3) := by decide +kernel
theorem dX4_cell_59 : decode cX4_cell 59 = .ok (.iload_n 1, 1) := by decide +kernel
theorem dX4_cell_60 : decode cX4_cell 60 = .ok (.iaload, 1) := by decide +kernel
theorem dX4_cell_61 : decode cX4_cell 61 = .ok (.ireturn, 1) := by decide +kernel
theorem dX4_cell_62 : decode cX4_cell 62 = .ok (.aload_n 0, 1) := by decide +kernel
theorem dX4_cell_63 : decode cX4_cell 63 = .ok (.getfield 12, 3) := by decide +kernel
theorem dX4_cell_66 : decode cX4_cell 66 = .ok (.getfield 55, 3) := by decide +kernel
theorem dX4_cell_69 : decode cX4_cell 69 = .ok (.iload_n 1, 1) := by decide +kernel
theorem dX4_cell_70 : decode cX4_cell 70 = .ok (.iaload, 1) := by decide +kernel
theorem dX4_cell_71 : decode cX4_cell 71 = .ok (.ireturn, 1) := by decide +kernel
theorem dX4_cell_72 : decode cX4_cell 72 = .ok (.aload_n 0, 1) := by decide +kernel
theorem dX4_cell_73 : decode cX4_cell 73 = .ok (.getfield 12, 3) := by decide +kernel
theorem dX4_cell_76 : decode cX4_cell 76 = .ok (.getfield 58, 3) := by decide +kernel
theorem dX4_cell_79 : decode cX4_cell 79 = .ok (.iload_n 1, 1) := by decide +kernel
theorem dX4_cell_80 : decode cX4_cell 80 = .ok (.baload, 1) := by decide +kernel
theorem dX4_cell_81 : decode cX4_cell 81 = .ok (.ifCond .eq 7, 3) := by decide +kernel
theorem dX4_cell_84 : decode cX4_cell 84 = .ok (.iconst 1, 1) := by decide +kernel
theorem dX4_cell_85 : decode cX4_cell 85 = .ok (.goto 4, 3) := by decide +kernel
theorem dX4_cell_88 : decode cX4_cell 88 = .ok (.iconst 0, 1) := by decide +kernel
theorem dX4_cell_89 : decode cX4_cell 89 = .ok (.ireturn, 1) := by decide +kernel
theorem dX4_cell_90 : decode cX4_cell 90 = .ok (.aload_n 0, 1) := by decide +kernel
theorem dX4_cell_91 : decode cX4_cell 91 = .ok (.getfield 12, 3) := by decide +kernel
theorem dX4_cell_94 : decode cX4_cell 94 = .ok (.getfield 146, 3) := by decide +kernel
theorem dX4_cell_97 : decode cX4_cell 97 = .ok (.iload_n 1, 1) := by decide +kernel
theorem dX4_cell_98 : decode cX4_cell 98 = .ok (.iaload, 1) := by decide +kernel
theorem dX4_cell_99 : decode cX4_cell 99 = .ok (.ldc 149, 2) := by decide +kernel
theorem dX4_cell_101 : decode cX4_cell 101 = .ok (.iadd, 1) := by decide +kernel
theorem dX4_cell_102 : decode cX4_cell 102 = .ok (.ireturn, 1) := by decide +kernel
theorem dX4_cell_103 : decode cX4_cell 103 = .ok (.aload_n 0, 1) := by decide +kernel
theorem dX4_cell_104 : decode cX4_cell 104 = .ok (.getfield 12, 3) := by decide +kernel
theorem dX4_cell_107 : decode cX4_cell 107 = .ok (.getfield 150, 3) := by decide +kernel
theorem dX4_cell_110 : decode cX4_cell 110 = .ok (.iload_n 1, 1) := by decide +kernel
theorem dX4_cell_111 : decode cX4_cell 111 = .ok (.iaload, 1) := by decide +kernel
theorem dX4_cell_112 : decode cX4_cell 112 = .ok (.ldc 149, 2) := by decide +kernel
theorem dX4_cell_114 : decode cX4_cell 114 = .ok (.iadd, 1) := by decide +kernel
theorem dX4_cell_115 : decode cX4_cell 115 = .ok (.ireturn, 1) := by decide +kernel
theorem dX4_cell_116 : decode cX4_cell 116 = .ok (.aload_n 0, 1) := by decide +kernel
theorem dX4_cell_117 : decode cX4_cell 117 = .ok (.getfield 12, 3) := by decide +kernel
theorem dX4_cell_120 : decode cX4_cell 120 = .ok (.iload_n 1, 1) := by decide +kernel
theorem dX4_cell_121 : decode cX4_cell 121 = .ok (.invokevirtual 153, 3) := by decide +kernel
theorem dX4_cell_124 : decode cX4_cell 124 = .ok (.ireturn, 1) := by decide +kernel
theorem dX4_cell_125 : decode cX4_cell 125 = .ok (.aload_n 0, 1) := by decide +kernel
theorem dX4_cell_126 : decode cX4_cell 126 = .ok (.getfield 12, 3) := by decide +kernel
theorem dX4_cell_129 : decode cX4_cell 129 = .ok (.iload_n 1, 1) := by decide +kernel
theorem dX4_cell_130 : decode cX4_cell 130 = .ok (.invokevirtual 156, 3) := by decide +kernel
theorem dX4_cell_133 : decode cX4_cell 133 = .ok (.ifCond .eq 7, 3) := by decide +kernel
theorem dX4_cell_136 : decode cX4_cell 136 = .ok (.iconst 1, 1) := by decide +kernel
theorem dX4_cell_137 : decode cX4_cell 137 = .ok (.goto 4, 3) := by decide +kernel
theorem dX4_cell_140 : decode cX4_cell 140 = .ok (.iconst 0, 1) := by decide +kernel
theorem dX4_cell_141 : decode cX4_cell 141 = .ok (.ireturn, 1) := by decide +kernel
theorem dX4_cell_142 : decode cX4_cell 142 = .ok (.aload_n 0, 1) := by decide +kernel
theorem dX4_cell_143 : decode cX4_cell 143 = .ok (.getfield 12, 3) := by decide +kernel
theorem dX4_cell_146 : decode cX4_cell 146 = .ok (.iload_n 1, 1) := by decide +kernel
theorem dX4_cell_147 : decode cX4_cell 147 = .ok (.invokevirtual 159, 3) := by decide +kernel
theorem dX4_cell_150 : decode cX4_cell 150 = .ok (.ireturn, 1) := by decide +kernel
theorem dX4_cell_151 : decode cX4_cell 151 = .ok (.new 127, 3) := by decide +kernel
theorem dX4_cell_154 : decode cX4_cell 154 = .ok (.dup, 1) := by decide +kernel
theorem dX4_cell_155 : decode cX4_cell 155 = .ok (.ldc 162, 2) := by decide +kernel
theorem dX4_cell_157 : decode cX4_cell 157 = .ok (.invokespecial 131, 3) := by decide +kernel
theorem dX4_cell_160 : decode cX4_cell 160 = .ok (.athrow, 1) := by decide +kernel
set_option maxRecDepth 20000 in
theorem ggX4_barOf_X4_requireBetween : GoodIn wsX4_barOf wsX4_requireBetween := goodIn_ca (goodIn_r _ [7, 1, 2] (by decide +kernel) (by decide +kernel)) (goodIn_sub (fun _ h => List.mem_cons_of_mem _ (List.mem_append_right _ h)) (by decide +kernel))
set_option maxRecDepth 20000 in
theorem gX4_barOf_X4_requireBetween : GoodIn wsX4_barOf (va_wsS RX4 51 yX4_requireBetween wsX4_requireBetween) := goodIn_app (goodIn_of _ (by decide +kernel)) ggX4_barOf_X4_requireBetween
set_option maxRecDepth 20000 in
theorem ggX4_barOf_X2_cellOfBar : GoodIn wsX4_barOf wsX2_cellOfBar := goodIn_r _ [12, 13, 14, 15, 11, 16, 17, 22, 23, 24, 25, 26, 27, 28, 29, 30, 31, 32, 33, 34] (by decide +kernel) (by decide +kernel)
set_option maxRecDepth 20000 in
theorem gX4_barOf_X2_cellOfBar : GoodIn wsX4_barOf (wsV RX4 166 RX2 yX2_cellOfBar wsX2_cellOfBar) := goodIn_app (goodIn_of _ (by decide +kernel)) ggX4_barOf_X2_cellOfBar
theorem dX4_barOf_0 : decode cX4_barOf 0 = .ok (.iload_n 1, 1) := by decide +kernel
theorem dX4_barOf_1 : decode cX4_barOf 1 = .ok (.ifCond .ge 13, 3) := by decide +kernel
theorem dX4_barOf_4 : decode cX4_barOf 4 = .ok (.new 127, 3) := by decide +kernel
theorem dX4_barOf_7 : decode cX4_barOf 7 = .ok (.dup, 1) := by decide +kernel
theorem dX4_barOf_8 : decode cX4_barOf 8 = .ok (.ldc 164, 2) := by decide +kernel
theorem dX4_barOf_10 : decode cX4_barOf 10 = .ok (.invokespecial 131, 3) := by decide +kernel
theorem dX4_barOf_13 : decode cX4_barOf 13 = .ok (.athrow, 1) := by decide +kernel
theorem dX4_barOf_14 : decode cX4_barOf 14 = .ok (.iload_n 2, 1) := by decide +kernel
theorem dX4_barOf_15 : decode cX4_barOf 15 = .ok (.iconst 0, 1) := by decide +kernel
theorem dX4_barOf_16 : decode cX4_barOf 16 = .ok (.iconst 2, 1) := by decide +kernel
theorem dX4_barOf_17 : decode cX4_barOf 17 = .ok (.invokestatic 51, 3) := by decide +kernel
theorem dX4_barOf_20 : decode cX4_barOf 20 = .ok (.aload_n 0, 1) := by decide +kernel
theorem dX4_barOf_21 : decode cX4_barOf 21 = .ok (.getfield 12, 3) := by decide +kernel
theorem dX4_barOf_24 : decode cX4_barOf 24 = .ok (.iload_n 1, 1) := by decide +kernel
theorem dX4_barOf_25 : decode cX4_barOf 25 = .ok (.invokevirtual 166, 3) := by decide +kernel
theorem dX4_barOf_28 : decode cX4_barOf 28 = .ok (.istore_n 3, 1) := by decide +kernel
theorem dX4_barOf_29 : decode cX4_barOf 29 = .ok (.iload_n 3, 1) := by decide +kernel
theorem dX4_barOf_30 : decode cX4_barOf 30 = .ok (.iconst (-1), 1) := by decide +kernel
theorem dX4_barOf_31 : decode cX4_barOf 31 = .ok (.if_icmp .eq 7, 3) := by decide +kernel
theorem dX4_barOf_34 : decode cX4_barOf 34 = .ok (.iload_n 2, 1) := by decide +kernel
theorem dX4_barOf_35 : decode cX4_barOf 35 = .ok (.ifCond .ne 5, 3) := by decide +kernel
theorem dX4_barOf_38 : decode cX4_barOf 38 = .ok (.iload_n 3, 1) := by decide +kernel
theorem dX4_barOf_39 : decode cX4_barOf 39 = .ok (.ireturn, 1) := by decide +kernel
theorem dX4_barOf_40 : decode cX4_barOf 40 = .ok (.iload_n 2, 1) := by decide +kernel
theorem dX4_barOf_41 : decode cX4_barOf 41 = .ok (.iconst 1, 1) := by decide +kernel
theorem dX4_barOf_42 : decode cX4_barOf 42 = .ok (.if_icmp .ne 15, 3) := by decide +kernel
theorem dX4_barOf_45 : decode cX4_barOf 45 = .ok (.aload_n 0, 1) := by decide +kernel
theorem dX4_barOf_46 : decode cX4_barOf 46 = .ok (.getfield 12, 3) := by decide +kernel
theorem dX4_barOf_49 : decode cX4_barOf 49 = .ok (.getfield 169, 3) := by decide +kernel
theorem dX4_barOf_52 : decode cX4_barOf 52 = .ok (.iload_n 3, 1) := by decide +kernel
theorem dX4_barOf_53 : decode cX4_barOf 53 = .ok (.iaload, 1) := by decide +kernel
theorem dX4_barOf_54 : decode cX4_barOf 54 = .ok (.goto 12, 3) := by decide +kernel
theorem dX4_barOf_57 : decode cX4_barOf 57 = .ok (.aload_n 0, 1) := by decide +kernel
theorem dX4_barOf_58 : decode cX4_barOf 58 = .ok (.getfield 12, 3) := by decide +kernel
theorem dX4_barOf_61 : decode cX4_barOf 61 = .ok (.getfield 172, 3) := by decide +kernel
theorem dX4_barOf_64 : decode cX4_barOf 64 = .ok (.iload_n 3, 1) := by decide +kernel
theorem dX4_barOf_65 : decode cX4_barOf 65 = .ok (.iaload, 1) := by decide +kernel
theorem dX4_barOf_66 : decode cX4_barOf 66 = .ok (.ireturn, 1) := by decide +kernel
set_option maxRecDepth 20000 in
theorem ggX4_count_X2_barCount : GoodIn wsX4_count wsX2_barCount := goodIn_r _ [9, 10, 11, 12, 8, 13, 14, 61, 62, 63, 64, 65, 66, 67, 68, 69, 70, 71, 72, 73] (by decide +kernel) (by decide +kernel)
set_option maxRecDepth 20000 in
theorem gX4_count_X2_barCount : GoodIn wsX4_count (wsV RX4 70 RX2 yX2_barCount wsX2_barCount) := goodIn_app (goodIn_of _ (by decide +kernel)) ggX4_count_X2_barCount
set_option maxRecDepth 20000 in
theorem ggX4_count_X2_heldCount : GoodIn wsX4_count wsX2_heldCount := goodIn_r _ [18, 19, 61, 62, 63, 64, 65, 66, 67, 68, 69, 70, 71, 72, 73] (by decide +kernel) (by decide +kernel)
set_option maxRecDepth 20000 in
theorem gX4_count_X2_heldCount : GoodIn wsX4_count (wsV RX4 178 RX2 yX2_heldCount wsX2_heldCount) := goodIn_app (goodIn_of _ (by decide +kernel)) ggX4_count_X2_heldCount
set_option maxRecDepth 20000 in
theorem ggX4_count_X2_turningCount : GoodIn wsX4_count wsX2_turningCount := goodIn_r _ [23, 24, 25, 26, 8, 27, 28, 29, 30, 31, 32, 19, 33, 34, 35, 36, 37, 38, 39, 40, 61, 62, 63, 64, 65, 66, 67, 68, 69, 70, 71, 72, 73] (by decide +kernel) (by decide +kernel)
set_option maxRecDepth 20000 in
theorem gX4_count_X2_turningCount : GoodIn wsX4_count (wsV RX4 181 RX2 yX2_turningCount wsX2_turningCount) := goodIn_app (goodIn_of _ (by decide +kernel)) ggX4_count_X2_turningCount
set_option maxRecDepth 20000 in
theorem ggX4_count_X2_obeyingCount : GoodIn wsX4_count wsX2_obeyingCount := goodIn_r _ [44, 28, 45, 46, 47, 8, 48, 33, 34, 36, 37, 38, 61, 62, 63, 64, 65, 66, 67, 68, 69, 70, 71, 72, 73] (by decide +kernel) (by decide +kernel)
set_option maxRecDepth 20000 in
theorem gX4_count_X2_obeyingCount : GoodIn wsX4_count (wsV RX4 184 RX2 yX2_obeyingCount wsX2_obeyingCount) := goodIn_app (goodIn_of _ (by decide +kernel)) ggX4_count_X2_obeyingCount
set_option maxRecDepth 20000 in
theorem ggX4_count_X2_awayTogether : GoodIn wsX4_count wsX2_awayTogether := goodIn_r _ [52, 53, 54, 55, 8, 56, 28, 45, 46, 47, 48, 33, 34, 36, 37, 38, 39, 40, 61, 62, 63, 64, 65, 66, 67, 68, 69, 70, 71, 72, 73] (by decide +kernel) (by decide +kernel)
set_option maxRecDepth 20000 in
theorem gX4_count_X2_awayTogether : GoodIn wsX4_count (wsV RX4 187 RX2 yX2_awayTogether wsX2_awayTogether) := goodIn_app (goodIn_of _ (by decide +kernel)) ggX4_count_X2_awayTogether
theorem dX4_count_0 : decode cX4_count 0 = .ok (.iload_n 1, 1) := by decide +kernel
theorem dX4_count_1 : decode cX4_count 1 = .ok (.tableswitch 123 0 8 #[51, 59, 67, 75, 83, 91, 99, 107, 115], 51) := by decide +kernel
theorem dX4_count_52 : decode cX4_count 52 = .ok (.aload_n 0, 1) := by decide +kernel
theorem dX4_count_53 : decode cX4_count 53 = .ok (.getfield 12, 3) := by decide +kernel
theorem dX4_count_56 : decode cX4_count 56 = .ok (.getfield 175, 3) := by decide +kernel
theorem dX4_count_59 : decode cX4_count 59 = .ok (.ireturn, 1) := by decide +kernel
theorem dX4_count_60 : decode cX4_count 60 = .ok (.aload_n 0, 1) := by decide +kernel
theorem dX4_count_61 : decode cX4_count 61 = .ok (.getfield 12, 3) := by decide +kernel
theorem dX4_count_64 : decode cX4_count 64 = .ok (.invokevirtual 70, 3) := by decide +kernel
theorem dX4_count_67 : decode cX4_count 67 = .ok (.ireturn, 1) := by decide +kernel
theorem dX4_count_68 : decode cX4_count 68 = .ok (.aload_n 0, 1) := by decide +kernel
theorem dX4_count_69 : decode cX4_count 69 = .ok (.getfield 12, 3) := by decide +kernel
theorem dX4_count_72 : decode cX4_count 72 = .ok (.getfield 92, 3) := by decide +kernel
theorem dX4_count_75 : decode cX4_count 75 = .ok (.ireturn, 1) := by decide +kernel
theorem dX4_count_76 : decode cX4_count 76 = .ok (.aload_n 0, 1) := by decide +kernel
theorem dX4_count_77 : decode cX4_count 77 = .ok (.getfield 12, 3) := by decide +kernel
theorem dX4_count_80 : decode cX4_count 80 = .ok (.getfield 96, 3) := by decide +kernel
theorem dX4_count_83 : decode cX4_count 83 = .ok (.ireturn, 1) := by decide +kernel
theorem dX4_count_84 : decode cX4_count 84 = .ok (.aload_n 0, 1) := by decide +kernel
theorem dX4_count_85 : decode cX4_count 85 = .ok (.getfield 12, 3) := by decide +kernel
theorem dX4_count_88 : decode cX4_count 88 = .ok (.invokevirtual 178, 3) := by decide +kernel
theorem dX4_count_91 : decode cX4_count 91 = .ok (.ireturn, 1) := by decide +kernel
theorem dX4_count_92 : decode cX4_count 92 = .ok (.aload_n 0, 1) := by decide +kernel
theorem dX4_count_93 : decode cX4_count 93 = .ok (.getfield 12, 3) := by decide +kernel
theorem dX4_count_96 : decode cX4_count 96 = .ok (.invokevirtual 181, 3) := by decide +kernel
theorem dX4_count_99 : decode cX4_count 99 = .ok (.ireturn, 1) := by decide +kernel
theorem dX4_count_100 : decode cX4_count 100 = .ok (.aload_n 0, 1) := by decide +kernel
theorem dX4_count_101 : decode cX4_count 101 = .ok (.getfield 12, 3) := by decide +kernel
theorem dX4_count_104 : decode cX4_count 104 = .ok (.invokevirtual 184, 3) := by decide +kernel
theorem dX4_count_107 : decode cX4_count 107 = .ok (.ireturn, 1) := by decide +kernel
theorem dX4_count_108 : decode cX4_count 108 = .ok (.aload_n 0, 1) := by decide +kernel
theorem dX4_count_109 : decode cX4_count 109 = .ok (.getfield 12, 3) := by decide +kernel
theorem dX4_count_112 : decode cX4_count 112 = .ok (.invokevirtual 187, 3) := by decide +kernel
theorem dX4_count_115 : decode cX4_count 115 = .ok (.ireturn, 1) := by decide +kernel
theorem dX4_count_116 : decode cX4_count 116 = .ok (.aload_n 0, 1) := by decide +kernel
theorem dX4_count_117 : decode cX4_count 117 = .ok (.getfield 22, 3) := by decide +kernel
theorem dX4_count_120 : decode cX4_count 120 = .ok (.getfield 138, 3) := by decide +kernel
theorem dX4_count_123 : decode cX4_count 123 = .ok (.ireturn, 1) := by decide +kernel
theorem dX4_count_124 : decode cX4_count 124 = .ok (.new 127, 3) := by decide +kernel
theorem dX4_count_127 : decode cX4_count 127 = .ok (.dup, 1) := by decide +kernel
theorem dX4_count_128 : decode cX4_count 128 = .ok (.ldc 190, 2) := by decide +kernel
theorem dX4_count_130 : decode cX4_count 130 = .ok (.invokespecial 131, 3) := by decide +kernel
theorem dX4_count_133 : decode cX4_count 133 = .ok (.athrow, 1) := by decide +kernel
set_option maxRecDepth 20000 in
theorem ggX4_pointing_X4_requireDirection : GoodIn wsX4_pointing wsX4_requireDirection := goodIn_ca (goodIn_r _ [5, 6, 7, 4, 8, 9, 10] (by decide +kernel) (by decide +kernel)) (goodIn_sub (fun _ h => List.mem_cons_of_mem _ (List.mem_append_right _ h)) (by decide +kernel))
set_option maxRecDepth 20000 in
theorem gX4_pointing_X4_requireDirection : GoodIn wsX4_pointing (va_wsS RX4 37 yX4_requireDirection wsX4_requireDirection) := goodIn_app (goodIn_of _ (by decide +kernel)) ggX4_pointing_X4_requireDirection
set_option maxRecDepth 20000 in
theorem ggX4_pointing_X2_pointingCount : GoodIn wsX4_pointing wsX2_pointingCount := goodIn_r _ [15, 16, 21, 22, 23, 24, 25, 26, 27, 28, 29, 30, 31, 32, 33] (by decide +kernel) (by decide +kernel)
set_option maxRecDepth 20000 in
theorem gX4_pointing_X2_pointingCount : GoodIn wsX4_pointing (wsV RX4 192 RX2 yX2_pointingCount wsX2_pointingCount) := goodIn_app (goodIn_of _ (by decide +kernel)) ggX4_pointing_X2_pointingCount
theorem dX4_pointing_0 : decode cX4_pointing 0 = .ok (.iload_n 1, 1) := by decide +kernel
theorem dX4_pointing_1 : decode cX4_pointing 1 = .ok (.invokestatic 37, 3) := by decide +kernel
theorem dX4_pointing_4 : decode cX4_pointing 4 = .ok (.aload_n 0, 1) := by decide +kernel
theorem dX4_pointing_5 : decode cX4_pointing 5 = .ok (.getfield 12, 3) := by decide +kernel
theorem dX4_pointing_8 : decode cX4_pointing 8 = .ok (.iload_n 1, 1) := by decide +kernel
theorem dX4_pointing_9 : decode cX4_pointing 9 = .ok (.invokevirtual 192, 3) := by decide +kernel
theorem dX4_pointing_12 : decode cX4_pointing 12 = .ok (.ireturn, 1) := by decide +kernel
set_option maxRecDepth 20000 in
theorem ggX4_setting_X4_requireSetting : GoodIn wsX4_setting wsX4_requireSetting := goodIn_ca (goodIn_r _ [5, 6, 7] (by decide +kernel) (by decide +kernel)) (goodIn_sub (fun _ h => List.mem_cons_of_mem _ (List.mem_append_right _ h)) (by decide +kernel))
set_option maxRecDepth 20000 in
theorem gX4_setting_X4_requireSetting : GoodIn wsX4_setting (va_wsS RX4 99 yX4_requireSetting wsX4_requireSetting) := goodIn_app (goodIn_of _ (by decide +kernel)) ggX4_setting_X4_requireSetting
theorem dX4_setting_0 : decode cX4_setting 0 = .ok (.iload_n 1, 1) := by decide +kernel
theorem dX4_setting_1 : decode cX4_setting 1 = .ok (.invokestatic 99, 3) := by decide +kernel
theorem dX4_setting_4 : decode cX4_setting 4 = .ok (.aload_n 0, 1) := by decide +kernel
theorem dX4_setting_5 : decode cX4_setting 5 = .ok (.getfield 12, 3) := by decide +kernel
theorem dX4_setting_8 : decode cX4_setting 8 = .ok (.getfield 105, 3) := by decide +kernel
theorem dX4_setting_11 : decode cX4_setting 11 = .ok (.iload_n 1, 1) := by decide +kernel
theorem dX4_setting_12 : decode cX4_setting 12 = .ok (.iaload, 1) := by decide +kernel
theorem dX4_setting_13 : decode cX4_setting 13 = .ok (.ireturn, 1) := by decide +kernel
set_option maxRecDepth 20000 in
theorem ggX4_restsIn_X2_copyFrom : GoodIn wsX4_restsIn wsX2_copyFrom := goodIn_r _ [7, 8, 9, 10, 11, 12, 13, 14, 15, 16, 17, 18, 19, 20, 60, 61, 62, 63, 64, 65, 66, 67, 68, 69, 70, 71, 72] (by decide +kernel) (by decide +kernel)
set_option maxRecDepth 20000 in
theorem gX4_restsIn_X2_copyFrom : GoodIn wsX4_restsIn (wsV RX4 195 RX2 yX2_copyFrom wsX2_copyFrom) := goodIn_app (goodIn_of _ (by decide +kernel)) ggX4_restsIn_X2_copyFrom
set_option maxRecDepth 20000 in
theorem ggX4_restsIn_X2_letGoBy : GoodIn wsX4_restsIn wsX2_letGoBy := goodIn_r _ [24, 20, 25, 26, 27, 6, 28, 8, 29, 30, 31, 32, 10, 15, 16, 9, 33, 34, 35, 36, 37, 38, 39, 40, 41, 13, 14, 42, 43, 44, 45, 17, 46, 47, 48, 49, 50, 51, 52, 53, 54, 55, 60, 61, 62, 63, 64, 65, 66, 67, 68, 69, 70, 71, 72] (by decide +kernel) (by decide +kernel)
set_option maxRecDepth 20000 in
theorem gX4_restsIn_X2_letGoBy : GoodIn wsX4_restsIn (wsV RX4 108 RX2 yX2_letGoBy wsX2_letGoBy) := goodIn_app (goodIn_of _ (by decide +kernel)) ggX4_restsIn_X2_letGoBy
theorem dX4_restsIn_0 : decode cX4_restsIn 0 = .ok (.aload_n 0, 1) := by decide +kernel
theorem dX4_restsIn_1 : decode cX4_restsIn 1 = .ok (.getfield 16, 3) := by decide +kernel
theorem dX4_restsIn_4 : decode cX4_restsIn 4 = .ok (.aload_n 0, 1) := by decide +kernel
theorem dX4_restsIn_5 : decode cX4_restsIn 5 = .ok (.getfield 12, 3) := by decide +kernel
theorem dX4_restsIn_8 : decode cX4_restsIn 8 = .ok (.invokevirtual 195, 3) := by decide +kernel
theorem dX4_restsIn_11 : decode cX4_restsIn 11 = .ok (.iconst 0, 1) := by decide +kernel
theorem dX4_restsIn_12 : decode cX4_restsIn 12 = .ok (.istore_n 1, 1) := by decide +kernel
theorem dX4_restsIn_13 : decode cX4_restsIn 13 = .ok (.iload_n 1, 1) := by decide +kernel
theorem dX4_restsIn_14 : decode cX4_restsIn 14 = .ok (.bipush 100, 2) := by decide +kernel
theorem dX4_restsIn_16 : decode cX4_restsIn 16 = .ok (.if_icmp .gt 22, 3) := by decide +kernel
theorem dX4_restsIn_19 : decode cX4_restsIn 19 = .ok (.aload_n 0, 1) := by decide +kernel
theorem dX4_restsIn_20 : decode cX4_restsIn 20 = .ok (.getfield 16, 3) := by decide +kernel
theorem dX4_restsIn_23 : decode cX4_restsIn 23 = .ok (.iconst 1, 1) := by decide +kernel
theorem dX4_restsIn_24 : decode cX4_restsIn 24 = .ok (.invokevirtual 108, 3) := by decide +kernel
theorem dX4_restsIn_27 : decode cX4_restsIn 27 = .ok (.ifCond .ne 5, 3) := by decide +kernel
theorem dX4_restsIn_30 : decode cX4_restsIn 30 = .ok (.iload_n 1, 1) := by decide +kernel
theorem dX4_restsIn_31 : decode cX4_restsIn 31 = .ok (.ireturn, 1) := by decide +kernel
theorem dX4_restsIn_32 : decode cX4_restsIn 32 = .ok (.iinc 1 1, 3) := by decide +kernel
theorem dX4_restsIn_35 : decode cX4_restsIn 35 = .ok (.goto (-22), 3) := by decide +kernel
theorem dX4_restsIn_38 : decode cX4_restsIn 38 = .ok (.iconst (-1), 1) := by decide +kernel
theorem dX4_restsIn_39 : decode cX4_restsIn 39 = .ok (.ireturn, 1) := by decide +kernel
set_option maxRecDepth 20000 in
theorem ggX4_points_X4_requireCell : GoodIn wsX4_points wsX4_requireCell := goodIn_ca (goodIn_r _ [6, 7, 8] (by decide +kernel) (by decide +kernel)) (goodIn_sub (fun _ h => List.mem_cons_of_mem _ (List.mem_append_left _ (List.mem_append_right _ h))) (by decide +kernel))
set_option maxRecDepth 20000 in
theorem gX4_points_X4_requireCell : GoodIn wsX4_points (va_wsS RX4 33 yX4_requireCell wsX4_requireCell) := goodIn_app (goodIn_of _ (by decide +kernel)) ggX4_points_X4_requireCell
set_option maxRecDepth 20000 in
theorem ggX4_points_X4_requireBetween : GoodIn wsX4_points wsX4_requireBetween := goodIn_ca (goodIn_r _ [11, 12, 13] (by decide +kernel) (by decide +kernel)) (goodIn_sub (fun _ h => List.mem_cons_of_mem _ (List.mem_append_right _ h)) (by decide +kernel))
set_option maxRecDepth 20000 in
theorem gX4_points_X4_requireBetween : GoodIn wsX4_points (va_wsS RX4 51 yX4_requireBetween wsX4_requireBetween) := goodIn_app (goodIn_of _ (by decide +kernel)) ggX4_points_X4_requireBetween
set_option maxRecDepth 20000 in
theorem ggX4_points_X2_copyFrom : GoodIn wsX4_points wsX2_copyFrom := goodIn_r _ [18, 19, 20, 21, 22, 23, 24, 25, 26, 27, 28, 29, 30, 31, 70, 71, 72, 73, 74, 75, 76, 77, 78, 79, 80, 81, 82] (by decide +kernel) (by decide +kernel)
set_option maxRecDepth 20000 in
theorem gX4_points_X2_copyFrom : GoodIn wsX4_points (wsV RX4 195 RX2 yX2_copyFrom wsX2_copyFrom) := goodIn_app (goodIn_of _ (by decide +kernel)) ggX4_points_X2_copyFrom
set_option maxRecDepth 20000 in
theorem ggX4_points_X2_letGoBy : GoodIn wsX4_points wsX2_letGoBy := goodIn_r _ [35, 31, 36, 37, 38, 17, 39, 19, 40, 41, 42, 43, 21, 26, 27, 20, 44, 5, 45, 46, 47, 48, 49, 50, 51, 24, 25, 52, 53, 54, 55, 28, 56, 57, 58, 59, 60, 61, 62, 63, 64, 65, 70, 71, 72, 73, 74, 75, 76, 77, 78, 79, 80, 81, 82] (by decide +kernel) (by decide +kernel)
set_option maxRecDepth 20000 in
theorem gX4_points_X2_letGoBy : GoodIn wsX4_points (wsV RX4 108 RX2 yX2_letGoBy wsX2_letGoBy) := goodIn_app (goodIn_of _ (by decide +kernel)) ggX4_points_X2_letGoBy
theorem dX4_points_0 : decode cX4_points 0 = .ok (.iload_n 1, 1) := by decide +kernel
theorem dX4_points_1 : decode cX4_points 1 = .ok (.invokestatic 33, 3) := by decide +kernel
theorem dX4_points_4 : decode cX4_points 4 = .ok (.iload_n 2, 1) := by decide +kernel
theorem dX4_points_5 : decode cX4_points 5 = .ok (.iconst 0, 1) := by decide +kernel
theorem dX4_points_6 : decode cX4_points 6 = .ok (.bipush 100, 2) := by decide +kernel
theorem dX4_points_8 : decode cX4_points 8 = .ok (.invokestatic 51, 3) := by decide +kernel
theorem dX4_points_11 : decode cX4_points 11 = .ok (.aload_n 0, 1) := by decide +kernel
theorem dX4_points_12 : decode cX4_points 12 = .ok (.getfield 16, 3) := by decide +kernel
theorem dX4_points_15 : decode cX4_points 15 = .ok (.aload_n 0, 1) := by decide +kernel
theorem dX4_points_16 : decode cX4_points 16 = .ok (.getfield 12, 3) := by decide +kernel
theorem dX4_points_19 : decode cX4_points 19 = .ok (.invokevirtual 195, 3) := by decide +kernel
theorem dX4_points_22 : decode cX4_points 22 = .ok (.aload_n 0, 1) := by decide +kernel
theorem dX4_points_23 : decode cX4_points 23 = .ok (.getfield 16, 3) := by decide +kernel
theorem dX4_points_26 : decode cX4_points 26 = .ok (.iload_n 2, 1) := by decide +kernel
theorem dX4_points_27 : decode cX4_points 27 = .ok (.invokevirtual 108, 3) := by decide +kernel
theorem dX4_points_30 : decode cX4_points 30 = .ok (.pop, 1) := by decide +kernel
theorem dX4_points_31 : decode cX4_points 31 = .ok (.aload_n 0, 1) := by decide +kernel
theorem dX4_points_32 : decode cX4_points 32 = .ok (.getfield 16, 3) := by decide +kernel
theorem dX4_points_35 : decode cX4_points 35 = .ok (.getfield 44, 3) := by decide +kernel
theorem dX4_points_38 : decode cX4_points 38 = .ok (.iload_n 1, 1) := by decide +kernel
theorem dX4_points_39 : decode cX4_points 39 = .ok (.iaload, 1) := by decide +kernel
theorem dX4_points_40 : decode cX4_points 40 = .ok (.ireturn, 1) := by decide +kernel
set_option maxRecDepth 20000 in
theorem ggX4_ifBar_X4_requireCell : GoodIn wsX4_ifBar wsX4_requireCell := goodIn_ca (goodIn_r _ [5, 6, 7] (by decide +kernel) (by decide +kernel)) (goodIn_sub (fun _ h => List.mem_cons_of_mem _ (List.mem_append_left _ (List.mem_append_right _ h))) (by decide +kernel))
set_option maxRecDepth 20000 in
theorem gX4_ifBar_X4_requireCell : GoodIn wsX4_ifBar (va_wsS RX4 33 yX4_requireCell wsX4_requireCell) := goodIn_app (goodIn_of _ (by decide +kernel)) ggX4_ifBar_X4_requireCell
set_option maxRecDepth 20000 in
theorem ggX4_ifBar_X4_requireDirection : GoodIn wsX4_ifBar wsX4_requireDirection := goodIn_ca (goodIn_r _ [10, 11, 12, 4, 13, 14, 15] (by decide +kernel) (by decide +kernel)) (goodIn_sub (fun _ h => List.mem_cons_of_mem _ (List.mem_append_right _ h)) (by decide +kernel))
set_option maxRecDepth 20000 in
theorem gX4_ifBar_X4_requireDirection : GoodIn wsX4_ifBar (va_wsS RX4 37 yX4_requireDirection wsX4_requireDirection) := goodIn_app (goodIn_of _ (by decide +kernel)) ggX4_ifBar_X4_requireDirection
set_option maxRecDepth 20000 in
theorem ggX4_ifBar_X4_requireBetween : GoodIn wsX4_ifBar wsX4_requireBetween := goodIn_ca (goodIn_r _ [13, 14, 15] (by decide +kernel) (by decide +kernel)) (goodIn_sub (fun _ h => List.mem_cons_of_mem _ (List.mem_append_right _ h)) (by decide +kernel))
set_option maxRecDepth 20000 in
theorem gX4_ifBar_X4_requireBetween : GoodIn wsX4_ifBar (va_wsS RX4 51 yX4_requireBetween wsX4_requireBetween) := goodIn_app (goodIn_of _ (by decide +kernel)) ggX4_ifBar_X4_requireBetween
set_option maxRecDepth 20000 in
theorem ggX4_ifBar_X2_aimIfBar : GoodIn wsX4_ifBar wsX2_aimIfBar := goodIn_r _ [20, 21, 22, 23, 24, 25, 4, 26, 27, 28, 29, 30, 31, 32, 33, 34, 35, 36, 45, 46, 47, 48, 49, 50, 51, 52, 53, 54, 55, 56, 57] (by decide +kernel) (by decide +kernel)
set_option maxRecDepth 20000 in
theorem gX4_ifBar_X2_aimIfBar : GoodIn wsX4_ifBar (wsV RX4 198 RX2 yX2_aimIfBar wsX2_aimIfBar) := goodIn_app (goodIn_of _ (by decide +kernel)) ggX4_ifBar_X2_aimIfBar
set_option maxRecDepth 20000 in
theorem ggX4_ifBar_X2_aim : GoodIn wsX4_ifBar wsX2_aim := goodIn_r _ [40, 23, 24, 35, 4, 36, 45, 46, 47, 48, 49, 50, 51, 52, 53, 54, 55, 56, 57] (by decide +kernel) (by decide +kernel)
set_option maxRecDepth 20000 in
theorem gX4_ifBar_X2_aim : GoodIn wsX4_ifBar (wsV RX4 153 RX2 yX2_aim wsX2_aim) := goodIn_app (goodIn_of _ (by decide +kernel)) ggX4_ifBar_X2_aim
theorem dX4_ifBar_0 : decode cX4_ifBar 0 = .ok (.iload_n 1, 1) := by decide +kernel
theorem dX4_ifBar_1 : decode cX4_ifBar 1 = .ok (.invokestatic 33, 3) := by decide +kernel
theorem dX4_ifBar_4 : decode cX4_ifBar 4 = .ok (.iload_n 2, 1) := by decide +kernel
theorem dX4_ifBar_5 : decode cX4_ifBar 5 = .ok (.invokestatic 37, 3) := by decide +kernel
theorem dX4_ifBar_8 : decode cX4_ifBar 8 = .ok (.iload_n 3, 1) := by decide +kernel
theorem dX4_ifBar_9 : decode cX4_ifBar 9 = .ok (.iconst 1, 1) := by decide +kernel
theorem dX4_ifBar_10 : decode cX4_ifBar 10 = .ok (.bipush 50, 2) := by decide +kernel
theorem dX4_ifBar_12 : decode cX4_ifBar 12 = .ok (.invokestatic 51, 3) := by decide +kernel
theorem dX4_ifBar_15 : decode cX4_ifBar 15 = .ok (.iconst 0, 1) := by decide +kernel
theorem dX4_ifBar_16 : decode cX4_ifBar 16 = .ok (.istore 4, 2) := by decide +kernel
theorem dX4_ifBar_18 : decode cX4_ifBar 18 = .ok (.iconst 0, 1) := by decide +kernel
theorem dX4_ifBar_19 : decode cX4_ifBar 19 = .ok (.istore 5, 2) := by decide +kernel
theorem dX4_ifBar_21 : decode cX4_ifBar 21 = .ok (.iload 5, 2) := by decide +kernel
theorem dX4_ifBar_23 : decode cX4_ifBar 23 = .ok (.bipush 36, 2) := by decide +kernel
theorem dX4_ifBar_25 : decode cX4_ifBar 25 = .ok (.if_icmp .ge 36, 3) := by decide +kernel
theorem dX4_ifBar_28 : decode cX4_ifBar 28 = .ok (.aload_n 0, 1) := by decide +kernel
theorem dX4_ifBar_29 : decode cX4_ifBar 29 = .ok (.getfield 12, 3) := by decide +kernel
theorem dX4_ifBar_32 : decode cX4_ifBar 32 = .ok (.iload 5, 2) := by decide +kernel
theorem dX4_ifBar_34 : decode cX4_ifBar 34 = .ok (.iload_n 1, 1) := by decide +kernel
theorem dX4_ifBar_35 : decode cX4_ifBar 35 = .ok (.iload_n 2, 1) := by decide +kernel
theorem dX4_ifBar_36 : decode cX4_ifBar 36 = .ok (.iload_n 3, 1) := by decide +kernel
theorem dX4_ifBar_37 : decode cX4_ifBar 37 = .ok (.invokevirtual 198, 3) := by decide +kernel
theorem dX4_ifBar_40 : decode cX4_ifBar 40 = .ok (.aload_n 0, 1) := by decide +kernel
theorem dX4_ifBar_41 : decode cX4_ifBar 41 = .ok (.getfield 12, 3) := by decide +kernel
theorem dX4_ifBar_44 : decode cX4_ifBar 44 = .ok (.iload 5, 2) := by decide +kernel
theorem dX4_ifBar_46 : decode cX4_ifBar 46 = .ok (.invokevirtual 153, 3) := by decide +kernel
theorem dX4_ifBar_49 : decode cX4_ifBar 49 = .ok (.if_icmp .eq 6, 3) := by decide +kernel
theorem dX4_ifBar_52 : decode cX4_ifBar 52 = .ok (.iinc 4 1, 3) := by decide +kernel
theorem dX4_ifBar_55 : decode cX4_ifBar 55 = .ok (.iinc 5 1, 3) := by decide +kernel
theorem dX4_ifBar_58 : decode cX4_ifBar 58 = .ok (.goto (-37), 3) := by decide +kernel
theorem dX4_ifBar_61 : decode cX4_ifBar 61 = .ok (.iload 4, 2) := by decide +kernel
theorem dX4_ifBar_63 : decode cX4_ifBar 63 = .ok (.ireturn, 1) := by decide +kernel
set_option maxRecDepth 20000 in
theorem ggX4_bestBar_X4_requireCell : GoodIn wsX4_bestBar wsX4_requireCell := goodIn_ca (goodIn_r _ [5, 6, 7] (by decide +kernel) (by decide +kernel)) (goodIn_sub (fun _ h => List.mem_cons_of_mem _ (List.mem_append_left _ (List.mem_append_right _ h))) (by decide +kernel))
set_option maxRecDepth 20000 in
theorem gX4_bestBar_X4_requireCell : GoodIn wsX4_bestBar (va_wsS RX4 33 yX4_requireCell wsX4_requireCell) := goodIn_app (goodIn_of _ (by decide +kernel)) ggX4_bestBar_X4_requireCell
set_option maxRecDepth 20000 in
theorem ggX4_bestBar_X4_requireDirection : GoodIn wsX4_bestBar wsX4_requireDirection := goodIn_ca (goodIn_r _ [10, 11, 12, 4, 13, 14, 15] (by decide +kernel) (by decide +kernel)) (goodIn_sub (fun _ h => List.mem_cons_of_mem _ (List.mem_append_right _ h)) (by decide +kernel))
set_option maxRecDepth 20000 in
theorem gX4_bestBar_X4_requireDirection : GoodIn wsX4_bestBar (va_wsS RX4 37 yX4_requireDirection wsX4_requireDirection) := goodIn_app (goodIn_of _ (by decide +kernel)) ggX4_bestBar_X4_requireDirection
set_option maxRecDepth 20000 in
theorem ggX4_bestBar_X4_requireBetween : GoodIn wsX4_bestBar wsX4_requireBetween := goodIn_ca (goodIn_r _ [13, 14, 15] (by decide +kernel) (by decide +kernel)) (goodIn_sub (fun _ h => List.mem_cons_of_mem _ (List.mem_append_right _ h)) (by decide +kernel))
set_option maxRecDepth 20000 in
theorem gX4_bestBar_X4_requireBetween : GoodIn wsX4_bestBar (va_wsS RX4 51 yX4_requireBetween wsX4_requireBetween) := goodIn_app (goodIn_of _ (by decide +kernel)) ggX4_bestBar_X4_requireBetween
set_option maxRecDepth 20000 in
theorem ggX4_bestBar_X2_aimIfBar : GoodIn wsX4_bestBar wsX2_aimIfBar := goodIn_r _ [20, 21, 22, 23, 24, 25, 4, 26, 27, 28, 29, 30, 31, 32, 33, 34, 35, 36, 41, 42, 43, 44, 45, 46, 47, 48, 49, 50, 51, 52, 53] (by decide +kernel) (by decide +kernel)
set_option maxRecDepth 20000 in
theorem gX4_bestBar_X2_aimIfBar : GoodIn wsX4_bestBar (wsV RX4 198 RX2 yX2_aimIfBar wsX2_aimIfBar) := goodIn_app (goodIn_of _ (by decide +kernel)) ggX4_bestBar_X2_aimIfBar
theorem dX4_bestBar_0 : decode cX4_bestBar 0 = .ok (.iload_n 1, 1) := by decide +kernel
theorem dX4_bestBar_1 : decode cX4_bestBar 1 = .ok (.invokestatic 33, 3) := by decide +kernel
theorem dX4_bestBar_4 : decode cX4_bestBar 4 = .ok (.iload_n 2, 1) := by decide +kernel
theorem dX4_bestBar_5 : decode cX4_bestBar 5 = .ok (.invokestatic 37, 3) := by decide +kernel
theorem dX4_bestBar_8 : decode cX4_bestBar 8 = .ok (.iload_n 3, 1) := by decide +kernel
theorem dX4_bestBar_9 : decode cX4_bestBar 9 = .ok (.iconst 1, 1) := by decide +kernel
theorem dX4_bestBar_10 : decode cX4_bestBar 10 = .ok (.bipush 50, 2) := by decide +kernel
theorem dX4_bestBar_12 : decode cX4_bestBar 12 = .ok (.invokestatic 51, 3) := by decide +kernel
theorem dX4_bestBar_15 : decode cX4_bestBar 15 = .ok (.iconst 0, 1) := by decide +kernel
theorem dX4_bestBar_16 : decode cX4_bestBar 16 = .ok (.istore 4, 2) := by decide +kernel
theorem dX4_bestBar_18 : decode cX4_bestBar 18 = .ok (.iload 4, 2) := by decide +kernel
theorem dX4_bestBar_20 : decode cX4_bestBar 20 = .ok (.bipush 36, 2) := by decide +kernel
theorem dX4_bestBar_22 : decode cX4_bestBar 22 = .ok (.if_icmp .ge 51, 3) := by decide +kernel
theorem dX4_bestBar_25 : decode cX4_bestBar 25 = .ok (.iconst 0, 1) := by decide +kernel
theorem dX4_bestBar_26 : decode cX4_bestBar 26 = .ok (.istore 5, 2) := by decide +kernel
theorem dX4_bestBar_28 : decode cX4_bestBar 28 = .ok (.iload 5, 2) := by decide +kernel
theorem dX4_bestBar_30 : decode cX4_bestBar 30 = .ok (.bipush 8, 2) := by decide +kernel
theorem dX4_bestBar_32 : decode cX4_bestBar 32 = .ok (.if_icmp .ge 35, 3) := by decide +kernel
theorem dX4_bestBar_35 : decode cX4_bestBar 35 = .ok (.aload_n 0, 1) := by decide +kernel
theorem dX4_bestBar_36 : decode cX4_bestBar 36 = .ok (.getfield 12, 3) := by decide +kernel
theorem dX4_bestBar_39 : decode cX4_bestBar 39 = .ok (.iload_n 1, 1) := by decide +kernel
theorem dX4_bestBar_40 : decode cX4_bestBar 40 = .ok (.iload 4, 2) := by decide +kernel
theorem dX4_bestBar_42 : decode cX4_bestBar 42 = .ok (.iload 5, 2) := by decide +kernel
theorem dX4_bestBar_44 : decode cX4_bestBar 44 = .ok (.iload_n 3, 1) := by decide +kernel
theorem dX4_bestBar_45 : decode cX4_bestBar 45 = .ok (.invokevirtual 198, 3) := by decide +kernel
theorem dX4_bestBar_48 : decode cX4_bestBar 48 = .ok (.iload_n 2, 1) := by decide +kernel
theorem dX4_bestBar_49 : decode cX4_bestBar 49 = .ok (.if_icmp .ne 12, 3) := by decide +kernel
theorem dX4_bestBar_52 : decode cX4_bestBar 52 = .ok (.iload 4, 2) := by decide +kernel
theorem dX4_bestBar_54 : decode cX4_bestBar 54 = .ok (.bipush 8, 2) := by decide +kernel
theorem dX4_bestBar_56 : decode cX4_bestBar 56 = .ok (.imul, 1) := by decide +kernel
theorem dX4_bestBar_57 : decode cX4_bestBar 57 = .ok (.iload 5, 2) := by decide +kernel
theorem dX4_bestBar_59 : decode cX4_bestBar 59 = .ok (.iadd, 1) := by decide +kernel
theorem dX4_bestBar_60 : decode cX4_bestBar 60 = .ok (.ireturn, 1) := by decide +kernel
theorem dX4_bestBar_61 : decode cX4_bestBar 61 = .ok (.iinc 5 1, 3) := by decide +kernel
theorem dX4_bestBar_64 : decode cX4_bestBar 64 = .ok (.goto (-36), 3) := by decide +kernel
theorem dX4_bestBar_67 : decode cX4_bestBar 67 = .ok (.iinc 4 1, 3) := by decide +kernel
theorem dX4_bestBar_70 : decode cX4_bestBar 70 = .ok (.goto (-52), 3) := by decide +kernel
theorem dX4_bestBar_73 : decode cX4_bestBar 73 = .ok (.iconst (-1), 1) := by decide +kernel
theorem dX4_bestBar_74 : decode cX4_bestBar 74 = .ok (.ireturn, 1) := by decide +kernel
set_option maxRecDepth 20000 in
theorem ggX4_leastTurns_X4_requireCell : GoodIn wsX4_leastTurns wsX4_requireCell := goodIn_ca (goodIn_r _ [5, 6, 7] (by decide +kernel) (by decide +kernel)) (goodIn_sub (fun _ h => List.mem_cons_of_mem _ (List.mem_append_right _ h)) (by decide +kernel))
set_option maxRecDepth 20000 in
theorem gX4_leastTurns_X4_requireCell : GoodIn wsX4_leastTurns (va_wsS RX4 33 yX4_requireCell wsX4_requireCell) := goodIn_app (goodIn_of _ (by decide +kernel)) ggX4_leastTurns_X4_requireCell
set_option maxRecDepth 20000 in
theorem ggX4_leastTurns_X2_aimIfTurns : GoodIn wsX4_leastTurns wsX2_aimIfTurns := goodIn_r _ [12, 13, 14, 15, 16, 17, 18, 4, 19, 20, 21, 22, 23, 24, 25, 30, 31, 32, 33, 34, 35, 36, 37, 38, 39, 40, 41, 42] (by decide +kernel) (by decide +kernel)
set_option maxRecDepth 20000 in
theorem gX4_leastTurns_X2_aimIfTurns : GoodIn wsX4_leastTurns (wsV RX4 202 RX2 yX2_aimIfTurns wsX2_aimIfTurns) := goodIn_app (goodIn_of _ (by decide +kernel)) ggX4_leastTurns_X2_aimIfTurns
theorem dX4_leastTurns_0 : decode cX4_leastTurns 0 = .ok (.iload_n 1, 1) := by decide +kernel
theorem dX4_leastTurns_1 : decode cX4_leastTurns 1 = .ok (.invokestatic 33, 3) := by decide +kernel
theorem dX4_leastTurns_4 : decode cX4_leastTurns 4 = .ok (.iconst 0, 1) := by decide +kernel
theorem dX4_leastTurns_5 : decode cX4_leastTurns 5 = .ok (.istore_n 2, 1) := by decide +kernel
theorem dX4_leastTurns_6 : decode cX4_leastTurns 6 = .ok (.iload_n 2, 1) := by decide +kernel
theorem dX4_leastTurns_7 : decode cX4_leastTurns 7 = .ok (.bipush 50, 2) := by decide +kernel
theorem dX4_leastTurns_9 : decode cX4_leastTurns 9 = .ok (.if_icmp .gt 30, 3) := by decide +kernel
theorem dX4_leastTurns_12 : decode cX4_leastTurns 12 = .ok (.aload_n 0, 1) := by decide +kernel
theorem dX4_leastTurns_13 : decode cX4_leastTurns 13 = .ok (.getfield 12, 3) := by decide +kernel
theorem dX4_leastTurns_16 : decode cX4_leastTurns 16 = .ok (.iload_n 1, 1) := by decide +kernel
theorem dX4_leastTurns_17 : decode cX4_leastTurns 17 = .ok (.iload_n 2, 1) := by decide +kernel
theorem dX4_leastTurns_18 : decode cX4_leastTurns 18 = .ok (.invokevirtual 202, 3) := by decide +kernel
theorem dX4_leastTurns_21 : decode cX4_leastTurns 21 = .ok (.aload_n 0, 1) := by decide +kernel
theorem dX4_leastTurns_22 : decode cX4_leastTurns 22 = .ok (.getfield 12, 3) := by decide +kernel
theorem dX4_leastTurns_25 : decode cX4_leastTurns 25 = .ok (.getfield 96, 3) := by decide +kernel
theorem dX4_leastTurns_28 : decode cX4_leastTurns 28 = .ok (.if_icmp .ne 5, 3) := by decide +kernel
theorem dX4_leastTurns_31 : decode cX4_leastTurns 31 = .ok (.iload_n 2, 1) := by decide +kernel
theorem dX4_leastTurns_32 : decode cX4_leastTurns 32 = .ok (.ireturn, 1) := by decide +kernel
theorem dX4_leastTurns_33 : decode cX4_leastTurns 33 = .ok (.iinc 2 1, 3) := by decide +kernel
theorem dX4_leastTurns_36 : decode cX4_leastTurns 36 = .ok (.goto (-30), 3) := by decide +kernel
theorem dX4_leastTurns_39 : decode cX4_leastTurns 39 = .ok (.iconst (-1), 1) := by decide +kernel
theorem dX4_leastTurns_40 : decode cX4_leastTurns 40 = .ok (.ireturn, 1) := by decide +kernel
set_option maxRecDepth 20000 in
theorem ggX4_obedience_X2_aimedCount : GoodIn wsX4_obedience wsX2_aimedCount := goodIn_r _ [6, 7, 8, 9, 5, 10, 11, 12, 13, 14, 15, 25, 26, 27, 28, 29, 30, 31, 32, 33, 34, 35, 36, 37] (by decide +kernel) (by decide +kernel)
set_option maxRecDepth 20000 in
theorem gX4_obedience_X2_aimedCount : GoodIn wsX4_obedience (wsV RX4 206 RX2 yX2_aimedCount wsX2_aimedCount) := goodIn_app (goodIn_of _ (by decide +kernel)) ggX4_obedience_X2_aimedCount
set_option maxRecDepth 20000 in
theorem ggX4_obedience_X2_obeyingCount : GoodIn wsX4_obedience wsX2_obeyingCount := goodIn_r _ [19, 20, 7, 8, 9, 5, 10, 11, 12, 13, 14, 15, 25, 26, 27, 28, 29, 30, 31, 32, 33, 34, 35, 36, 37] (by decide +kernel) (by decide +kernel)
set_option maxRecDepth 20000 in
theorem gX4_obedience_X2_obeyingCount : GoodIn wsX4_obedience (wsV RX4 184 RX2 yX2_obeyingCount wsX2_obeyingCount) := goodIn_app (goodIn_of _ (by decide +kernel)) ggX4_obedience_X2_obeyingCount
theorem dX4_obedience_0 : decode cX4_obedience 0 = .ok (.aload_n 0, 1) := by decide +kernel
theorem dX4_obedience_1 : decode cX4_obedience 1 = .ok (.getfield 12, 3) := by decide +kernel
theorem dX4_obedience_4 : decode cX4_obedience 4 = .ok (.invokevirtual 206, 3) := by decide +kernel
theorem dX4_obedience_7 : decode cX4_obedience 7 = .ok (.istore_n 1, 1) := by decide +kernel
theorem dX4_obedience_8 : decode cX4_obedience 8 = .ok (.iload_n 1, 1) := by decide +kernel
theorem dX4_obedience_9 : decode cX4_obedience 9 = .ok (.ifCond .ne 5, 3) := by decide +kernel
theorem dX4_obedience_12 : decode cX4_obedience 12 = .ok (.dconst 1, 1) := by decide +kernel
theorem dX4_obedience_13 : decode cX4_obedience 13 = .ok (.dreturn, 1) := by decide +kernel
theorem dX4_obedience_14 : decode cX4_obedience 14 = .ok (.aload_n 0, 1) := by decide +kernel
theorem dX4_obedience_15 : decode cX4_obedience 15 = .ok (.getfield 12, 3) := by decide +kernel
theorem dX4_obedience_18 : decode cX4_obedience 18 = .ok (.invokevirtual 184, 3) := by decide +kernel
theorem dX4_obedience_21 : decode cX4_obedience 21 = .ok (.i2d, 1) := by decide +kernel
theorem dX4_obedience_22 : decode cX4_obedience 22 = .ok (.iload_n 1, 1) := by decide +kernel
theorem dX4_obedience_23 : decode cX4_obedience 23 = .ok (.i2d, 1) := by decide +kernel
theorem dX4_obedience_24 : decode cX4_obedience 24 = .ok (.ddiv, 1) := by decide +kernel
theorem dX4_obedience_25 : decode cX4_obedience 25 = .ok (.dreturn, 1) := by decide +kernel
set_option maxRecDepth 20000 in
theorem ggX4_digest_X4_count : GoodIn wsX4_digest wsX4_count := goodIn_ca (goodIn_r _ [6, 7, 8, 9, 10, 11, 12, 13, 14, 15, 16, 17, 18, 19, 20, 21, 22, 23, 24, 25, 26, 27, 28, 29, 30, 31, 32, 33, 34, 35, 36, 37, 38, 39, 40, 41, 42, 5, 43, 44, 45, 46, 47, 48, 49, 50, 51, 52, 53, 54, 55, 56, 57, 58, 59, 60, 61, 205, 206, 207, 208, 209, 210, 211, 212, 213, 214, 215, 216, 217, 218, 219, 220, 221, 222, 223, 224] (by decide +kernel) (by decide +kernel)) (goodIn_sub (fun _ h => List.mem_cons_of_mem _ (List.mem_append_left _ (List.mem_append_right _ h))) (by decide +kernel))
end
section
set_option maxRecDepth 20000 in
theorem gX4_digest_X4_count : GoodIn wsX4_digest (wsV RX4 211 RX4 yX4_count wsX4_count) := goodIn_app (goodIn_of _ (by decide +kernel)) ggX4_digest_X4_count
set_option maxRecDepth 20000 in
theorem ggX4_digest_X4_mixed : GoodIn wsX4_digest wsX4_mixed := goodIn_r _ [64, 65] (by decide +kernel) (by decide +kernel)
set_option maxRecDepth 20000 in
theorem gX4_digest_X4_mixed : GoodIn wsX4_digest (va_wsS RX4 214 yX4_mixed wsX4_mixed) := goodIn_app (goodIn_of _ (by decide +kernel)) ggX4_digest_X4_mixed
set_option maxRecDepth 20000 in
theorem ggX4_digest_X4_setting : GoodIn wsX4_digest wsX4_setting := goodIn_ca (goodIn_r _ [69, 9, 70, 71, 5, 72, 73, 74, 205, 206, 207, 208, 209, 210, 211, 212, 213, 214, 215, 216, 217, 218, 219, 220, 221] (by decide +kernel) (by decide +kernel)) (goodIn_sub (fun _ h => List.mem_cons_of_mem _ (List.mem_append_right _ h)) (by decide +kernel))
set_option maxRecDepth 20000 in
theorem gX4_digest_X4_setting : GoodIn wsX4_digest (wsV RX4 218 RX4 yX4_setting wsX4_setting) := goodIn_app (goodIn_of _ (by decide +kernel)) ggX4_digest_X4_setting
set_option maxRecDepth 20000 in
theorem ggX4_digest_X4_withCells : GoodIn wsX4_digest wsX4_withCells := goodIn_ca (goodIn_ca (goodIn_r _ [78, 79, 80, 81, 5, 82, 7, 8, 9, 83, 84, 85, 86, 73, 74, 87, 51, 52, 14, 53, 39, 40, 42, 43, 88, 31, 32, 33, 34, 35, 36, 37, 38, 25, 41, 44, 45, 89, 59, 60, 61, 50, 62, 63, 64, 65, 205, 206, 207, 208, 209, 210, 211, 212, 213, 214, 215, 216, 217, 218, 219, 220, 221] (by decide +kernel) (by decide +kernel)) (goodIn_sub (fun _ h => List.mem_cons_of_mem _ (List.mem_append_left _ (List.mem_append_right _ h))) (by decide +kernel))) (goodIn_sub (fun _ h => List.mem_cons_of_mem _ (List.mem_append_right _ h)) (by decide +kernel))
set_option maxRecDepth 20000 in
theorem gX4_digest_X4_withCells : GoodIn wsX4_digest (wsV RX4 221 RX4 yX4_withCells wsX4_withCells) := goodIn_app (goodIn_of _ (by decide +kernel)) ggX4_digest_X4_withCells
set_option maxRecDepth 20000 in
theorem ggX4_digest_X4_withBars : GoodIn wsX4_digest wsX4_withBars := goodIn_ca (goodIn_r _ [93, 9, 11, 12, 13, 14, 15, 16, 17, 18, 19, 20, 94, 95, 96, 5, 97, 7, 8, 98, 99, 100, 101, 102, 103, 104, 62, 63, 64, 65, 205, 206, 207, 208, 209, 210, 211, 212, 213, 214, 215, 216, 217, 218, 219, 220, 221] (by decide +kernel) (by decide +kernel)) (goodIn_sub (fun _ h => List.mem_cons_of_mem _ (List.mem_append_left _ (List.mem_append_right _ h))) (by decide +kernel))
set_option maxRecDepth 20000 in
theorem gX4_digest_X4_withBars : GoodIn wsX4_digest (wsV RX4 225 RX4 yX4_withBars wsX4_withBars) := goodIn_app (goodIn_of _ (by decide +kernel)) ggX4_digest_X4_withBars
set_option maxRecDepth 20000 in
theorem ggX4_digest_X4_pointing : GoodIn wsX4_digest wsX4_pointing := goodIn_ca (goodIn_r _ [108, 9, 109, 110, 5, 111, 98, 99, 100, 7, 8, 112, 113, 114, 14, 115, 34, 205, 206, 207, 208, 209, 210, 211, 212, 213, 214, 215, 216, 217, 218, 219, 220, 221] (by decide +kernel) (by decide +kernel)) (goodIn_sub (fun _ h => List.mem_cons_of_mem _ (List.mem_append_left _ (List.mem_append_right _ h))) (by decide +kernel))
set_option maxRecDepth 20000 in
theorem gX4_digest_X4_pointing : GoodIn wsX4_digest (wsV RX4 228 RX4 yX4_pointing wsX4_pointing) := goodIn_app (goodIn_of _ (by decide +kernel)) ggX4_digest_X4_pointing
set_option maxRecDepth 20000 in
theorem ggX4_digest_X4_restsIn : GoodIn wsX4_digest wsX4_restsIn := goodIn_r _ [119, 120, 9, 121, 122, 123, 14, 124, 34, 41, 25, 125, 20, 126, 127, 39, 40, 128, 129, 130, 131, 132, 133, 134, 135, 136, 137, 138, 139, 35, 36, 37, 38, 42, 5, 43, 44, 45, 140, 141, 142, 143, 144, 145, 146, 147, 148, 149, 150, 151, 152, 153, 154, 155, 156, 157, 205, 206, 207, 208, 209, 210, 211, 212, 213, 214, 215, 216, 217, 218, 219, 220, 221] (by decide +kernel) (by decide +kernel)
set_option maxRecDepth 20000 in
theorem gX4_digest_X4_restsIn : GoodIn wsX4_digest (wsV RX4 231 RX4 yX4_restsIn wsX4_restsIn) := goodIn_app (goodIn_of _ (by decide +kernel)) ggX4_digest_X4_restsIn
set_option maxRecDepth 20000 in
theorem ggX4_digest_X4_points : GoodIn wsX4_digest wsX4_points := goodIn_ca (goodIn_ca (goodIn_r _ [161, 120, 9, 84, 85, 5, 86, 73, 74, 98, 99, 100, 7, 8, 121, 122, 123, 14, 124, 34, 41, 25, 125, 20, 126, 127, 39, 40, 128, 129, 130, 131, 132, 133, 134, 135, 136, 137, 138, 139, 35, 36, 37, 38, 42, 43, 44, 45, 140, 141, 142, 143, 144, 145, 146, 147, 148, 149, 150, 151, 152, 153, 154, 155, 156, 157, 205, 206, 207, 208, 209, 210, 211, 212, 213, 214, 215, 216, 217, 218, 219, 220, 221] (by decide +kernel) (by decide +kernel)) (goodIn_sub (fun _ h => List.mem_cons_of_mem _ (List.mem_append_right _ h)) (by decide +kernel))) (goodIn_sub (fun _ h => List.mem_cons_of_mem _ (List.mem_append_left _ (List.mem_append_right _ h))) (by decide +kernel))
set_option maxRecDepth 20000 in
theorem gX4_digest_X4_points : GoodIn wsX4_digest (wsV RX4 234 RX4 yX4_points wsX4_points) := goodIn_app (goodIn_of _ (by decide +kernel)) ggX4_digest_X4_points
set_option maxRecDepth 20000 in
theorem ggX4_digest_X4_ifBar : GoodIn wsX4_digest wsX4_ifBar := goodIn_ca (goodIn_ca (goodIn_r _ [165, 9, 84, 85, 5, 86, 73, 74, 109, 110, 111, 98, 99, 100, 7, 8, 166, 167, 168, 14, 169, 125, 20, 39, 40, 170, 171, 172, 148, 149, 150, 173, 151, 152, 153, 42, 43, 87, 51, 52, 53, 205, 206, 207, 208, 209, 210, 211, 212, 213, 214, 215, 216, 217, 218, 219, 220, 221] (by decide +kernel) (by decide +kernel)) (goodIn_sub (fun _ h => List.mem_cons_of_mem _ (List.mem_append_right _ h)) (by decide +kernel))) (goodIn_sub (fun _ h => List.mem_cons_of_mem _ (List.mem_append_left _ (List.mem_append_right _ h))) (by decide +kernel))
set_option maxRecDepth 20000 in
theorem gX4_digest_X4_ifBar : GoodIn wsX4_digest (wsV RX4 237 RX4 yX4_ifBar wsX4_ifBar) := goodIn_app (goodIn_of _ (by decide +kernel)) ggX4_digest_X4_ifBar
set_option maxRecDepth 20000 in
theorem ggX4_digest_X4_bestBar : GoodIn wsX4_digest wsX4_bestBar := goodIn_ca (goodIn_ca (goodIn_r _ [177, 9, 84, 85, 5, 86, 73, 74, 109, 110, 111, 98, 99, 100, 7, 8, 166, 167, 168, 14, 169, 125, 20, 39, 40, 170, 171, 172, 148, 149, 150, 173, 151, 152, 153, 42, 43, 205, 206, 207, 208, 209, 210, 211, 212, 213, 214, 215, 216, 217, 218, 219, 220, 221] (by decide +kernel) (by decide +kernel)) (goodIn_sub (fun _ h => List.mem_cons_of_mem _ (List.mem_append_right _ h)) (by decide +kernel))) (goodIn_sub (fun _ h => List.mem_cons_of_mem _ (List.mem_append_left _ (List.mem_append_right _ h))) (by decide +kernel))
set_option maxRecDepth 20000 in
theorem gX4_digest_X4_bestBar : GoodIn wsX4_digest (wsV RX4 241 RX4 yX4_bestBar wsX4_bestBar) := goodIn_app (goodIn_of _ (by decide +kernel)) ggX4_digest_X4_bestBar
set_option maxRecDepth 20000 in
theorem ggX4_digest_X4_leastTurns : GoodIn wsX4_digest wsX4_leastTurns := goodIn_ca (goodIn_r _ [181, 9, 84, 85, 5, 86, 73, 74, 182, 183, 184, 14, 185, 128, 129, 39, 130, 40, 148, 149, 150, 151, 152, 153, 42, 43, 205, 206, 207, 208, 209, 210, 211, 212, 213, 214, 215, 216, 217, 218, 219, 220, 221] (by decide +kernel) (by decide +kernel)) (goodIn_sub (fun _ h => List.mem_cons_of_mem _ (List.mem_append_right _ h)) (by decide +kernel))
set_option maxRecDepth 20000 in
theorem gX4_digest_X4_leastTurns : GoodIn wsX4_digest (wsV RX4 244 RX4 yX4_leastTurns wsX4_leastTurns) := goodIn_app (goodIn_of _ (by decide +kernel)) ggX4_digest_X4_leastTurns
set_option maxRecDepth 20000 in
theorem ggX4_digest_X4_obedience : GoodIn wsX4_digest wsX4_obedience := goodIn_r _ [189, 9, 190, 191, 192, 14, 193, 50, 51, 52, 53, 39, 40, 42, 5, 43, 46, 47, 48, 49, 34, 205, 206, 207, 208, 209, 210, 211, 212, 213, 214, 215, 216, 217, 218, 219, 220, 221] (by decide +kernel) (by decide +kernel)
set_option maxRecDepth 20000 in
theorem gX4_digest_X4_obedience : GoodIn wsX4_digest (wsV RX4 247 RX4 yX4_obedience wsX4_obedience) := goodIn_app (goodIn_of _ (by decide +kernel)) ggX4_digest_X4_obedience
set_option maxRecDepth 20000 in
theorem ggX4_digest_X4_bitsOf : GoodIn wsX4_digest wsX4_bitsOf := goodIn_r _ [196, 197, 198, 199] (by decide +kernel) (by decide +kernel)
set_option maxRecDepth 20000 in
theorem gX4_digest_X4_bitsOf : GoodIn wsX4_digest (va_wsS RX4 251 yX4_bitsOf wsX4_bitsOf) := goodIn_app (goodIn_of _ (by decide +kernel)) ggX4_digest_X4_bitsOf
set_option maxRecDepth 20000 in
theorem ggX4_digest_X4_withBuffer : GoodIn wsX4_digest wsX4_withBuffer := goodIn_r _ [203, 204, 62, 63, 5, 64, 65, 205, 206, 207, 208, 225, 226, 227] (by decide +kernel) (by decide +kernel)
set_option maxRecDepth 20000 in
theorem gX4_digest_X4_withBuffer : GoodIn wsX4_digest (wsV RX4 255 RX4 yX4_withBuffer wsX4_withBuffer) := goodIn_app (goodIn_of _ (by decide +kernel)) ggX4_digest_X4_withBuffer
theorem dX4_digest_0 : decode cX4_digest 0 = .ok (.ldc2_w 209, 3) := by decide +kernel
theorem dX4_digest_3 : decode cX4_digest 3 = .ok (.lstore_n 1, 1) := by decide +kernel
theorem dX4_digest_4 : decode cX4_digest 4 = .ok (.iconst 0, 1) := by decide +kernel
theorem dX4_digest_5 : decode cX4_digest 5 = .ok (.istore_n 3, 1) := by decide +kernel
theorem dX4_digest_6 : decode cX4_digest 6 = .ok (.iload_n 3, 1) := by decide +kernel
theorem dX4_digest_7 : decode cX4_digest 7 = .ok (.bipush 9, 2) := by decide +kernel
theorem dX4_digest_9 : decode cX4_digest 9 = .ok (.if_icmp .ge 20, 3) := by decide +kernel
theorem dX4_digest_12 : decode cX4_digest 12 = .ok (.lload_n 1, 1) := by decide +kernel
theorem dX4_digest_13 : decode cX4_digest 13 = .ok (.aload_n 0, 1) := by decide +kernel
theorem dX4_digest_14 : decode cX4_digest 14 = .ok (.iload_n 3, 1) := by decide +kernel
theorem dX4_digest_15 : decode cX4_digest 15 = .ok (.invokevirtual 211, 3) := by decide +kernel
theorem dX4_digest_18 : decode cX4_digest 18 = .ok (.i2l, 1) := by decide +kernel
theorem dX4_digest_19 : decode cX4_digest 19 = .ok (.invokestatic 214, 3) := by decide +kernel
theorem dX4_digest_22 : decode cX4_digest 22 = .ok (.lstore_n 1, 1) := by decide +kernel
theorem dX4_digest_23 : decode cX4_digest 23 = .ok (.iinc 3 1, 3) := by decide +kernel
theorem dX4_digest_26 : decode cX4_digest 26 = .ok (.goto (-20), 3) := by decide +kernel
theorem dX4_digest_29 : decode cX4_digest 29 = .ok (.iconst 0, 1) := by decide +kernel
theorem dX4_digest_30 : decode cX4_digest 30 = .ok (.istore_n 3, 1) := by decide +kernel
theorem dX4_digest_31 : decode cX4_digest 31 = .ok (.iload_n 3, 1) := by decide +kernel
theorem dX4_digest_32 : decode cX4_digest 32 = .ok (.iconst 3, 1) := by decide +kernel
theorem dX4_digest_33 : decode cX4_digest 33 = .ok (.if_icmp .ge 20, 3) := by decide +kernel
theorem dX4_digest_36 : decode cX4_digest 36 = .ok (.lload_n 1, 1) := by decide +kernel
theorem dX4_digest_37 : decode cX4_digest 37 = .ok (.aload_n 0, 1) := by decide +kernel
theorem dX4_digest_38 : decode cX4_digest 38 = .ok (.iload_n 3, 1) := by decide +kernel
theorem dX4_digest_39 : decode cX4_digest 39 = .ok (.invokevirtual 218, 3) := by decide +kernel
theorem dX4_digest_42 : decode cX4_digest 42 = .ok (.i2l, 1) := by decide +kernel
theorem dX4_digest_43 : decode cX4_digest 43 = .ok (.invokestatic 214, 3) := by decide +kernel
theorem dX4_digest_46 : decode cX4_digest 46 = .ok (.lstore_n 1, 1) := by decide +kernel
theorem dX4_digest_47 : decode cX4_digest 47 = .ok (.iinc 3 1, 3) := by decide +kernel
theorem dX4_digest_50 : decode cX4_digest 50 = .ok (.goto (-19), 3) := by decide +kernel
theorem dX4_digest_53 : decode cX4_digest 53 = .ok (.aload_n 0, 1) := by decide +kernel
theorem dX4_digest_54 : decode cX4_digest 54 = .ok (.lload_n 1, 1) := by decide +kernel
theorem dX4_digest_55 : decode cX4_digest 55 = .ok (.invokevirtual 221, 3) := by decide +kernel
theorem dX4_digest_58 : decode cX4_digest 58 = .ok (.lstore_n 1, 1) := by decide +kernel
theorem dX4_digest_59 : decode cX4_digest 59 = .ok (.aload_n 0, 1) := by decide +kernel
theorem dX4_digest_60 : decode cX4_digest 60 = .ok (.lload_n 1, 1) := by decide +kernel
theorem dX4_digest_61 : decode cX4_digest 61 = .ok (.invokevirtual 225, 3) := by decide +kernel
theorem dX4_digest_64 : decode cX4_digest 64 = .ok (.lstore_n 1, 1) := by decide +kernel
theorem dX4_digest_65 : decode cX4_digest 65 = .ok (.iconst 0, 1) := by decide +kernel
theorem dX4_digest_66 : decode cX4_digest 66 = .ok (.istore_n 3, 1) := by decide +kernel
theorem dX4_digest_67 : decode cX4_digest 67 = .ok (.iload_n 3, 1) := by decide +kernel
theorem dX4_digest_68 : decode cX4_digest 68 = .ok (.bipush 8, 2) := by decide +kernel
theorem dX4_digest_70 : decode cX4_digest 70 = .ok (.if_icmp .ge 20, 3) := by decide +kernel
theorem dX4_digest_73 : decode cX4_digest 73 = .ok (.lload_n 1, 1) := by decide +kernel
theorem dX4_digest_74 : decode cX4_digest 74 = .ok (.aload_n 0, 1) := by decide +kernel
theorem dX4_digest_75 : decode cX4_digest 75 = .ok (.iload_n 3, 1) := by decide +kernel
theorem dX4_digest_76 : decode cX4_digest 76 = .ok (.invokevirtual 228, 3) := by decide +kernel
theorem dX4_digest_79 : decode cX4_digest 79 = .ok (.i2l, 1) := by decide +kernel
theorem dX4_digest_80 : decode cX4_digest 80 = .ok (.invokestatic 214, 3) := by decide +kernel
theorem dX4_digest_83 : decode cX4_digest 83 = .ok (.lstore_n 1, 1) := by decide +kernel
theorem dX4_digest_84 : decode cX4_digest 84 = .ok (.iinc 3 1, 3) := by decide +kernel
theorem dX4_digest_87 : decode cX4_digest 87 = .ok (.goto (-20), 3) := by decide +kernel
theorem dX4_digest_90 : decode cX4_digest 90 = .ok (.lload_n 1, 1) := by decide +kernel
theorem dX4_digest_91 : decode cX4_digest 91 = .ok (.aload_n 0, 1) := by decide +kernel
theorem dX4_digest_92 : decode cX4_digest 92 = .ok (.invokevirtual 231, 3) := by decide +kernel
theorem dX4_digest_95 : decode cX4_digest 95 = .ok (.i2l, 1) := by decide +kernel
theorem dX4_digest_96 : decode cX4_digest 96 = .ok (.invokestatic 214, 3) := by decide +kernel
theorem dX4_digest_99 : decode cX4_digest 99 = .ok (.lstore_n 1, 1) := by decide +kernel
theorem dX4_digest_100 : decode cX4_digest 100 = .ok (.lload_n 1, 1) := by decide +kernel
theorem dX4_digest_101 : decode cX4_digest 101 = .ok (.aload_n 0, 1) := by decide +kernel
theorem dX4_digest_102 : decode cX4_digest 102 = .ok (.iconst 0, 1) := by decide +kernel
theorem dX4_digest_103 : decode cX4_digest 103 = .ok (.bipush 9, 2) := by decide +kernel
theorem dX4_digest_105 : decode cX4_digest 105 = .ok (.invokevirtual 234, 3) := by decide +kernel
theorem dX4_digest_108 : decode cX4_digest 108 = .ok (.i2l, 1) := by decide +kernel
theorem dX4_digest_109 : decode cX4_digest 109 = .ok (.invokestatic 214, 3) := by decide +kernel
theorem dX4_digest_112 : decode cX4_digest 112 = .ok (.lstore_n 1, 1) := by decide +kernel
theorem dX4_digest_113 : decode cX4_digest 113 = .ok (.lload_n 1, 1) := by decide +kernel
theorem dX4_digest_114 : decode cX4_digest 114 = .ok (.aload_n 0, 1) := by decide +kernel
theorem dX4_digest_115 : decode cX4_digest 115 = .ok (.bipush 14, 2) := by decide +kernel
theorem dX4_digest_117 : decode cX4_digest 117 = .ok (.bipush 9, 2) := by decide +kernel
theorem dX4_digest_119 : decode cX4_digest 119 = .ok (.invokevirtual 234, 3) := by decide +kernel
theorem dX4_digest_122 : decode cX4_digest 122 = .ok (.i2l, 1) := by decide +kernel
theorem dX4_digest_123 : decode cX4_digest 123 = .ok (.invokestatic 214, 3) := by decide +kernel
theorem dX4_digest_126 : decode cX4_digest 126 = .ok (.lstore_n 1, 1) := by decide +kernel
theorem dX4_digest_127 : decode cX4_digest 127 = .ok (.lload_n 1, 1) := by decide +kernel
theorem dX4_digest_128 : decode cX4_digest 128 = .ok (.aload_n 0, 1) := by decide +kernel
theorem dX4_digest_129 : decode cX4_digest 129 = .ok (.bipush 35, 2) := by decide +kernel
theorem dX4_digest_131 : decode cX4_digest 131 = .ok (.bipush 9, 2) := by decide +kernel
theorem dX4_digest_133 : decode cX4_digest 133 = .ok (.invokevirtual 234, 3) := by decide +kernel
theorem dX4_digest_136 : decode cX4_digest 136 = .ok (.i2l, 1) := by decide +kernel
theorem dX4_digest_137 : decode cX4_digest 137 = .ok (.invokestatic 214, 3) := by decide +kernel
theorem dX4_digest_140 : decode cX4_digest 140 = .ok (.lstore_n 1, 1) := by decide +kernel
theorem dX4_digest_141 : decode cX4_digest 141 = .ok (.lload_n 1, 1) := by decide +kernel
theorem dX4_digest_142 : decode cX4_digest 142 = .ok (.aload_n 0, 1) := by decide +kernel
theorem dX4_digest_143 : decode cX4_digest 143 = .ok (.bipush 14, 2) := by decide +kernel
theorem dX4_digest_145 : decode cX4_digest 145 = .ok (.iconst 2, 1) := by decide +kernel
theorem dX4_digest_146 : decode cX4_digest 146 = .ok (.bipush 20, 2) := by decide +kernel
theorem dX4_digest_148 : decode cX4_digest 148 = .ok (.invokevirtual 237, 3) := by decide +kernel
theorem dX4_digest_151 : decode cX4_digest 151 = .ok (.i2l, 1) := by decide +kernel
theorem dX4_digest_152 : decode cX4_digest 152 = .ok (.invokestatic 214, 3) := by decide +kernel
theorem dX4_digest_155 : decode cX4_digest 155 = .ok (.lstore_n 1, 1) := by decide +kernel
theorem dX4_digest_156 : decode cX4_digest 156 = .ok (.lload_n 1, 1) := by decide +kernel
theorem dX4_digest_157 : decode cX4_digest 157 = .ok (.aload_n 0, 1) := by decide +kernel
theorem dX4_digest_158 : decode cX4_digest 158 = .ok (.bipush 20, 2) := by decide +kernel
theorem dX4_digest_160 : decode cX4_digest 160 = .ok (.iconst 0, 1) := by decide +kernel
theorem dX4_digest_161 : decode cX4_digest 161 = .ok (.bipush 30, 2) := by decide +kernel
theorem dX4_digest_163 : decode cX4_digest 163 = .ok (.invokevirtual 241, 3) := by decide +kernel
theorem dX4_digest_166 : decode cX4_digest 166 = .ok (.i2l, 1) := by decide +kernel
theorem dX4_digest_167 : decode cX4_digest 167 = .ok (.invokestatic 214, 3) := by decide +kernel
theorem dX4_digest_170 : decode cX4_digest 170 = .ok (.lstore_n 1, 1) := by decide +kernel
theorem dX4_digest_171 : decode cX4_digest 171 = .ok (.lload_n 1, 1) := by decide +kernel
theorem dX4_digest_172 : decode cX4_digest 172 = .ok (.aload_n 0, 1) := by decide +kernel
theorem dX4_digest_173 : decode cX4_digest 173 = .ok (.bipush 7, 2) := by decide +kernel
theorem dX4_digest_175 : decode cX4_digest 175 = .ok (.invokevirtual 244, 3) := by decide +kernel
theorem dX4_digest_178 : decode cX4_digest 178 = .ok (.i2l, 1) := by decide +kernel
theorem dX4_digest_179 : decode cX4_digest 179 = .ok (.invokestatic 214, 3) := by decide +kernel
theorem dX4_digest_182 : decode cX4_digest 182 = .ok (.lstore_n 1, 1) := by decide +kernel
theorem dX4_digest_183 : decode cX4_digest 183 = .ok (.lload_n 1, 1) := by decide +kernel
theorem dX4_digest_184 : decode cX4_digest 184 = .ok (.aload_n 0, 1) := by decide +kernel
theorem dX4_digest_185 : decode cX4_digest 185 = .ok (.invokevirtual 247, 3) := by decide +kernel
theorem dX4_digest_188 : decode cX4_digest 188 = .ok (.invokestatic 251, 3) := by decide +kernel
theorem dX4_digest_191 : decode cX4_digest 191 = .ok (.invokestatic 214, 3) := by decide +kernel
theorem dX4_digest_194 : decode cX4_digest 194 = .ok (.lstore_n 1, 1) := by decide +kernel
theorem dX4_digest_195 : decode cX4_digest 195 = .ok (.aload_n 0, 1) := by decide +kernel
theorem dX4_digest_196 : decode cX4_digest 196 = .ok (.lload_n 1, 1) := by decide +kernel
theorem dX4_digest_197 : decode cX4_digest 197 = .ok (.invokevirtual 255, 3) := by decide +kernel
theorem dX4_digest_200 : decode cX4_digest 200 = .ok (.lreturn, 1) := by decide +kernel
set_option maxRecDepth 20000 in
theorem ggX4_withCells_X4_cell : GoodIn wsX4_withCells wsX4_cell := goodIn_ca (goodIn_ca (goodIn_r _ [5, 6, 7, 8, 9, 10, 11, 4, 12, 13, 14, 15, 16, 17, 18, 19, 20, 21, 22, 23, 24, 25, 26, 27, 28, 29, 30, 31, 32, 33, 34, 35, 36, 37, 38, 39, 40, 41, 46, 47, 48, 49, 50, 51, 52, 53, 54, 55, 56, 57, 58, 59, 60, 61, 62] (by decide +kernel) (by decide +kernel)) (goodIn_sub (fun _ h => List.mem_cons_of_mem _ (List.mem_append_left _ (List.mem_append_right _ h))) (by decide +kernel))) (goodIn_sub (fun _ h => List.mem_cons_of_mem _ (List.mem_append_right _ h)) (by decide +kernel))
set_option maxRecDepth 20000 in
theorem gX4_withCells_X4_cell : GoodIn wsX4_withCells (wsV RX4 258 RX4 yX4_cell wsX4_cell) := goodIn_app (goodIn_of _ (by decide +kernel)) ggX4_withCells_X4_cell
set_option maxRecDepth 20000 in
theorem ggX4_withCells_X4_mixed : GoodIn wsX4_withCells wsX4_mixed := goodIn_r _ [44, 45] (by decide +kernel) (by decide +kernel)
set_option maxRecDepth 20000 in
theorem gX4_withCells_X4_mixed : GoodIn wsX4_withCells (va_wsS RX4 214 yX4_mixed wsX4_mixed) := goodIn_app (goodIn_of _ (by decide +kernel)) ggX4_withCells_X4_mixed
theorem dX4_withCells_0 : decode cX4_withCells 0 = .ok (.lload_n 1, 1) := by decide +kernel
theorem dX4_withCells_1 : decode cX4_withCells 1 = .ok (.lstore_n 3, 1) := by decide +kernel
theorem dX4_withCells_2 : decode cX4_withCells 2 = .ok (.iconst 0, 1) := by decide +kernel
theorem dX4_withCells_3 : decode cX4_withCells 3 = .ok (.istore 5, 2) := by decide +kernel
theorem dX4_withCells_5 : decode cX4_withCells 5 = .ok (.iload 5, 2) := by decide +kernel
theorem dX4_withCells_7 : decode cX4_withCells 7 = .ok (.bipush 36, 2) := by decide +kernel
theorem dX4_withCells_9 : decode cX4_withCells 9 = .ok (.if_icmp .ge 39, 3) := by decide +kernel
theorem dX4_withCells_12 : decode cX4_withCells 12 = .ok (.iconst 0, 1) := by decide +kernel
theorem dX4_withCells_13 : decode cX4_withCells 13 = .ok (.istore 6, 2) := by decide +kernel
theorem dX4_withCells_15 : decode cX4_withCells 15 = .ok (.iload 6, 2) := by decide +kernel
theorem dX4_withCells_17 : decode cX4_withCells 17 = .ok (.bipush 8, 2) := by decide +kernel
theorem dX4_withCells_19 : decode cX4_withCells 19 = .ok (.if_icmp .ge 23, 3) := by decide +kernel
theorem dX4_withCells_22 : decode cX4_withCells 22 = .ok (.lload_n 3, 1) := by decide +kernel
theorem dX4_withCells_23 : decode cX4_withCells 23 = .ok (.aload_n 0, 1) := by decide +kernel
theorem dX4_withCells_24 : decode cX4_withCells 24 = .ok (.iload 5, 2) := by decide +kernel
theorem dX4_withCells_26 : decode cX4_withCells 26 = .ok (.iload 6, 2) := by decide +kernel
theorem dX4_withCells_28 : decode cX4_withCells 28 = .ok (.invokevirtual 258, 3) := by decide +kernel
theorem dX4_withCells_31 : decode cX4_withCells 31 = .ok (.i2l, 1) := by decide +kernel
theorem dX4_withCells_32 : decode cX4_withCells 32 = .ok (.invokestatic 214, 3) := by decide +kernel
theorem dX4_withCells_35 : decode cX4_withCells 35 = .ok (.lstore_n 3, 1) := by decide +kernel
theorem dX4_withCells_36 : decode cX4_withCells 36 = .ok (.iinc 6 1, 3) := by decide +kernel
theorem dX4_withCells_39 : decode cX4_withCells 39 = .ok (.goto (-24), 3) := by decide +kernel
theorem dX4_withCells_42 : decode cX4_withCells 42 = .ok (.iinc 5 1, 3) := by decide +kernel
theorem dX4_withCells_45 : decode cX4_withCells 45 = .ok (.goto (-40), 3) := by decide +kernel
theorem dX4_withCells_48 : decode cX4_withCells 48 = .ok (.lload_n 3, 1) := by decide +kernel
theorem dX4_withCells_49 : decode cX4_withCells 49 = .ok (.lreturn, 1) := by decide +kernel
set_option maxRecDepth 20000 in
theorem ggX4_withBars_X2_barCount : GoodIn wsX4_withBars wsX2_barCount := goodIn_r _ [6, 7, 8, 9, 5, 10, 11, 34, 35, 36, 37, 38, 39, 40, 41, 42, 43, 44, 45, 46] (by decide +kernel) (by decide +kernel)
set_option maxRecDepth 20000 in
theorem gX4_withBars_X2_barCount : GoodIn wsX4_withBars (wsV RX4 70 RX2 yX2_barCount wsX2_barCount) := goodIn_app (goodIn_of _ (by decide +kernel)) ggX4_withBars_X2_barCount
set_option maxRecDepth 20000 in
theorem ggX4_withBars_X4_barOf : GoodIn wsX4_withBars wsX4_barOf := goodIn_ca (goodIn_r _ [16, 17, 18, 1, 19, 20, 15, 21, 22, 23, 24, 5, 25, 7, 8, 9, 10, 11, 30, 31, 32, 33, 34, 35, 36, 37, 38, 39, 40, 41, 42, 43, 44, 45, 46] (by decide +kernel) (by decide +kernel)) (goodIn_sub (fun _ h => List.mem_cons_of_mem _ (List.mem_append_right _ h)) (by decide +kernel))
set_option maxRecDepth 20000 in
theorem gX4_withBars_X4_barOf : GoodIn wsX4_withBars (wsV RX4 261 RX4 yX4_barOf wsX4_barOf) := goodIn_app (goodIn_of _ (by decide +kernel)) ggX4_withBars_X4_barOf
set_option maxRecDepth 20000 in
theorem ggX4_withBars_X4_mixed : GoodIn wsX4_withBars wsX4_mixed := goodIn_r _ [28, 29] (by decide +kernel) (by decide +kernel)
set_option maxRecDepth 20000 in
theorem gX4_withBars_X4_mixed : GoodIn wsX4_withBars (va_wsS RX4 214 yX4_mixed wsX4_mixed) := goodIn_app (goodIn_of _ (by decide +kernel)) ggX4_withBars_X4_mixed
theorem dX4_withBars_0 : decode cX4_withBars 0 = .ok (.lload_n 1, 1) := by decide +kernel
theorem dX4_withBars_1 : decode cX4_withBars 1 = .ok (.lstore_n 3, 1) := by decide +kernel
theorem dX4_withBars_2 : decode cX4_withBars 2 = .ok (.aload_n 0, 1) := by decide +kernel
theorem dX4_withBars_3 : decode cX4_withBars 3 = .ok (.getfield 12, 3) := by decide +kernel
theorem dX4_withBars_6 : decode cX4_withBars 6 = .ok (.invokevirtual 70, 3) := by decide +kernel
theorem dX4_withBars_9 : decode cX4_withBars 9 = .ok (.istore 5, 2) := by decide +kernel
theorem dX4_withBars_11 : decode cX4_withBars 11 = .ok (.iconst 0, 1) := by decide +kernel
theorem dX4_withBars_12 : decode cX4_withBars 12 = .ok (.istore 6, 2) := by decide +kernel
theorem dX4_withBars_14 : decode cX4_withBars 14 = .ok (.iload 6, 2) := by decide +kernel
theorem dX4_withBars_16 : decode cX4_withBars 16 = .ok (.iload 5, 2) := by decide +kernel
theorem dX4_withBars_18 : decode cX4_withBars 18 = .ok (.if_icmp .ge 38, 3) := by decide +kernel
theorem dX4_withBars_21 : decode cX4_withBars 21 = .ok (.iconst 0, 1) := by decide +kernel
theorem dX4_withBars_22 : decode cX4_withBars 22 = .ok (.istore 7, 2) := by decide +kernel
theorem dX4_withBars_24 : decode cX4_withBars 24 = .ok (.iload 7, 2) := by decide +kernel
theorem dX4_withBars_26 : decode cX4_withBars 26 = .ok (.iconst 3, 1) := by decide +kernel
theorem dX4_withBars_27 : decode cX4_withBars 27 = .ok (.if_icmp .ge 23, 3) := by decide +kernel
theorem dX4_withBars_30 : decode cX4_withBars 30 = .ok (.lload_n 3, 1) := by decide +kernel
theorem dX4_withBars_31 : decode cX4_withBars 31 = .ok (.aload_n 0, 1) := by decide +kernel
theorem dX4_withBars_32 : decode cX4_withBars 32 = .ok (.iload 6, 2) := by decide +kernel
theorem dX4_withBars_34 : decode cX4_withBars 34 = .ok (.iload 7, 2) := by decide +kernel
theorem dX4_withBars_36 : decode cX4_withBars 36 = .ok (.invokevirtual 261, 3) := by decide +kernel
theorem dX4_withBars_39 : decode cX4_withBars 39 = .ok (.i2l, 1) := by decide +kernel
theorem dX4_withBars_40 : decode cX4_withBars 40 = .ok (.invokestatic 214, 3) := by decide +kernel
theorem dX4_withBars_43 : decode cX4_withBars 43 = .ok (.lstore_n 3, 1) := by decide +kernel
theorem dX4_withBars_44 : decode cX4_withBars 44 = .ok (.iinc 7 1, 3) := by decide +kernel
theorem dX4_withBars_47 : decode cX4_withBars 47 = .ok (.goto (-23), 3) := by decide +kernel
theorem dX4_withBars_50 : decode cX4_withBars 50 = .ok (.iinc 6 1, 3) := by decide +kernel
theorem dX4_withBars_53 : decode cX4_withBars 53 = .ok (.goto (-39), 3) := by decide +kernel
theorem dX4_withBars_56 : decode cX4_withBars 56 = .ok (.lload_n 3, 1) := by decide +kernel
theorem dX4_withBars_57 : decode cX4_withBars 57 = .ok (.lreturn, 1) := by decide +kernel
set_option maxRecDepth 20000 in
theorem ggX4_withBuffer_X4_mixed : GoodIn wsX4_withBuffer wsX4_mixed := goodIn_r _ [5, 6] (by decide +kernel) (by decide +kernel)
set_option maxRecDepth 20000 in
theorem gX4_withBuffer_X4_mixed : GoodIn wsX4_withBuffer (va_wsS RX4 214 yX4_mixed wsX4_mixed) := goodIn_app (goodIn_of _ (by decide +kernel)) ggX4_withBuffer_X4_mixed
theorem dX4_withBuffer_0 : decode cX4_withBuffer 0 = .ok (.lload_n 1, 1) := by decide +kernel
theorem dX4_withBuffer_1 : decode cX4_withBuffer 1 = .ok (.aload_n 0, 1) := by decide +kernel
theorem dX4_withBuffer_2 : decode cX4_withBuffer 2 = .ok (.getfield 29, 3) := by decide +kernel
theorem dX4_withBuffer_5 : decode cX4_withBuffer 5 = .ok (.getfield 112, 3) := by decide +kernel
theorem dX4_withBuffer_8 : decode cX4_withBuffer 8 = .ok (.i2l, 1) := by decide +kernel
theorem dX4_withBuffer_9 : decode cX4_withBuffer 9 = .ok (.invokestatic 214, 3) := by decide +kernel
theorem dX4_withBuffer_12 : decode cX4_withBuffer 12 = .ok (.lstore_n 3, 1) := by decide +kernel
theorem dX4_withBuffer_13 : decode cX4_withBuffer 13 = .ok (.iconst 0, 1) := by decide +kernel
theorem dX4_withBuffer_14 : decode cX4_withBuffer 14 = .ok (.istore 5, 2) := by decide +kernel
theorem dX4_withBuffer_16 : decode cX4_withBuffer 16 = .ok (.iload 5, 2) := by decide +kernel
theorem dX4_withBuffer_18 : decode cX4_withBuffer 18 = .ok (.aload_n 0, 1) := by decide +kernel
theorem dX4_withBuffer_19 : decode cX4_withBuffer 19 = .ok (.getfield 29, 3) := by decide +kernel
theorem dX4_withBuffer_22 : decode cX4_withBuffer 22 = .ok (.getfield 112, 3) := by decide +kernel
theorem dX4_withBuffer_25 : decode cX4_withBuffer 25 = .ok (.if_icmp .ge 32, 3) := by decide +kernel
theorem dX4_withBuffer_28 : decode cX4_withBuffer 28 = .ok (.iload 5, 2) := by decide +kernel
theorem dX4_withBuffer_30 : decode cX4_withBuffer 30 = .ok (.bipush 60, 2) := by decide +kernel
theorem dX4_withBuffer_32 : decode cX4_withBuffer 32 = .ok (.if_icmp .ge 25, 3) := by decide +kernel
theorem dX4_withBuffer_35 : decode cX4_withBuffer 35 = .ok (.lload_n 3, 1) := by decide +kernel
theorem dX4_withBuffer_36 : decode cX4_withBuffer 36 = .ok (.aload_n 0, 1) := by decide +kernel
theorem dX4_withBuffer_37 : decode cX4_withBuffer 37 = .ok (.getfield 29, 3) := by decide +kernel
theorem dX4_withBuffer_40 : decode cX4_withBuffer 40 = .ok (.getfield 264, 3) := by decide +kernel
theorem dX4_withBuffer_43 : decode cX4_withBuffer 43 = .ok (.iload 5, 2) := by decide +kernel
theorem dX4_withBuffer_45 : decode cX4_withBuffer 45 = .ok (.iaload, 1) := by decide +kernel
theorem dX4_withBuffer_46 : decode cX4_withBuffer 46 = .ok (.i2l, 1) := by decide +kernel
theorem dX4_withBuffer_47 : decode cX4_withBuffer 47 = .ok (.invokestatic 214, 3) := by decide +kernel
theorem dX4_withBuffer_50 : decode cX4_withBuffer 50 = .ok (.lstore_n 3, 1) := by decide +kernel
theorem dX4_withBuffer_51 : decode cX4_withBuffer 51 = .ok (.iinc 5 1, 3) := by decide +kernel
theorem dX4_withBuffer_54 : decode cX4_withBuffer 54 = .ok (.goto (-38), 3) := by decide +kernel
theorem dX4_withBuffer_57 : decode cX4_withBuffer 57 = .ok (.lload_n 3, 1) := by decide +kernel
theorem dX4_withBuffer_58 : decode cX4_withBuffer 58 = .ok (.lreturn, 1) := by decide +kernel
theorem dX4_mixed_0 : decode cX4_mixed 0 = .ok (.ldc2_w 267, 3) := by decide +kernel
theorem dX4_mixed_3 : decode cX4_mixed 3 = .ok (.lload_n 0, 1) := by decide +kernel
theorem dX4_mixed_4 : decode cX4_mixed 4 = .ok (.lmul, 1) := by decide +kernel
theorem dX4_mixed_5 : decode cX4_mixed 5 = .ok (.lload_n 2, 1) := by decide +kernel
theorem dX4_mixed_6 : decode cX4_mixed 6 = .ok (.ladd, 1) := by decide +kernel
theorem dX4_mixed_7 : decode cX4_mixed 7 = .ok (.lreturn, 1) := by decide +kernel
theorem dX4_bitsOf_0 : decode cX4_bitsOf 0 = .ok (.dload_n 0, 1) := by decide +kernel
theorem dX4_bitsOf_1 : decode cX4_bitsOf 1 = .ok (.dconst 0, 1) := by decide +kernel
theorem dX4_bitsOf_2 : decode cX4_bitsOf 2 = .ok (.dcmp .l, 1) := by decide +kernel
theorem dX4_bitsOf_3 : decode cX4_bitsOf 3 = .ok (.ifCond .gt 5, 3) := by decide +kernel
theorem dX4_bitsOf_6 : decode cX4_bitsOf 6 = .ok (.lconst 0, 1) := by decide +kernel
theorem dX4_bitsOf_7 : decode cX4_bitsOf 7 = .ok (.lreturn, 1) := by decide +kernel
theorem dX4_bitsOf_8 : decode cX4_bitsOf 8 = .ok (.dload_n 0, 1) := by decide +kernel
theorem dX4_bitsOf_9 : decode cX4_bitsOf 9 = .ok (.dstore_n 2, 1) := by decide +kernel
theorem dX4_bitsOf_10 : decode cX4_bitsOf 10 = .ok (.ldc2_w 269, 3) := by decide +kernel
theorem dX4_bitsOf_13 : decode cX4_bitsOf 13 = .ok (.lstore 4, 2) := by decide +kernel
theorem dX4_bitsOf_15 : decode cX4_bitsOf 15 = .ok (.dload_n 2, 1) := by decide +kernel
theorem dX4_bitsOf_16 : decode cX4_bitsOf 16 = .ok (.dconst 1, 1) := by decide +kernel
theorem dX4_bitsOf_17 : decode cX4_bitsOf 17 = .ok (.dcmp .g, 1) := by decide +kernel
theorem dX4_bitsOf_18 : decode cX4_bitsOf 18 = .ok (.ifCond .ge 25, 3) := by decide +kernel
theorem dX4_bitsOf_21 : decode cX4_bitsOf 21 = .ok (.lload 4, 2) := by decide +kernel
theorem dX4_bitsOf_23 : decode cX4_bitsOf 23 = .ok (.lconst 1, 1) := by decide +kernel
theorem dX4_bitsOf_24 : decode cX4_bitsOf 24 = .ok (.lcmp, 1) := by decide +kernel
theorem dX4_bitsOf_25 : decode cX4_bitsOf 25 = .ok (.ifCond .le 18, 3) := by decide +kernel
theorem dX4_bitsOf_28 : decode cX4_bitsOf 28 = .ok (.dload_n 2, 1) := by decide +kernel
theorem dX4_bitsOf_29 : decode cX4_bitsOf 29 = .ok (.ldc2_w 271, 3) := by decide +kernel
theorem dX4_bitsOf_32 : decode cX4_bitsOf 32 = .ok (.dmul, 1) := by decide +kernel
theorem dX4_bitsOf_33 : decode cX4_bitsOf 33 = .ok (.dstore_n 2, 1) := by decide +kernel
theorem dX4_bitsOf_34 : decode cX4_bitsOf 34 = .ok (.lload 4, 2) := by decide +kernel
theorem dX4_bitsOf_36 : decode cX4_bitsOf 36 = .ok (.lconst 1, 1) := by decide +kernel
theorem dX4_bitsOf_37 : decode cX4_bitsOf 37 = .ok (.lsub, 1) := by decide +kernel
theorem dX4_bitsOf_38 : decode cX4_bitsOf 38 = .ok (.lstore 4, 2) := by decide +kernel
theorem dX4_bitsOf_40 : decode cX4_bitsOf 40 = .ok (.goto (-25), 3) := by decide +kernel
theorem dX4_bitsOf_43 : decode cX4_bitsOf 43 = .ok (.lload 4, 2) := by decide +kernel
theorem dX4_bitsOf_45 : decode cX4_bitsOf 45 = .ok (.bipush 52, 2) := by decide +kernel
theorem dX4_bitsOf_47 : decode cX4_bitsOf 47 = .ok (.lshl, 1) := by decide +kernel
theorem dX4_bitsOf_48 : decode cX4_bitsOf 48 = .ok (.dload_n 2, 1) := by decide +kernel
theorem dX4_bitsOf_49 : decode cX4_bitsOf 49 = .ok (.dconst 1, 1) := by decide +kernel
theorem dX4_bitsOf_50 : decode cX4_bitsOf 50 = .ok (.dsub, 1) := by decide +kernel
theorem dX4_bitsOf_51 : decode cX4_bitsOf 51 = .ok (.ldc2_w 273, 3) := by decide +kernel
theorem dX4_bitsOf_54 : decode cX4_bitsOf 54 = .ok (.dmul, 1) := by decide +kernel
theorem dX4_bitsOf_55 : decode cX4_bitsOf 55 = .ok (.d2l, 1) := by decide +kernel
theorem dX4_bitsOf_56 : decode cX4_bitsOf 56 = .ok (.ladd, 1) := by decide +kernel
theorem dX4_bitsOf_57 : decode cX4_bitsOf 57 = .ok (.lreturn, 1) := by decide +kernel
theorem dX4_exchange_0 : decode cX4_exchange 0 = .ok (.aload_n 0, 1) := by decide +kernel
theorem dX4_exchange_1 : decode cX4_exchange 1 = .ok (.iload_n 1, 1) := by decide +kernel
theorem dX4_exchange_2 : decode cX4_exchange 2 = .ok (.iaload, 1) := by decide +kernel
theorem dX4_exchange_3 : decode cX4_exchange 3 = .ok (.istore_n 3, 1) := by decide +kernel
theorem dX4_exchange_4 : decode cX4_exchange 4 = .ok (.aload_n 0, 1) := by decide +kernel
theorem dX4_exchange_5 : decode cX4_exchange 5 = .ok (.iload_n 1, 1) := by decide +kernel
theorem dX4_exchange_6 : decode cX4_exchange 6 = .ok (.aload_n 0, 1) := by decide +kernel
theorem dX4_exchange_7 : decode cX4_exchange 7 = .ok (.iload_n 2, 1) := by decide +kernel
theorem dX4_exchange_8 : decode cX4_exchange 8 = .ok (.iaload, 1) := by decide +kernel
theorem dX4_exchange_9 : decode cX4_exchange 9 = .ok (.iastore, 1) := by decide +kernel
theorem dX4_exchange_10 : decode cX4_exchange 10 = .ok (.aload_n 0, 1) := by decide +kernel
theorem dX4_exchange_11 : decode cX4_exchange 11 = .ok (.iload_n 2, 1) := by decide +kernel
theorem dX4_exchange_12 : decode cX4_exchange 12 = .ok (.iload_n 3, 1) := by decide +kernel
theorem dX4_exchange_13 : decode cX4_exchange 13 = .ok (.iastore, 1) := by decide +kernel
theorem dX4_exchange_14 : decode cX4_exchange 14 = .ok (.return_, 1) := by decide +kernel
theorem dX4_requireCell_0 : decode cX4_requireCell 0 = .ok (.iload_n 0, 1) := by decide +kernel
theorem dX4_requireCell_1 : decode cX4_requireCell 1 = .ok (.ifCond .lt 9, 3) := by decide +kernel
theorem dX4_requireCell_4 : decode cX4_requireCell 4 = .ok (.iload_n 0, 1) := by decide +kernel
theorem dX4_requireCell_5 : decode cX4_requireCell 5 = .ok (.bipush 36, 2) := by decide +kernel
theorem dX4_requireCell_7 : decode cX4_requireCell 7 = .ok (.if_icmp .lt 14, 3) := by decide +kernel
theorem dX4_requireCell_10 : decode cX4_requireCell 10 = .ok (.new 275, 3) := by decide +kernel
theorem dX4_requireCell_13 : decode cX4_requireCell 13 = .ok (.dup, 1) := by decide +kernel
theorem dX4_requireCell_14 : decode cX4_requireCell 14 = .ok (.ldc_w 277, 3) := by decide +kernel
theorem dX4_requireCell_17 : decode cX4_requireCell 17 = .ok (.invokespecial 279, 3) := by decide +kernel
theorem dX4_requireCell_20 : decode cX4_requireCell 20 = .ok (.athrow, 1) := by decide +kernel
theorem dX4_requireCell_21 : decode cX4_requireCell 21 = .ok (.return_, 1) := by decide +kernel
theorem dX4_requireSetting_0 : decode cX4_requireSetting 0 = .ok (.iload_n 0, 1) := by decide +kernel
theorem dX4_requireSetting_1 : decode cX4_requireSetting 1 = .ok (.ifCond .lt 8, 3) := by decide +kernel
theorem dX4_requireSetting_4 : decode cX4_requireSetting 4 = .ok (.iload_n 0, 1) := by decide +kernel
theorem dX4_requireSetting_5 : decode cX4_requireSetting 5 = .ok (.iconst 3, 1) := by decide +kernel
theorem dX4_requireSetting_6 : decode cX4_requireSetting 6 = .ok (.if_icmp .lt 14, 3) := by decide +kernel
theorem dX4_requireSetting_9 : decode cX4_requireSetting 9 = .ok (.new 275, 3) := by decide +kernel
theorem dX4_requireSetting_12 : decode cX4_requireSetting 12 = .ok (.dup, 1) := by decide +kernel
theorem dX4_requireSetting_13 : decode cX4_requireSetting 13 = .ok (.ldc_w 280, 3) := by decide +kernel
theorem dX4_requireSetting_16 : decode cX4_requireSetting 16 = .ok (.invokespecial 279, 3) := by decide +kernel
theorem dX4_requireSetting_19 : decode cX4_requireSetting 19 = .ok (.athrow, 1) := by decide +kernel
theorem dX4_requireSetting_20 : decode cX4_requireSetting 20 = .ok (.return_, 1) := by decide +kernel
set_option maxRecDepth 20000 in
theorem ggX4_requireDirection_X4_requireBetween : GoodIn wsX4_requireDirection wsX4_requireBetween := goodIn_ca (goodIn_r _ [4, 5, 6] (by decide +kernel) (by decide +kernel)) (goodIn_sub (fun _ h => List.mem_cons_of_mem _ (List.mem_append_right _ h)) (by decide +kernel))
set_option maxRecDepth 20000 in
theorem gX4_requireDirection_X4_requireBetween : GoodIn wsX4_requireDirection (va_wsS RX4 51 yX4_requireBetween wsX4_requireBetween) := goodIn_app (goodIn_of _ (by decide +kernel)) ggX4_requireDirection_X4_requireBetween
theorem dX4_requireDirection_0 : decode cX4_requireDirection 0 = .ok (.iload_n 0, 1) := by decide +kernel
theorem dX4_requireDirection_1 : decode cX4_requireDirection 1 = .ok (.iconst 0, 1) := by decide +kernel
theorem dX4_requireDirection_2 : decode cX4_requireDirection 2 = .ok (.bipush 7, 2) := by decide +kernel
theorem dX4_requireDirection_4 : decode cX4_requireDirection 4 = .ok (.invokestatic 51, 3) := by decide +kernel
theorem dX4_requireDirection_7 : decode cX4_requireDirection 7 = .ok (.return_, 1) := by decide +kernel
theorem dX4_requireBetween_0 : decode cX4_requireBetween 0 = .ok (.iload_n 0, 1) := by decide +kernel
theorem dX4_requireBetween_1 : decode cX4_requireBetween 1 = .ok (.iload_n 1, 1) := by decide +kernel
theorem dX4_requireBetween_2 : decode cX4_requireBetween 2 = .ok (.if_icmp .lt 8, 3) := by decide +kernel
theorem dX4_requireBetween_5 : decode cX4_requireBetween 5 = .ok (.iload_n 0, 1) := by decide +kernel
theorem dX4_requireBetween_6 : decode cX4_requireBetween 6 = .ok (.iload_n 2, 1) := by decide +kernel
theorem dX4_requireBetween_7 : decode cX4_requireBetween 7 = .ok (.if_icmp .le 14, 3) := by decide +kernel
theorem dX4_requireBetween_10 : decode cX4_requireBetween 10 = .ok (.new 127, 3) := by decide +kernel
theorem dX4_requireBetween_13 : decode cX4_requireBetween 13 = .ok (.dup, 1) := by decide +kernel
theorem dX4_requireBetween_14 : decode cX4_requireBetween 14 = .ok (.ldc_w 282, 3) := by decide +kernel
theorem dX4_requireBetween_17 : decode cX4_requireBetween 17 = .ok (.invokespecial 131, 3) := by decide +kernel
theorem dX4_requireBetween_20 : decode cX4_requireBetween 20 = .ok (.athrow, 1) := by decide +kernel
theorem dX4_requireBetween_21 : decode cX4_requireBetween 21 = .ok (.return_, 1) := by decide +kernel
theorem dX4_across_0 : decode cX4_across 0 = .ok (.getstatic 284, 3) := by decide +kernel
theorem dX4_across_3 : decode cX4_across 3 = .ok (.iload_n 0, 1) := by decide +kernel
theorem dX4_across_4 : decode cX4_across 4 = .ok (.bipush 7, 2) := by decide +kernel
theorem dX4_across_6 : decode cX4_across 6 = .ok (.iand, 1) := by decide +kernel
theorem dX4_across_7 : decode cX4_across 7 = .ok (.iaload, 1) := by decide +kernel
theorem dX4_across_8 : decode cX4_across 8 = .ok (.ireturn, 1) := by decide +kernel
theorem dX4_down_0 : decode cX4_down 0 = .ok (.getstatic 287, 3) := by decide +kernel
theorem dX4_down_3 : decode cX4_down 3 = .ok (.iload_n 0, 1) := by decide +kernel
theorem dX4_down_4 : decode cX4_down 4 = .ok (.bipush 7, 2) := by decide +kernel
theorem dX4_down_6 : decode cX4_down 6 = .ok (.iand, 1) := by decide +kernel
theorem dX4_down_7 : decode cX4_down 7 = .ok (.iaload, 1) := by decide +kernel
theorem dX4_down_8 : decode cX4_down 8 = .ok (.ireturn, 1) := by decide +kernel
theorem dX4_aimOf_0 : decode cX4_aimOf 0 = .ok (.iload_n 0, 1) := by decide +kernel
theorem dX4_aimOf_1 : decode cX4_aimOf 1 = .ok (.ifCond .ge 8, 3) := by decide +kernel
theorem dX4_aimOf_4 : decode cX4_aimOf 4 = .ok (.iload_n 0, 1) := by decide +kernel
theorem dX4_aimOf_5 : decode cX4_aimOf 5 = .ok (.ineg, 1) := by decide +kernel
theorem dX4_aimOf_6 : decode cX4_aimOf 6 = .ok (.goto 4, 3) := by decide +kernel
theorem dX4_aimOf_9 : decode cX4_aimOf 9 = .ok (.iload_n 0, 1) := by decide +kernel
theorem dX4_aimOf_10 : decode cX4_aimOf 10 = .ok (.istore_n 2, 1) := by decide +kernel
theorem dX4_aimOf_11 : decode cX4_aimOf 11 = .ok (.iload_n 1, 1) := by decide +kernel
theorem dX4_aimOf_12 : decode cX4_aimOf 12 = .ok (.ifCond .ge 8, 3) := by decide +kernel
theorem dX4_aimOf_15 : decode cX4_aimOf 15 = .ok (.iload_n 1, 1) := by decide +kernel
theorem dX4_aimOf_16 : decode cX4_aimOf 16 = .ok (.ineg, 1) := by decide +kernel
theorem dX4_aimOf_17 : decode cX4_aimOf 17 = .ok (.goto 4, 3) := by decide +kernel
theorem dX4_aimOf_20 : decode cX4_aimOf 20 = .ok (.iload_n 1, 1) := by decide +kernel
theorem dX4_aimOf_21 : decode cX4_aimOf 21 = .ok (.istore_n 3, 1) := by decide +kernel
theorem dX4_aimOf_22 : decode cX4_aimOf 22 = .ok (.iload_n 2, 1) := by decide +kernel
theorem dX4_aimOf_23 : decode cX4_aimOf 23 = .ok (.ifCond .ne 9, 3) := by decide +kernel
theorem dX4_aimOf_26 : decode cX4_aimOf 26 = .ok (.iload_n 3, 1) := by decide +kernel
theorem dX4_aimOf_27 : decode cX4_aimOf 27 = .ok (.ifCond .ne 5, 3) := by decide +kernel
theorem dX4_aimOf_30 : decode cX4_aimOf 30 = .ok (.iconst (-1), 1) := by decide +kernel
theorem dX4_aimOf_31 : decode cX4_aimOf 31 = .ok (.ireturn, 1) := by decide +kernel
theorem dX4_aimOf_32 : decode cX4_aimOf 32 = .ok (.bipush 12, 2) := by decide +kernel
theorem dX4_aimOf_34 : decode cX4_aimOf 34 = .ok (.iload_n 3, 1) := by decide +kernel
theorem dX4_aimOf_35 : decode cX4_aimOf 35 = .ok (.imul, 1) := by decide +kernel
theorem dX4_aimOf_36 : decode cX4_aimOf 36 = .ok (.iconst 5, 1) := by decide +kernel
theorem dX4_aimOf_37 : decode cX4_aimOf 37 = .ok (.iload_n 2, 1) := by decide +kernel
theorem dX4_aimOf_38 : decode cX4_aimOf 38 = .ok (.imul, 1) := by decide +kernel
theorem dX4_aimOf_39 : decode cX4_aimOf 39 = .ok (.if_icmp .gt 13, 3) := by decide +kernel
theorem dX4_aimOf_42 : decode cX4_aimOf 42 = .ok (.iload_n 0, 1) := by decide +kernel
theorem dX4_aimOf_43 : decode cX4_aimOf 43 = .ok (.ifCond .le 7, 3) := by decide +kernel
theorem dX4_aimOf_46 : decode cX4_aimOf 46 = .ok (.iconst 0, 1) := by decide +kernel
theorem dX4_aimOf_47 : decode cX4_aimOf 47 = .ok (.goto 4, 3) := by decide +kernel
theorem dX4_aimOf_50 : decode cX4_aimOf 50 = .ok (.iconst 4, 1) := by decide +kernel
theorem dX4_aimOf_51 : decode cX4_aimOf 51 = .ok (.ireturn, 1) := by decide +kernel
theorem dX4_aimOf_52 : decode cX4_aimOf 52 = .ok (.bipush 12, 2) := by decide +kernel
theorem dX4_aimOf_54 : decode cX4_aimOf 54 = .ok (.iload_n 2, 1) := by decide +kernel
theorem dX4_aimOf_55 : decode cX4_aimOf 55 = .ok (.imul, 1) := by decide +kernel
theorem dX4_aimOf_56 : decode cX4_aimOf 56 = .ok (.iconst 5, 1) := by decide +kernel
theorem dX4_aimOf_57 : decode cX4_aimOf 57 = .ok (.iload_n 3, 1) := by decide +kernel
theorem dX4_aimOf_58 : decode cX4_aimOf 58 = .ok (.imul, 1) := by decide +kernel
theorem dX4_aimOf_59 : decode cX4_aimOf 59 = .ok (.if_icmp .gt 14, 3) := by decide +kernel
theorem dX4_aimOf_62 : decode cX4_aimOf 62 = .ok (.iload_n 1, 1) := by decide +kernel
theorem dX4_aimOf_63 : decode cX4_aimOf 63 = .ok (.ifCond .le 7, 3) := by decide +kernel
theorem dX4_aimOf_66 : decode cX4_aimOf 66 = .ok (.iconst 2, 1) := by decide +kernel
theorem dX4_aimOf_67 : decode cX4_aimOf 67 = .ok (.goto 5, 3) := by decide +kernel
theorem dX4_aimOf_70 : decode cX4_aimOf 70 = .ok (.bipush 6, 2) := by decide +kernel
theorem dX4_aimOf_72 : decode cX4_aimOf 72 = .ok (.ireturn, 1) := by decide +kernel
theorem dX4_aimOf_73 : decode cX4_aimOf 73 = .ok (.iload_n 1, 1) := by decide +kernel
theorem dX4_aimOf_74 : decode cX4_aimOf 74 = .ok (.ifCond .le 13, 3) := by decide +kernel
theorem dX4_aimOf_77 : decode cX4_aimOf 77 = .ok (.iload_n 0, 1) := by decide +kernel
theorem dX4_aimOf_78 : decode cX4_aimOf 78 = .ok (.ifCond .le 7, 3) := by decide +kernel
theorem dX4_aimOf_81 : decode cX4_aimOf 81 = .ok (.iconst 1, 1) := by decide +kernel
theorem dX4_aimOf_82 : decode cX4_aimOf 82 = .ok (.goto 4, 3) := by decide +kernel
theorem dX4_aimOf_85 : decode cX4_aimOf 85 = .ok (.iconst 3, 1) := by decide +kernel
theorem dX4_aimOf_86 : decode cX4_aimOf 86 = .ok (.ireturn, 1) := by decide +kernel
theorem dX4_aimOf_87 : decode cX4_aimOf 87 = .ok (.iload_n 0, 1) := by decide +kernel
theorem dX4_aimOf_88 : decode cX4_aimOf 88 = .ok (.ifCond .le 8, 3) := by decide +kernel
theorem dX4_aimOf_91 : decode cX4_aimOf 91 = .ok (.bipush 7, 2) := by decide +kernel
theorem dX4_aimOf_93 : decode cX4_aimOf 93 = .ok (.goto 4, 3) := by decide +kernel
theorem dX4_aimOf_96 : decode cX4_aimOf 96 = .ok (.iconst 5, 1) := by decide +kernel
theorem dX4_aimOf_97 : decode cX4_aimOf 97 = .ok (.ireturn, 1) := by decide +kernel
set_option maxRecDepth 20000 in
theorem ggX4_pull_X4_across : GoodIn wsX4_pull wsX4_across := goodIn_r _ [4, 5] (by decide +kernel) (by decide +kernel)
set_option maxRecDepth 20000 in
theorem gX4_pull_X4_across : GoodIn wsX4_pull (va_wsS RX4 290 yX4_across wsX4_across) := goodIn_app (goodIn_of _ (by decide +kernel)) ggX4_pull_X4_across
set_option maxRecDepth 20000 in
theorem ggX4_pull_X4_down : GoodIn wsX4_pull wsX4_down := goodIn_r _ [8, 9] (by decide +kernel) (by decide +kernel)
set_option maxRecDepth 20000 in
theorem gX4_pull_X4_down : GoodIn wsX4_pull (va_wsS RX4 293 yX4_down wsX4_down) := goodIn_app (goodIn_of _ (by decide +kernel)) ggX4_pull_X4_down
theorem dX4_pull_0 : decode cX4_pull 0 = .ok (.iload_n 3, 1) := by decide +kernel
theorem dX4_pull_1 : decode cX4_pull 1 = .ok (.bipush 6, 2) := by decide +kernel
end
section
theorem dX4_pull_3 : decode cX4_pull 3 = .ok (.irem, 1) := by decide +kernel
theorem dX4_pull_4 : decode cX4_pull 4 = .ok (.iload_n 0, 1) := by decide +kernel
theorem dX4_pull_5 : decode cX4_pull 5 = .ok (.bipush 6, 2) := by decide +kernel
theorem dX4_pull_7 : decode cX4_pull 7 = .ok (.irem, 1) := by decide +kernel
theorem dX4_pull_8 : decode cX4_pull 8 = .ok (.isub, 1) := by decide +kernel
theorem dX4_pull_9 : decode cX4_pull 9 = .ok (.istore 4, 2) := by decide +kernel
theorem dX4_pull_11 : decode cX4_pull 11 = .ok (.iload_n 3, 1) := by decide +kernel
theorem dX4_pull_12 : decode cX4_pull 12 = .ok (.bipush 6, 2) := by decide +kernel
theorem dX4_pull_14 : decode cX4_pull 14 = .ok (.idiv, 1) := by decide +kernel
theorem dX4_pull_15 : decode cX4_pull 15 = .ok (.iload_n 0, 1) := by decide +kernel
theorem dX4_pull_16 : decode cX4_pull 16 = .ok (.bipush 6, 2) := by decide +kernel
theorem dX4_pull_18 : decode cX4_pull 18 = .ok (.idiv, 1) := by decide +kernel
theorem dX4_pull_19 : decode cX4_pull 19 = .ok (.isub, 1) := by decide +kernel
theorem dX4_pull_20 : decode cX4_pull 20 = .ok (.istore 5, 2) := by decide +kernel
theorem dX4_pull_22 : decode cX4_pull 22 = .ok (.iload 4, 2) := by decide +kernel
theorem dX4_pull_24 : decode cX4_pull 24 = .ok (.iload 4, 2) := by decide +kernel
theorem dX4_pull_26 : decode cX4_pull 26 = .ok (.imul, 1) := by decide +kernel
theorem dX4_pull_27 : decode cX4_pull 27 = .ok (.iload 5, 2) := by decide +kernel
theorem dX4_pull_29 : decode cX4_pull 29 = .ok (.iload 5, 2) := by decide +kernel
theorem dX4_pull_31 : decode cX4_pull 31 = .ok (.imul, 1) := by decide +kernel
theorem dX4_pull_32 : decode cX4_pull 32 = .ok (.iadd, 1) := by decide +kernel
theorem dX4_pull_33 : decode cX4_pull 33 = .ok (.istore 6, 2) := by decide +kernel
theorem dX4_pull_35 : decode cX4_pull 35 = .ok (.iload 6, 2) := by decide +kernel
theorem dX4_pull_37 : decode cX4_pull 37 = .ok (.ifCond .ne 5, 3) := by decide +kernel
theorem dX4_pull_40 : decode cX4_pull 40 = .ok (.iconst 0, 1) := by decide +kernel
theorem dX4_pull_41 : decode cX4_pull 41 = .ok (.ireturn, 1) := by decide +kernel
theorem dX4_pull_42 : decode cX4_pull 42 = .ok (.iload_n 1, 1) := by decide +kernel
theorem dX4_pull_43 : decode cX4_pull 43 = .ok (.invokestatic 290, 3) := by decide +kernel
theorem dX4_pull_46 : decode cX4_pull 46 = .ok (.istore 7, 2) := by decide +kernel
theorem dX4_pull_48 : decode cX4_pull 48 = .ok (.iload_n 1, 1) := by decide +kernel
theorem dX4_pull_49 : decode cX4_pull 49 = .ok (.invokestatic 293, 3) := by decide +kernel
theorem dX4_pull_52 : decode cX4_pull 52 = .ok (.istore 8, 2) := by decide +kernel
theorem dX4_pull_54 : decode cX4_pull 54 = .ok (.iload_n 2, 1) := by decide +kernel
theorem dX4_pull_55 : decode cX4_pull 55 = .ok (.bipush 100, 2) := by decide +kernel
theorem dX4_pull_57 : decode cX4_pull 57 = .ok (.imul, 1) := by decide +kernel
theorem dX4_pull_58 : decode cX4_pull 58 = .ok (.iload 6, 2) := by decide +kernel
theorem dX4_pull_60 : decode cX4_pull 60 = .ok (.idiv, 1) := by decide +kernel
theorem dX4_pull_61 : decode cX4_pull 61 = .ok (.istore 9, 2) := by decide +kernel
theorem dX4_pull_63 : decode cX4_pull 63 = .ok (.iload 4, 2) := by decide +kernel
theorem dX4_pull_65 : decode cX4_pull 65 = .ok (.iload 7, 2) := by decide +kernel
theorem dX4_pull_67 : decode cX4_pull 67 = .ok (.imul, 1) := by decide +kernel
theorem dX4_pull_68 : decode cX4_pull 68 = .ok (.iload 5, 2) := by decide +kernel
theorem dX4_pull_70 : decode cX4_pull 70 = .ok (.iload 8, 2) := by decide +kernel
theorem dX4_pull_72 : decode cX4_pull 72 = .ok (.imul, 1) := by decide +kernel
theorem dX4_pull_73 : decode cX4_pull 73 = .ok (.iadd, 1) := by decide +kernel
theorem dX4_pull_74 : decode cX4_pull 74 = .ok (.istore 10, 2) := by decide +kernel
theorem dX4_pull_76 : decode cX4_pull 76 = .ok (.iconst 2, 1) := by decide +kernel
theorem dX4_pull_77 : decode cX4_pull 77 = .ok (.iload 10, 2) := by decide +kernel
theorem dX4_pull_79 : decode cX4_pull 79 = .ok (.imul, 1) := by decide +kernel
theorem dX4_pull_80 : decode cX4_pull 80 = .ok (.iload 10, 2) := by decide +kernel
theorem dX4_pull_82 : decode cX4_pull 82 = .ok (.imul, 1) := by decide +kernel
theorem dX4_pull_83 : decode cX4_pull 83 = .ok (.iload 6, 2) := by decide +kernel
theorem dX4_pull_85 : decode cX4_pull 85 = .ok (.iload 7, 2) := by decide +kernel
theorem dX4_pull_87 : decode cX4_pull 87 = .ok (.iload 7, 2) := by decide +kernel
theorem dX4_pull_89 : decode cX4_pull 89 = .ok (.imul, 1) := by decide +kernel
theorem dX4_pull_90 : decode cX4_pull 90 = .ok (.iload 8, 2) := by decide +kernel
theorem dX4_pull_92 : decode cX4_pull 92 = .ok (.iload 8, 2) := by decide +kernel
theorem dX4_pull_94 : decode cX4_pull 94 = .ok (.imul, 1) := by decide +kernel
theorem dX4_pull_95 : decode cX4_pull 95 = .ok (.iadd, 1) := by decide +kernel
theorem dX4_pull_96 : decode cX4_pull 96 = .ok (.imul, 1) := by decide +kernel
theorem dX4_pull_97 : decode cX4_pull 97 = .ok (.if_icmp .lt 7, 3) := by decide +kernel
theorem dX4_pull_100 : decode cX4_pull 100 = .ok (.iconst 1, 1) := by decide +kernel
theorem dX4_pull_101 : decode cX4_pull 101 = .ok (.goto 4, 3) := by decide +kernel
theorem dX4_pull_104 : decode cX4_pull 104 = .ok (.iconst 0, 1) := by decide +kernel
theorem dX4_pull_105 : decode cX4_pull 105 = .ok (.istore 11, 2) := by decide +kernel
theorem dX4_pull_107 : decode cX4_pull 107 = .ok (.iload 11, 2) := by decide +kernel
theorem dX4_pull_109 : decode cX4_pull 109 = .ok (.ifCond .eq 8, 3) := by decide +kernel
theorem dX4_pull_112 : decode cX4_pull 112 = .ok (.iload 9, 2) := by decide +kernel
theorem dX4_pull_114 : decode cX4_pull 114 = .ok (.goto 8, 3) := by decide +kernel
theorem dX4_pull_117 : decode cX4_pull 117 = .ok (.iload 9, 2) := by decide +kernel
theorem dX4_pull_119 : decode cX4_pull 119 = .ok (.iconst 2, 1) := by decide +kernel
theorem dX4_pull_120 : decode cX4_pull 120 = .ok (.idiv, 1) := by decide +kernel
theorem dX4_pull_121 : decode cX4_pull 121 = .ok (.ineg, 1) := by decide +kernel
theorem dX4_pull_122 : decode cX4_pull 122 = .ok (.ireturn, 1) := by decide +kernel
theorem dX4_ahead_0 : decode cX4_ahead 0 = .ok (.iload_n 1, 1) := by decide +kernel
theorem dX4_ahead_1 : decode cX4_ahead 1 = .ok (.iload_n 0, 1) := by decide +kernel
theorem dX4_ahead_2 : decode cX4_ahead 2 = .ok (.isub, 1) := by decide +kernel
theorem dX4_ahead_3 : decode cX4_ahead 3 = .ok (.bipush 7, 2) := by decide +kernel
theorem dX4_ahead_5 : decode cX4_ahead 5 = .ok (.iand, 1) := by decide +kernel
theorem dX4_ahead_6 : decode cX4_ahead 6 = .ok (.ireturn, 1) := by decide +kernel
end
section
/-! WORLDS BY HANDLES: a handle's address is 'ad', what it holds is 'st'; E: the class ids, the array class ids by kind (0 int, 1 boolean, 2 Grid, 3 long), the statics' arrays (0 ACROSS, 1 DOWN, 2 MOST_OF_SETTING) -/
abbrev NE : Type := va_G × (Nat → ClassId) × (Nat → Nat)
abbrev NW : Type := Nat → Option va_E
def nTys (E : NE) : List (ClassId × FieldType) := [(E.2.1 0, .int), (E.2.1 1, .boolean), (E.2.1 2, .object RX2), (E.2.1 3, .long)]
def nP (E : NE) (ad : Nat → Nat) (st : NW) (H : Heap) : Prop := ∀ (h : Nat) (e : va_E), st h = some e → va_at E.1 vwCl (ad h, e) H
def nD (A : Nat → Prop) (ad : Nat → Nat) (st : NW) : Prop := (∀ i j : Nat, st i ≠ none → st j ≠ none → ad i = ad j → i = j) ∧ ∀ h : Nat, st h ≠ none → A (ad h)
def nA (ad : Nat → Nat) (st : NW) (sz : Nat) : Nat → Prop := fun q => (∃ h : Nat, st h ≠ none ∧ ad h = q) ∨ sz ≤ q
def su (st : NW) (h : Nat) (e : va_E) : NW := fun j => if j = h then some e else st j
theorem su_s {st : NW} {h : Nat} {e : va_E} : su st h e h = some e := by simp [su]
theorem su_n {st : NW} {h j : Nat} {e : va_E} (hj : j ≠ h) : su st h e j = st j := by simp [su, hj]
theorem su_dom {st : NW} {h j : Nat} {e e0 : va_E} (hk : st h = some e0) : su st h e j ≠ none ↔ st j ≠ none := by
  by_cases hj : j = h
  · subst hj; simp [su, hk]
  · simp [su, hj]
theorem nn {st : NW} {h : Nat} {e : va_E} (hk : st h = some e) : st h ≠ none := by rw [hk]; exact fun z => by cases z
theorem nP.one {E : NE} {ad : Nat → Nat} {st : NW} {H : Heap} (h : nP E ad st H) {k : Nat} {e : va_E} (hk : st k = some e) : va_P E.1 vwCl [(ad k, e)] H := by
  intro j q hj
  have hz : j < 1 := (List.getElem?_eq_some_iff.mp hj).1
  rw [show j = 0 by omega] at hj
  cases hj
  exact h k e hk
theorem nP.lt {E : NE} {ad : Nat → Nat} {st : NW} {H : Heap} (h : nP E ad st H) {k : Nat} (hk : st k ≠ none) : ad k < H.size := by
  cases hs : st k with
  | none => exact absurd hs hk
  | some e => exact (h k e hs).lt
theorem nP.kept {E : NE} {ad : Nat → Nat} {st : NW} {H H1 : Heap} (h : nP E ad st H) (hq : ∀ q, q < H.size → H1[q]? = H[q]?) : nP E ad st H1 := fun k e hk => (h k e hk).kept (hq _ (h k e hk).lt)
theorem nP.set {E : NE} {ad : Nat → Nat} {st : NW} {A : Nat → Prop} {H H1 : Heap} (h : nP E ad st H) (hD : nD A ad st) {k : Nat} {e0 e : va_E} (hk : st k = some e0) (he : va_at E.1 vwCl (ad k, e) H1) (oq : ∀ q : Nat, q ≠ ad k → H1[q]? = H[q]?) : nP E ad (su st k e) H1 := by
  intro j f hj
  by_cases hjk : j = k
  · subst hjk
    rw [su_s] at hj
    cases hj
    exact he
  · rw [su_n hjk] at hj
    exact (h j f hj).kept (oq _ (fun z => hjk (hD.1 j k (nn hj) (nn hk) z)))
theorem nD.set {A : Nat → Prop} {ad : Nat → Nat} {st : NW} (hD : nD A ad st) {k : Nat} {e0 e : va_E} (hk : st k = some e0) : nD A ad (su st k e) :=
  ⟨fun i j hi hj => hD.1 i j ((su_dom hk).mp hi) ((su_dom hk).mp hj), fun h hh => hD.2 h ((su_dom hk).mp hh)⟩
theorem nD.self {A : Nat → Prop} {ad : Nat → Nat} {st : NW} (hD : nD A ad st) (sz : Nat) : nD (nA ad st sz) ad st := ⟨hD.1, fun h hh => Or.inl ⟨h, hh, rfl⟩⟩
theorem nD.weaken {A B : Nat → Prop} {ad : Nat → Nat} {st : NW} (hD : nD A ad st) (h : ∀ q, A q → B q) : nD B ad st := ⟨hD.1, fun k hk => h _ (hD.2 k hk)⟩
theorem nA.sub {A0 : Nat → Prop} {ad : Nat → Nat} {st : NW} {H0 H : Heap} {locs : List Loc} (hD : nD A0 ad st) (hS : va_S A0 H0 H locs) (hA : ∀ q, H0.size ≤ q → A0 q) : ∀ q, nA ad st H.size q → A0 q := by
  intro q h
  rcases h with ⟨k, hk, rfl⟩ | h
  · exact hD.2 k hk
  · exact hA q (Nat.le_trans hS.1 h)
/-- contents that agree within the length may stand for each other -/
theorem va_at.cong {E : NE} {a n : Nat} {cA : ClassId} {f g : Nat → Int32} {H : Heap} (h : va_at E.1 vwCl (a, .inl (cA, n, .inl f)) H) (hfg : ∀ j, j < n → f j = g j) : va_at E.1 vwCl (a, .inl (cA, n, .inl g)) H := by
  refine Eq.trans h ?_
  show some (arrV cA n (fun j => .int (f j))) = some (arrV cA n (fun j => .int (g j)))
  congr 1
  unfold arrV
  congr 1
  apply Array.ext
  · simp
  · intro i h1 h2
    simp at h1
    simp [hfg i h1]
theorem nP.cong {E : NE} {ad : Nat → Nat} {st : NW} {A : Nat → Prop} {H : Heap} (h : nP E ad st H) (hD : nD A ad st) {k n : Nat} {cA : ClassId} {f g : Nat → Int32} (hk : st k = some (.inl (cA, n, .inl f))) (hfg : ∀ j, j < n → f j = g j) : nP E ad (su st k (.inl (cA, n, .inl g))) H :=
  h.set hD hk ((h k _ hk).cong hfg) (fun _ _ => rfl)
/-! statics, nest mates' links, texts: what no call changes -/
def nNF : List (String × Nat × String × String × String) := [("NeedleGrid", 44, "NeedleGrid$Grid", "directions", "[I"), ("NeedleGrid", 55, "NeedleGrid$Grid", "frictions", "[I"), ("NeedleGrid", 58, "NeedleGrid$Grid", "held", "[Z"), ("NeedleGrid", 169, "NeedleGrid$Grid", "barDirections", "[I"), ("NeedleGrid", 172, "NeedleGrid$Grid", "barStrengths", "[I"), ("NeedleGrid", 105, "NeedleGrid$Grid", "settings", "[I"), ("NeedleGrid", 92, "NeedleGrid$Grid", "turns", "I"), ("NeedleGrid", 96, "NeedleGrid$Grid", "coilDirection", "I"), ("NeedleGrid", 175, "NeedleGrid$Grid", "stepsSoFar", "I"), ("NeedleGrid", 146, "NeedleGrid$Grid", "fieldX", "[I"), ("NeedleGrid", 150, "NeedleGrid$Grid", "fieldY", "[I"), ("NeedleGrid", 138, "NeedleGrid$History", "amount", "I"), ("NeedleGrid", 264, "NeedleGrid$BarText", "codes", "[I"), ("NeedleGrid", 112, "NeedleGrid$BarText", "length", "I")]
def nNM : List (String × Nat × MethodName) := [("NeedleGrid$Grid", 56, yX4_across), ("NeedleGrid$Grid", 60, yX4_down), ("NeedleGrid$Grid", 74, yX4_pull), ("NeedleGrid", 28, yX1_init), ("NeedleGrid$BarText", 17, yX0_init), ("NeedleGrid$Grid", 85, yX4_aimOf), ("NeedleGrid$Grid", 92, yX4_ahead)]
def nNS : List (Nat × String) := [(190, "what is not 0 to 8"), (280, "there is no such setting"), (277, "there is no such cell"), (162, "what is not 0 to 7"), (164, "place is below 0"), (282, "a number is out of range"), (76, "there are 6 bars"), (87, "no bar lies there"), (115, "the buffer has 60 characters"), (129, "the buffer is not complete bars as a text"), (141, "there is no saved state")]
def tX : Nat → Int32 := fun k => match k with
  | 0 => 1
  | 1 => 1
  | 2 => 0
  | 3 => -1
  | 4 => -1
  | 5 => -1
  | 6 => 0
  | _ => 1
def tY : Nat → Int32 := fun k => match k with
  | 0 => 0
  | 1 => 1
  | 2 => 1
  | 3 => 1
  | 4 => 0
  | 5 => -1
  | 6 => -1
  | _ => -1
def tM : Nat → Int32 := fun k => match k with
  | 0 => 200
  | 1 => 20
  | _ => 50
/-- a static of NeedleGrid that holds an int array of n values f at the address t -/
def nZa (nm : String) (t n : Nat) (f : Nat → Int32) (A : Nat → Prop) (U : State) (H : Heap) : Prop := va_Z "NeedleGrid" nm "[I" (.ref t) A U H ∧ va_T .int t n (fun j => .int (f j)) A U H
/-- what a throw asks of the tables and what may change with them -/
def nNX (U : State) : Prop := (va_Nw (.castable "java/lang/IndexOutOfBoundsException" "java/lang/IndexOutOfBoundsException") U ∧ va_Nw (.castable "java/lang/IllegalArgumentException" "java/lang/IllegalArgumentException") U ∧ va_Nw (.castable "java/lang/IllegalStateException" "java/lang/IllegalStateException") U) ∧ va_Nw (.declares (Bundle.initS "java/lang/RuntimeException")) U ∧ va_Nw (.declares (Bundle.initS "java/lang/Exception")) U ∧ va_Nw (.declares (Bundle.initS "java/lang/Throwable")) U
theorem nNw_warmD {x : MethodName} {s U : State} (hW : s.WarmedH U.vm) (hZ : va_Nw (.declares x) s) : va_Nw (.declares x) U := va_tabs rfl (rfl : (s.setVm U.vm).vm = U.vm) (by rw [Cond.declares_setVm hW.alike]; exact hZ)
theorem nNX.warm {s U : State} (hW : s.WarmedH U.vm) (h : nNX s) : nNX U := ⟨⟨va_Nw.warmC hW h.1.1, va_Nw.warmC hW h.1.2.1, va_Nw.warmC hW h.1.2.2⟩, nNw_warmD hW h.2.1, nNw_warmD hW h.2.2.1, nNw_warmD hW h.2.2.2⟩
theorem nNX.same {u U : State} (hv : u.vm = U.vm) (h : nNX u) : nNX U := ⟨⟨va_Nw.same rfl hv h.1.1, va_Nw.same rfl hv h.1.2.1, va_Nw.same rfl hv h.1.2.2⟩, va_Nw.same rfl hv h.2.1, va_Nw.same rfl hv h.2.2.1, va_Nw.same rfl hv h.2.2.2⟩
def nZ (E : NE) (A : Nat → Prop) (U : State) (H : Heap) : Prop := (nZa "ACROSS" (E.2.2 0) 8 tX A U H ∧ nZa "DOWN" (E.2.2 1) 8 tY A U H ∧ nZa "MOST_OF_SETTING" (E.2.2 2) 3 tM A U H) ∧ (vx_Zq Bundle.tN "UNASSIGNED_STACK" Bundle.steD A U H ∧ vx_Zq Bundle.tN "SUPPRESSED_SENTINEL" Bundle.listD A U H) ∧ (∀ q ∈ nNF, va_Nw (.fieldLinkNest q.1 q.2.1 q.2.2.1 q.2.2.2.1 q.2.2.2.2 "NeedleGrid") U) ∧ (∀ q ∈ nNM, va_Nw (.methodLinkNest q.1 q.2.1 q.2.2 "NeedleGrid") U) ∧ (∀ q ∈ nNS, ∃ sa, vk_R "NeedleGrid" q.1 q.2 sa U) ∧ nNX U
theorem nZa.moved {nm : String} {t n : Nat} {f : Nat → Int32} {A : Nat → Prop} {u U : State} {H : Heap} (hvm : u.vm.Alike U.vm) (h : nZa nm t n f A u H) : nZa nm t n f A U H := ⟨va_Z.moved hvm h.1, va_T.moved hvm h.2⟩
theorem nZa.kept {nm : String} {t n : Nat} {f : Nat → Int32} {A : Nat → Prop} {U : State} {H H1 : Heap} (h : nZa nm t n f A U H) (hq : ∀ a : Nat, a < H.size → ¬ A a → H1[a]? = H[a]?) : nZa nm t n f A U H1 := ⟨h.1.kept hq, h.2.kept hq⟩
theorem nZa.narrow {nm : String} {t n : Nat} {f : Nat → Int32} {A B : Nat → Prop} {U : State} {H : Heap} (h : nZa nm t n f A U H) (hAB : ∀ q, B q → A q) : nZa nm t n f B U H := ⟨h.1.narrow hAB, h.2.narrow hAB⟩
/-- from the start of a method to the start of what it calls -/
theorem nZ.pass {E : NE} {A B : Nat → Prop} {s U : State} {H : Heap} {locs : List Loc} (h : nZ E A s s.heap) (hW : s.WarmedH U.vm) (hS : va_S A s.heap H locs) (hU : U.heap = H) (hAB : ∀ q, B q → A q) : nZ E B U U.heap := by
  obtain ⟨⟨h1, h2, h3⟩, ⟨h4, h5⟩, h6, h7, h8, hX⟩ := h
  have hk : ∀ a : Nat, a < s.heap.size → ¬ A a → U.heap[a]? = s.heap[a]? := fun a h1 h2 => by rw [hU]; exact hS.2.1 a h1 h2
  refine ⟨⟨((h1.kept hk).narrow hAB).moved hW.alike, ((h2.kept hk).narrow hAB).moved hW.alike, ((h3.kept hk).narrow hAB).moved hW.alike⟩, ⟨((h4.kept hk).narrow hAB).moved hW.alike, ((h5.kept hk).narrow hAB).moved hW.alike⟩, fun q hq => va_Nw.warmF hW (h6 q hq), fun q hq => va_Nw.warmM hW (h7 q hq), fun q hq => ?_, hX.warm hW⟩
  obtain ⟨sa, hs⟩ := h8 q hq
  exact ⟨sa, vk_R.warm hW hs⟩
/-- .. with the same tables (the frames alone differ) -/
theorem nZ.same {E : NE} {A : Nat → Prop} {u U : State} (h : nZ E A u u.heap) (hv : u.vm = U.vm) (hh : U.heap = u.heap) : nZ E A U U.heap := by
  obtain ⟨⟨h1, h2, h3⟩, ⟨h4, h5⟩, h6, h7, h8, hX⟩ := h
  have al : u.vm.Alike U.vm := hv ▸ Vm.Alike.refl u.vm
  rw [hh]
  exact ⟨⟨h1.moved al, h2.moved al, h3.moved al⟩, ⟨h4.moved al, h5.moved al⟩, fun q hq => va_Nw.same rfl hv (h6 q hq), fun q hq => va_Nw.same rfl hv (h7 q hq), fun q hq => (h8 q hq).imp fun sa hs => vk_R.same hv.symm hs, hX.same hv⟩
/-! contracts over such a world -/
def nPre (E : NE) (ad : Nat → Nat) (st : NW) (sz : Nat) (av : List Value) : Array Value → State → Prop := va_Pc av (fun U => U.heap.size = sz ∧ nP E ad st U.heap ∧ va_K E.1 vwCl (nTys E) U ∧ nD (nA ad st sz) ad st ∧ nZ E (nA ad st sz) U U.heap)
def nB (E : NE) (ad : Nat → Nat) (A : Nat → Prop) : NW → State → Prop := fun st' t => nP E ad st' t.heap ∧ va_K E.1 vwCl (nTys E) t ∧ nD A ad st'
theorem nPre.blind {E : NE} {ad : Nat → Nat} {st : NW} {sz : Nat} {av : List Value} : FrameBlind (nPre E ad st sz av) := by
  intro a U g mk h
  obtain ⟨h1, h2, h3, h4, h5, h6⟩ := h
  exact ⟨h1, h2, h3, va_K.moved (u := U) (U := U.calling g mk a) (Vm.Alike.refl U.vm) h4, h5, h6.same (u := U) (U := U.calling g mk a) rfl rfl⟩
def nMi (l : Launch) (y : MethodName) (ws : List Cond) (rm : Room) (E : NE) (ad : Nat → Nat) (st : NW) (av : List Value) (post : Int32 → NW → Prop) : Prop := ∀ sz, Met l y ws rm (nPre E ad st sz av) (va_Qi post (nB E ad (nA ad st sz)) (nA ad st sz)) 0 0 (nA ad st sz)
def nMv (l : Launch) (y : MethodName) (ws : List Cond) (rm : Room) (E : NE) (ad : Nat → Nat) (st : NW) (av : List Value) (post : NW → Prop) : Prop := ∀ sz, Met l y ws rm (nPre E ad st sz av) (va_Qv post (nB E ad (nA ad st sz)) (nA ad st sz)) 0 0 (nA ad st sz)
def nMl (l : Launch) (y : MethodName) (ws : List Cond) (rm : Room) (E : NE) (ad : Nat → Nat) (st : NW) (av : List Value) (post : Int64 → NW → Prop) : Prop := ∀ sz, Met l y ws rm (nPre E ad st sz av) (va_Ql post (nB E ad (nA ad st sz)) (nA ad st sz)) 0 0 (nA ad st sz)
def nMd (l : Launch) (y : MethodName) (ws : List Cond) (rm : Room) (E : NE) (ad : Nat → Nat) (st : NW) (av : List Value) (post : UInt64 → NW → Prop) : Prop := ∀ sz, Met l y ws rm (nPre E ad st sz av) (va_Qd post (nB E ad (nA ad st sz)) (nA ad st sz)) 0 0 (nA ad st sz)
def nRm (f n : Nat) : Room := { frames := f, cells := 0, slots := 0, locals := n }
end

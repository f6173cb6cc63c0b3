-- J: a walk's judgement with the heap and the locals' array hidden: whatever heap holds the world of u, whatever array holds the listed locals
def jk_X {S : Type} (D : va_G) (cl : List vw_C) (wd : S → va_W) (A : Nat → Prop) (H0 : Heap) (u : S) (H : Heap) (locs : List Loc) : Prop := va_P D cl (wd u) H ∧ va_D A (wd u) ∧ va_S A H0 H locs
def JJ {S : Type} (p : Program) (l : Launch) (e : Env) (R : Room) (s : State) (m : MethodId) (args : Array Value) (below : List Frame) (meth : Method) (c : Code) (cells slots : Nat) (nL : Nat) (D : va_G) (cl : List vw_C) (wd : S → va_W) (A : Nat → Prop) (Q : State → Prop) (pc : Nat) (lv : List (Nat × Value)) (u : S) (st : List Value) : Prop :=
  ∀ (H : Heap) (locs : List Loc) (ls : Array Slot), jk_X D cl wd A s.heap u H locs → lv_has ls nL lv → W p l e R s m args below meth c H locs cells slots Q (F0 m pc ls st)
/-- what the start says of the class's static arrays, and of the nest mate's call: it holds all through -/
def jk_lo (j : Nat) : Int32 := match j with
  | 0 => 1
  | 1 => 0
  | 2 => 1
  | 3 => 3
  | 4 => 0
  | 5 => 0
  | _ => 0
def jk_hi (j : Nat) : Int32 := match j with
  | 0 => 200
  | 1 => 100
  | 2 => 500
  | 3 => 50
  | 4 => 50
  | 5 => 100
  | _ => 200
def jk_N (A : Nat → Prop) (U : State) : Prop := va_Nw (.methodLinkNest RX0 26 yX3_anyInTheWay RX3) U ∧ (∃ t : Nat, va_Z RX3 "LOWEST" "[I" (.ref t) A U U.heap ∧ va_T .int t 7 (fun j => .int (jk_lo j)) A U U.heap) ∧ ∃ t : Nat, va_Z RX3 "HIGHEST" "[I" (.ref t) A U U.heap ∧ va_T .int t 7 (fun j => .int (jk_hi j)) A U U.heap
theorem jk_N.narrow {A B : Nat → Prop} {U : State} (h : jk_N A U) (hAB : ∀ q, B q → A q) : jk_N B U := by
  obtain ⟨h1, ⟨t, h2, h3⟩, t', h4, h5⟩ := h
  exact ⟨h1, ⟨t, h2.narrow hAB, h3.narrow hAB⟩, t', h4.narrow hAB, h5.narrow hAB⟩
theorem jk_N.at {A : Nat → Prop} {s U : State} {locs : List Loc} (h : jk_N A s) (hS : va_S A s.heap U.heap locs) (hW : s.WarmedH U.vm) : jk_N A U := by
  obtain ⟨h1, ⟨t, h2, h3⟩, t', h4, h5⟩ := h
  exact ⟨h1.warmM hW, ⟨t, (h2.moved hW.alike).kept hS.2.1, (h3.moved hW.alike).kept hS.2.1⟩, t', (h4.moved hW.alike).kept hS.2.1, (h5.moved hW.alike).kept hS.2.1⟩
theorem jk_N.calling {A : Nat → Prop} {U : State} {g : JFrame} {mk : MethodId} {a : Array Value} (h : jk_N A U) : jk_N A (U.calling g mk a) := by
  obtain ⟨h1, ⟨t, h2, h3⟩, t', h4, h5⟩ := h
  exact ⟨h1.same rfl rfl, ⟨t, h2.moved (Vm.Alike.refl U.vm), h3.moved (Vm.Alike.refl U.vm)⟩, t', h4.moved (Vm.Alike.refl U.vm), h5.moved (Vm.Alike.refl U.vm)⟩
def jk_C (p : Program) (R : Room) (s : State) (m : MethodId) (args : Array Value) (c : Code) (cells slots : Nat) (cc : ByteArray) (nL : Nat) (own : String) (Ts : List Cond) (D : va_G) (cl : List vw_C) (tys : List (ClassId × FieldType)) (A : Nat → Prop) : Prop :=
  p.tables.exec = Jvm.exec ∧ c.code = cc ∧ c.maxLocals = nL ∧ s.vm.findClass own = some m.cls ∧ (∀ w ∈ Ts, w.before args s = true) ∧ va_K D cl tys s ∧ (∀ q, s.heap.size ≤ q → A q) ∧ cells ≤ R.cells ∧ slots ≤ R.slots ∧ jk_N A s
/-- a class's table, for reading and writing its fields -/
def jk_F (cl : List vw_C) (Ts : List Cond) (ci : Nat) (Cn : String) (T : u_T) (N : Nat) (ty0 : Nat → FieldType) : Prop :=
  cl[ci]? = some (Cn, T, N) ∧ (∀ k, k < N → parseFieldDescriptor (T k).2.2.1 = some (ty0 k)) ∧ (∀ a, a < N → ∀ b, b < N → a ≠ b → (T a).2.1 ≠ (T b).2.1) ∧ ∀ w ∈ u_ws Cn T N, w ∈ Ts
theorem jk_self {x : Int32} {n : Nat} (h : vp_in x n) (hn : n < 2 ^ 31) : x = nI x.toNatClampNeg := by
  obtain ⟨j, hj, rfl⟩ := vp_in_of h hn
  rw [nI_clamp (Nat.lt_trans hj hn)]
section JK
variable {S : Type} {p : Program} {l : Launch} {e : Env} {R : Room} {s : State} {m : MethodId} {args : Array Value} {below : List Frame} {meth : Method} {c : Code} {cells slots : Nat} {cc : ByteArray} {nL : Nat} {own : String} {Ts : List Cond} {D : va_G} {cl : List vw_C} {tys : List (ClassId × FieldType)} {wd : S → va_W} {A : Nat → Prop} {Q : State → Prop} {pc : Nat} {lv : List (Nat × Value)} {u : S} {st : List Value}
theorem j_iconst (C : jk_C p R s m args c cells slots cc nL own Ts D cl tys A) {n : Int} (v : Int32) (d : decode cc pc = .ok (.iconst n, 1)) (hv : Int32.ofInt n = v) (k : JJ p l e R s m args below meth c cells slots nL D cl wd A Q (pc + 1) lv u (.int v :: st)) : JJ p l e R s m args below meth c cells slots nL D cl wd A Q pc lv u st :=
  fun H locs ls X hl => lv_iconst C.1 C.2.1 d hv (k H locs ls X hl)
theorem j_bipush (C : jk_C p R s m args c cells slots cc nL own Ts D cl tys A) {n : Int} (v : Int32) (d : decode cc pc = .ok (.bipush n, 2)) (hv : (Int8.ofInt n).toInt32 = v) (k : JJ p l e R s m args below meth c cells slots nL D cl wd A Q (pc + 2) lv u (.int v :: st)) : JJ p l e R s m args below meth c cells slots nL D cl wd A Q pc lv u st :=
  fun H locs ls X hl => lv_bipush C.1 C.2.1 d hv (k H locs ls X hl)
theorem j_sipush (C : jk_C p R s m args c cells slots cc nL own Ts D cl tys A) {n : Int} (v : Int32) (d : decode cc pc = .ok (.sipush n, 3)) (hv : (Int16.ofInt n).toInt32 = v) (k : JJ p l e R s m args below meth c cells slots nL D cl wd A Q (pc + 3) lv u (.int v :: st)) : JJ p l e R s m args below meth c cells slots nL D cl wd A Q pc lv u st :=
  fun H locs ls X hl => lv_sipush C.1 C.2.1 d hv (k H locs ls X hl)
theorem j_iload_n (C : jk_C p R s m args c cells slots cc nL own Ts D cl tys A) {k : Fin 4} {x : Int32} (q : Nat) (d : decode cc pc = .ok (.iload_n k, 1)) (h : lv[q]? = some ((k : Nat), .int x)) (kk : JJ p l e R s m args below meth c cells slots nL D cl wd A Q (pc + 1) lv u (.int x :: st)) : JJ p l e R s m args below meth c cells slots nL D cl wd A Q pc lv u st :=
  fun H locs ls X hl => lv_iload_n C.1 C.2.1 d rfl (lv_at hl q h) (kk H locs ls X hl)
theorem j_iload (C : jk_C p R s m args c cells slots cc nL own Ts D cl tys A) {i : Nat} {x : Int32} (q : Nat) (d : decode cc pc = .ok (.iload i, 2)) (h : lv[q]? = some (i, .int x)) (kk : JJ p l e R s m args below meth c cells slots nL D cl wd A Q (pc + 2) lv u (.int x :: st)) : JJ p l e R s m args below meth c cells slots nL D cl wd A Q pc lv u st :=
  fun H locs ls X hl => lv_iload C.1 C.2.1 d (lv_at hl q h) (kk H locs ls X hl)
theorem j_aload_n (C : jk_C p R s m args c cells slots cc nL own Ts D cl tys A) {k : Fin 4} {x : Nat} (q : Nat) (d : decode cc pc = .ok (.aload_n k, 1)) (h : lv[q]? = some ((k : Nat), .ref x)) (kk : JJ p l e R s m args below meth c cells slots nL D cl wd A Q (pc + 1) lv u (.ref x :: st)) : JJ p l e R s m args below meth c cells slots nL D cl wd A Q pc lv u st :=
  fun H locs ls X hl => lv_aload_n C.1 C.2.1 d rfl (lv_at hl q h) (kk H locs ls X hl)
theorem j_aload (C : jk_C p R s m args c cells slots cc nL own Ts D cl tys A) {i : Nat} {x : Nat} (q : Nat) (d : decode cc pc = .ok (.aload i, 2)) (h : lv[q]? = some (i, .ref x)) (kk : JJ p l e R s m args below meth c cells slots nL D cl wd A Q (pc + 2) lv u (.ref x :: st)) : JJ p l e R s m args below meth c cells slots nL D cl wd A Q pc lv u st :=
  fun H locs ls X hl => lv_aload C.1 C.2.1 d (lv_at hl q h) (kk H locs ls X hl)
theorem j_istore_n (C : jk_C p R s m args c cells slots cc nL own Ts D cl tys A) {k : Fin 4} {x : Int32} {lv' : List (Nat × Value)} (d : decode cc pc = .ok (.istore_n k, 1)) (hn : (k : Nat) < nL) (hl' : ((k : Nat), Value.int x) :: lv.filter (fun q => !(q.1 == (k : Nat)) && !(q.1 + 1 == (k : Nat) && q.2.category == 2)) = lv') (kk : JJ p l e R s m args below meth c cells slots nL D cl wd A Q (pc + 1) lv' u st) : JJ p l e R s m args below meth c cells slots nL D cl wd A Q pc lv u (.int x :: st) :=
  fun H locs _ X hl => lv_istore_n C.1 C.2.1 d rfl hl hn hl' (fun ls hl => kk H locs ls X hl)
theorem j_istore (C : jk_C p R s m args c cells slots cc nL own Ts D cl tys A) {i : Nat} {x : Int32} {lv' : List (Nat × Value)} (d : decode cc pc = .ok (.istore i, 2)) (hn : i < nL) (hl' : (i, Value.int x) :: lv.filter (fun q => !(q.1 == i) && !(q.1 + 1 == i && q.2.category == 2)) = lv') (kk : JJ p l e R s m args below meth c cells slots nL D cl wd A Q (pc + 2) lv' u st) : JJ p l e R s m args below meth c cells slots nL D cl wd A Q pc lv u (.int x :: st) :=
  fun H locs _ X hl => lv_istore C.1 C.2.1 d hl hn hl' (fun ls hl => kk H locs ls X hl)
theorem j_astore_n (C : jk_C p R s m args c cells slots cc nL own Ts D cl tys A) {k : Fin 4} {x : Nat} {lv' : List (Nat × Value)} (d : decode cc pc = .ok (.astore_n k, 1)) (hn : (k : Nat) < nL) (hl' : ((k : Nat), Value.ref x) :: lv.filter (fun q => !(q.1 == (k : Nat)) && !(q.1 + 1 == (k : Nat) && q.2.category == 2)) = lv') (kk : JJ p l e R s m args below meth c cells slots nL D cl wd A Q (pc + 1) lv' u st) : JJ p l e R s m args below meth c cells slots nL D cl wd A Q pc lv u (.ref x :: st) :=
  fun H locs _ X hl => lv_astore_n C.1 C.2.1 d rfl hl hn hl' (fun ls hl => kk H locs ls X hl)
theorem j_astore (C : jk_C p R s m args c cells slots cc nL own Ts D cl tys A) {i : Nat} {x : Nat} {lv' : List (Nat × Value)} (d : decode cc pc = .ok (.astore i, 2)) (hn : i < nL) (hl' : (i, Value.ref x) :: lv.filter (fun q => !(q.1 == i) && !(q.1 + 1 == i && q.2.category == 2)) = lv') (kk : JJ p l e R s m args below meth c cells slots nL D cl wd A Q (pc + 2) lv' u st) : JJ p l e R s m args below meth c cells slots nL D cl wd A Q pc lv u (.ref x :: st) :=
  fun H locs _ X hl => lv_astore C.1 C.2.1 d hl hn hl' (fun ls hl => kk H locs ls X hl)
theorem j_iinc (C : jk_C p R s m args c cells slots cc nL own Ts D cl tys A) {i : Nat} {n : Int} {x : Int32} (q : Nat) (v : Int32) {lv' : List (Nat × Value)} (d : decode cc pc = .ok (.iinc i n, 3)) (h : lv[q]? = some (i, .int x)) (hv : x + Int32.ofInt n = v) (hn : i < nL) (hl' : (i, Value.int v) :: lv.filter (fun q => !(q.1 == i) && !(q.1 + 1 == i && q.2.category == 2)) = lv') (kk : JJ p l e R s m args below meth c cells slots nL D cl wd A Q (pc + 3) lv' u st) : JJ p l e R s m args below meth c cells slots nL D cl wd A Q pc lv u st :=
  fun H locs _ X hl => lv_iinc C.1 C.2.1 d hl h hv hn hl' (fun ls hl => kk H locs ls X hl)
theorem j_iadd (C : jk_C p R s m args c cells slots cc nL own Ts D cl tys A) {x y : Int32} (d : decode cc pc = .ok (.iadd, 1)) (kk : JJ p l e R s m args below meth c cells slots nL D cl wd A Q (pc + 1) lv u (.int (x + y) :: st)) : JJ p l e R s m args below meth c cells slots nL D cl wd A Q pc lv u (.int y :: .int x :: st) :=
  fun H locs ls X hl => lv_iadd C.1 C.2.1 d (kk H locs ls X hl)
theorem j_isub (C : jk_C p R s m args c cells slots cc nL own Ts D cl tys A) {x y : Int32} (d : decode cc pc = .ok (.isub, 1)) (kk : JJ p l e R s m args below meth c cells slots nL D cl wd A Q (pc + 1) lv u (.int (x - y) :: st)) : JJ p l e R s m args below meth c cells slots nL D cl wd A Q pc lv u (.int y :: .int x :: st) :=
  fun H locs ls X hl => lv_isub C.1 C.2.1 d (kk H locs ls X hl)
theorem j_imul (C : jk_C p R s m args c cells slots cc nL own Ts D cl tys A) {x y : Int32} (d : decode cc pc = .ok (.imul, 1)) (kk : JJ p l e R s m args below meth c cells slots nL D cl wd A Q (pc + 1) lv u (.int (x * y) :: st)) : JJ p l e R s m args below meth c cells slots nL D cl wd A Q pc lv u (.int y :: .int x :: st) :=
  fun H locs ls X hl => lv_imul C.1 C.2.1 d (kk H locs ls X hl)
theorem j_iand (C : jk_C p R s m args c cells slots cc nL own Ts D cl tys A) {x y : Int32} (d : decode cc pc = .ok (.iand, 1)) (kk : JJ p l e R s m args below meth c cells slots nL D cl wd A Q (pc + 1) lv u (.int (x &&& y) :: st)) : JJ p l e R s m args below meth c cells slots nL D cl wd A Q pc lv u (.int y :: .int x :: st) :=
  fun H locs ls X hl => lv_iand C.1 C.2.1 d (kk H locs ls X hl)
theorem j_ior (C : jk_C p R s m args c cells slots cc nL own Ts D cl tys A) {x y : Int32} (d : decode cc pc = .ok (.ior, 1)) (kk : JJ p l e R s m args below meth c cells slots nL D cl wd A Q (pc + 1) lv u (.int (x ||| y) :: st)) : JJ p l e R s m args below meth c cells slots nL D cl wd A Q pc lv u (.int y :: .int x :: st) :=
  fun H locs ls X hl => lv_ior C.1 C.2.1 d (kk H locs ls X hl)
theorem j_ixor (C : jk_C p R s m args c cells slots cc nL own Ts D cl tys A) {x y : Int32} (d : decode cc pc = .ok (.ixor, 1)) (kk : JJ p l e R s m args below meth c cells slots nL D cl wd A Q (pc + 1) lv u (.int (x ^^^ y) :: st)) : JJ p l e R s m args below meth c cells slots nL D cl wd A Q pc lv u (.int y :: .int x :: st) :=
  fun H locs ls X hl => lv_ixor C.1 C.2.1 d (kk H locs ls X hl)
theorem j_ishl (C : jk_C p R s m args c cells slots cc nL own Ts D cl tys A) {x y : Int32} (v : Int32) (d : decode cc pc = .ok (.ishl, 1)) (hv : x <<< (y &&& 31) = v) (kk : JJ p l e R s m args below meth c cells slots nL D cl wd A Q (pc + 1) lv u (.int v :: st)) : JJ p l e R s m args below meth c cells slots nL D cl wd A Q pc lv u (.int y :: .int x :: st) :=
  fun H locs ls X hl => lv_ishl C.1 C.2.1 d (by rw [hv]; exact kk H locs ls X hl)
theorem j_ishr (C : jk_C p R s m args c cells slots cc nL own Ts D cl tys A) {x y : Int32} (v : Int32) (d : decode cc pc = .ok (.ishr, 1)) (hv : x >>> (y &&& 31) = v) (kk : JJ p l e R s m args below meth c cells slots nL D cl wd A Q (pc + 1) lv u (.int v :: st)) : JJ p l e R s m args below meth c cells slots nL D cl wd A Q pc lv u (.int y :: .int x :: st) :=
  fun H locs ls X hl => lv_ishr C.1 C.2.1 d (by rw [hv]; exact kk H locs ls X hl)
theorem j_idiv (C : jk_C p R s m args c cells slots cc nL own Ts D cl tys A) {x y : Int32} (v : Int32) (d : decode cc pc = .ok (.idiv, 1)) (hne : ¬ y = 0) (hv : x / y = v) (kk : JJ p l e R s m args below meth c cells slots nL D cl wd A Q (pc + 1) lv u (.int v :: st)) : JJ p l e R s m args below meth c cells slots nL D cl wd A Q pc lv u (.int y :: .int x :: st) :=
  fun H locs ls X hl => lv_idiv C.1 C.2.1 d hne (by rw [hv]; exact kk H locs ls X hl)
theorem j_irem (C : jk_C p R s m args c cells slots cc nL own Ts D cl tys A) {x y : Int32} (v : Int32) (d : decode cc pc = .ok (.irem, 1)) (hne : ¬ y = 0) (hv : x - x / y * y = v) (kk : JJ p l e R s m args below meth c cells slots nL D cl wd A Q (pc + 1) lv u (.int v :: st)) : JJ p l e R s m args below meth c cells slots nL D cl wd A Q pc lv u (.int y :: .int x :: st) :=
  fun H locs ls X hl => lv_irem C.1 C.2.1 d hne (by rw [hv]; exact kk H locs ls X hl)
theorem j_dup (C : jk_C p R s m args c cells slots cc nL own Ts D cl tys A) {v : Value} (d : decode cc pc = .ok (.dup, 1)) (hv : v.category = 1) (kk : JJ p l e R s m args below meth c cells slots nL D cl wd A Q (pc + 1) lv u (v :: v :: st)) : JJ p l e R s m args below meth c cells slots nL D cl wd A Q pc lv u (v :: st) :=
  fun H locs ls X hl => lv_dup C.1 C.2.1 d hv (kk H locs ls X hl)
theorem j_dup2 (C : jk_C p R s m args c cells slots cc nL own Ts D cl tys A) {v w : Value} (d : decode cc pc = .ok (.dup2, 1)) (hv : v.category = 1) (hw : w.category = 1) (kk : JJ p l e R s m args below meth c cells slots nL D cl wd A Q (pc + 1) lv u (v :: w :: v :: w :: st)) : JJ p l e R s m args below meth c cells slots nL D cl wd A Q pc lv u (v :: w :: st) :=
  fun H locs ls X hl => lv_dup2_11 C.1 C.2.1 d hv hw (kk H locs ls X hl)
theorem j_pop (C : jk_C p R s m args c cells slots cc nL own Ts D cl tys A) {v : Value} (d : decode cc pc = .ok (.pop, 1)) (hv : v.category = 1) (kk : JJ p l e R s m args below meth c cells slots nL D cl wd A Q (pc + 1) lv u st) : JJ p l e R s m args below meth c cells slots nL D cl wd A Q pc lv u (v :: st) :=
  fun H locs ls X hl => lv_pop C.1 C.2.1 d hv (kk H locs ls X hl)
theorem j_goto (C : jk_C p R s m args c cells slots cc nL own Ts D cl tys A) {off : Int} (tgt : Nat) (d : decode cc pc = .ok (.goto off, 3)) (ht : (pc : Int) + off = (tgt : Int)) (kk : JJ p l e R s m args below meth c cells slots nL D cl wd A Q tgt lv u st) : JJ p l e R s m args below meth c cells slots nL D cl wd A Q pc lv u st :=
  fun H locs ls X hl => lv_goto C.1 C.2.1 d ht (kk H locs ls X hl)
theorem j_if_eq (C : jk_C p R s m args c cells slots cc nL own Ts D cl tys A) {x : Int32} {off : Int} (tgt : Nat) (d : decode cc pc = .ok (.ifCond .eq off, 3)) (ht : (pc : Int) + off = (tgt : Int)) (kt : x = 0 → JJ p l e R s m args below meth c cells slots nL D cl wd A Q tgt lv u st) (kf : ¬ x = 0 → JJ p l e R s m args below meth c cells slots nL D cl wd A Q (pc + 3) lv u st) : JJ p l e R s m args below meth c cells slots nL D cl wd A Q pc lv u (.int x :: st) :=
  fun H locs ls X hl => lv_if_eq C.1 C.2.1 d ht (fun h => kt h H locs ls X hl) (fun h => kf h H locs ls X hl)
theorem j_if_ne (C : jk_C p R s m args c cells slots cc nL own Ts D cl tys A) {x : Int32} {off : Int} (tgt : Nat) (d : decode cc pc = .ok (.ifCond .ne off, 3)) (ht : (pc : Int) + off = (tgt : Int)) (kt : ¬ x = 0 → JJ p l e R s m args below meth c cells slots nL D cl wd A Q tgt lv u st) (kf : x = 0 → JJ p l e R s m args below meth c cells slots nL D cl wd A Q (pc + 3) lv u st) : JJ p l e R s m args below meth c cells slots nL D cl wd A Q pc lv u (.int x :: st) :=
  fun H locs ls X hl => lv_if_ne C.1 C.2.1 d ht (fun h => kt h H locs ls X hl) (fun h => kf h H locs ls X hl)
theorem j_if_lt (C : jk_C p R s m args c cells slots cc nL own Ts D cl tys A) {x : Int32} {off : Int} (tgt : Nat) (d : decode cc pc = .ok (.ifCond .lt off, 3)) (ht : (pc : Int) + off = (tgt : Int)) (kt : x < 0 → JJ p l e R s m args below meth c cells slots nL D cl wd A Q tgt lv u st) (kf : ¬ x < 0 → JJ p l e R s m args below meth c cells slots nL D cl wd A Q (pc + 3) lv u st) : JJ p l e R s m args below meth c cells slots nL D cl wd A Q pc lv u (.int x :: st) :=
  fun H locs ls X hl => lv_if_lt C.1 C.2.1 d ht (fun h => kt h H locs ls X hl) (fun h => kf h H locs ls X hl)
theorem j_if_ge (C : jk_C p R s m args c cells slots cc nL own Ts D cl tys A) {x : Int32} {off : Int} (tgt : Nat) (d : decode cc pc = .ok (.ifCond .ge off, 3)) (ht : (pc : Int) + off = (tgt : Int)) (kt : 0 ≤ x → JJ p l e R s m args below meth c cells slots nL D cl wd A Q tgt lv u st) (kf : ¬ 0 ≤ x → JJ p l e R s m args below meth c cells slots nL D cl wd A Q (pc + 3) lv u st) : JJ p l e R s m args below meth c cells slots nL D cl wd A Q pc lv u (.int x :: st) :=
  fun H locs ls X hl => lv_if_ge C.1 C.2.1 d ht (fun h => kt h H locs ls X hl) (fun h => kf h H locs ls X hl)
theorem j_if_gt (C : jk_C p R s m args c cells slots cc nL own Ts D cl tys A) {x : Int32} {off : Int} (tgt : Nat) (d : decode cc pc = .ok (.ifCond .gt off, 3)) (ht : (pc : Int) + off = (tgt : Int)) (kt : 0 < x → JJ p l e R s m args below meth c cells slots nL D cl wd A Q tgt lv u st) (kf : ¬ 0 < x → JJ p l e R s m args below meth c cells slots nL D cl wd A Q (pc + 3) lv u st) : JJ p l e R s m args below meth c cells slots nL D cl wd A Q pc lv u (.int x :: st) :=
  fun H locs ls X hl => lv_if_gt C.1 C.2.1 d ht (fun h => kt h H locs ls X hl) (fun h => kf h H locs ls X hl)
theorem j_if_le (C : jk_C p R s m args c cells slots cc nL own Ts D cl tys A) {x : Int32} {off : Int} (tgt : Nat) (d : decode cc pc = .ok (.ifCond .le off, 3)) (ht : (pc : Int) + off = (tgt : Int)) (kt : x ≤ 0 → JJ p l e R s m args below meth c cells slots nL D cl wd A Q tgt lv u st) (kf : ¬ x ≤ 0 → JJ p l e R s m args below meth c cells slots nL D cl wd A Q (pc + 3) lv u st) : JJ p l e R s m args below meth c cells slots nL D cl wd A Q pc lv u (.int x :: st) :=
  fun H locs ls X hl => lv_if_le C.1 C.2.1 d ht (fun h => kt h H locs ls X hl) (fun h => kf h H locs ls X hl)
theorem j_icmp_eq (C : jk_C p R s m args c cells slots cc nL own Ts D cl tys A) {x y : Int32} {off : Int} (tgt : Nat) (d : decode cc pc = .ok (.if_icmp .eq off, 3)) (ht : (pc : Int) + off = (tgt : Int)) (kt : x = y → JJ p l e R s m args below meth c cells slots nL D cl wd A Q tgt lv u st) (kf : ¬ x = y → JJ p l e R s m args below meth c cells slots nL D cl wd A Q (pc + 3) lv u st) : JJ p l e R s m args below meth c cells slots nL D cl wd A Q pc lv u (.int y :: .int x :: st) :=
  fun H locs ls X hl => lv_icmp_eq C.1 C.2.1 d ht (fun h => kt h H locs ls X hl) (fun h => kf h H locs ls X hl)
theorem j_icmp_ne (C : jk_C p R s m args c cells slots cc nL own Ts D cl tys A) {x y : Int32} {off : Int} (tgt : Nat) (d : decode cc pc = .ok (.if_icmp .ne off, 3)) (ht : (pc : Int) + off = (tgt : Int)) (kt : ¬ x = y → JJ p l e R s m args below meth c cells slots nL D cl wd A Q tgt lv u st) (kf : x = y → JJ p l e R s m args below meth c cells slots nL D cl wd A Q (pc + 3) lv u st) : JJ p l e R s m args below meth c cells slots nL D cl wd A Q pc lv u (.int y :: .int x :: st) :=
  fun H locs ls X hl => lv_icmp_ne C.1 C.2.1 d ht (fun h => kt h H locs ls X hl) (fun h => kf h H locs ls X hl)
theorem j_icmp_lt (C : jk_C p R s m args c cells slots cc nL own Ts D cl tys A) {x y : Int32} {off : Int} (tgt : Nat) (d : decode cc pc = .ok (.if_icmp .lt off, 3)) (ht : (pc : Int) + off = (tgt : Int)) (kt : x < y → JJ p l e R s m args below meth c cells slots nL D cl wd A Q tgt lv u st) (kf : ¬ x < y → JJ p l e R s m args below meth c cells slots nL D cl wd A Q (pc + 3) lv u st) : JJ p l e R s m args below meth c cells slots nL D cl wd A Q pc lv u (.int y :: .int x :: st) :=
  fun H locs ls X hl => lv_icmp_lt C.1 C.2.1 d ht (fun h => kt h H locs ls X hl) (fun h => kf h H locs ls X hl)
theorem j_icmp_ge (C : jk_C p R s m args c cells slots cc nL own Ts D cl tys A) {x y : Int32} {off : Int} (tgt : Nat) (d : decode cc pc = .ok (.if_icmp .ge off, 3)) (ht : (pc : Int) + off = (tgt : Int)) (kt : y ≤ x → JJ p l e R s m args below meth c cells slots nL D cl wd A Q tgt lv u st) (kf : ¬ y ≤ x → JJ p l e R s m args below meth c cells slots nL D cl wd A Q (pc + 3) lv u st) : JJ p l e R s m args below meth c cells slots nL D cl wd A Q pc lv u (.int y :: .int x :: st) :=
  fun H locs ls X hl => lv_icmp_ge C.1 C.2.1 d ht (fun h => kt h H locs ls X hl) (fun h => kf h H locs ls X hl)
theorem j_icmp_gt (C : jk_C p R s m args c cells slots cc nL own Ts D cl tys A) {x y : Int32} {off : Int} (tgt : Nat) (d : decode cc pc = .ok (.if_icmp .gt off, 3)) (ht : (pc : Int) + off = (tgt : Int)) (kt : y < x → JJ p l e R s m args below meth c cells slots nL D cl wd A Q tgt lv u st) (kf : ¬ y < x → JJ p l e R s m args below meth c cells slots nL D cl wd A Q (pc + 3) lv u st) : JJ p l e R s m args below meth c cells slots nL D cl wd A Q pc lv u (.int y :: .int x :: st) :=
  fun H locs ls X hl => lv_icmp_gt C.1 C.2.1 d ht (fun h => kt h H locs ls X hl) (fun h => kf h H locs ls X hl)
theorem j_icmp_le (C : jk_C p R s m args c cells slots cc nL own Ts D cl tys A) {x y : Int32} {off : Int} (tgt : Nat) (d : decode cc pc = .ok (.if_icmp .le off, 3)) (ht : (pc : Int) + off = (tgt : Int)) (kt : x ≤ y → JJ p l e R s m args below meth c cells slots nL D cl wd A Q tgt lv u st) (kf : ¬ x ≤ y → JJ p l e R s m args below meth c cells slots nL D cl wd A Q (pc + 3) lv u st) : JJ p l e R s m args below meth c cells slots nL D cl wd A Q pc lv u (.int y :: .int x :: st) :=
  fun H locs ls X hl => lv_icmp_le C.1 C.2.1 d ht (fun h => kt h H locs ls X hl) (fun h => kf h H locs ls X hl)
/-- the same stack, or locals, or world, said otherwise -/
theorem j_st {st' : List Value} (h : st = st') (kk : JJ p l e R s m args below meth c cells slots nL D cl wd A Q pc lv u st') : JJ p l e R s m args below meth c cells slots nL D cl wd A Q pc lv u st := h ▸ kk
theorem j_u {u' : S} (h : u = u') (kk : JJ p l e R s m args below meth c cells slots nL D cl wd A Q pc lv u' st) : JJ p l e R s m args below meth c cells slots nL D cl wd A Q pc lv u st := h ▸ kk
theorem j_lq {lv' : List (Nat × Value)} (h : lv = lv') (kk : JJ p l e R s m args below meth c cells slots nL D cl wd A Q pc lv' u st) : JJ p l e R s m args below meth c cells slots nL D cl wd A Q pc lv u st := h ▸ kk
theorem j_lv {lv' : List (Nat × Value)} (ks : List Nat) (h : lv_pick lv ks = lv') (kk : JJ p l e R s m args below meth c cells slots nL D cl wd A Q pc lv' u st) : JJ p l e R s m args below meth c cells slots nL D cl wd A Q pc lv u st :=
  fun H locs ls X hl => kk H locs ls X (lv_sub hl ks h)
theorem j_tableOut (C : jk_C p R s m args c cells slots cc nL own Ts D cl tys A) {dflt lo hi : Int} {offs : Array Int} {len : Nat} {x : Int32} (tgt : Nat) (d : decode cc pc = .ok (.tableswitch dflt lo hi offs, len)) (h : x.toInt < lo ∨ hi < x.toInt) (ht : (pc : Int) + dflt = (tgt : Int)) (kk : JJ p l e R s m args below meth c cells slots nL D cl wd A Q tgt lv u st) : JJ p l e R s m args below meth c cells slots nL D cl wd A Q pc lv u (.int x :: st) :=
  fun H locs ls X hl => lv_tableOut C.1 C.2.1 d h ht (kk H locs ls X hl)
theorem j_tableIn (C : jk_C p R s m args c cells slots cc nL own Ts D cl tys A) {dflt lo hi : Int} {offs : Array Int} {len : Nat} {x : Int32} {off : Int} (tgt : Nat) (d : decode cc pc = .ok (.tableswitch dflt lo hi offs, len)) (h1 : ¬ x.toInt < lo) (h2 : ¬ hi < x.toInt) (ho : offs[(x.toInt - lo).toNat]? = some off) (ht : (pc : Int) + off = (tgt : Int)) (kk : JJ p l e R s m args below meth c cells slots nL D cl wd A Q tgt lv u st) : JJ p l e R s m args below meth c cells slots nL D cl wd A Q pc lv u (.int x :: st) :=
  fun H locs ls X hl => lv_tableIn C.1 C.2.1 d h1 h2 ho ht (kk H locs ls X hl)
/-- fields -/
theorem j_get (C : jk_C p R s m args c cells slots cc nL own Ts D cl tys A) {ci index N : Nat} {Cn : String} {T : u_T} {ty0 : Nat → FieldType} (F : jk_F cl Ts ci Cn T N ty0) (q0 : Nat) {a : Nat} {fs : List Value} (he : (wd u)[q0]? = some (a, .inr (ci, fs))) (k : Nat) (hk : k < N) (hlink : Cond.fieldLink own index (T k).1 (T k).2.1 (T k).2.2.1 ∈ Ts) {v : Value} (hv : fs[k]? = some v) (d : decode cc pc = .ok (.getfield index, 3)) (kk : JJ p l e R s m args below meth c cells slots nL D cl wd A Q (pc + 3) lv u (v :: st)) : JJ p l e R s m args below meth c cells slots nL D cl wd A Q pc lv u (.ref a :: st) :=
  fun H locs ls X hl => va_get C.1 C.2.1 C.2.2.2.2.1 F.2.2.2 C.2.2.2.1 C.2.2.2.2.2.1 X.1 q0 he F.1 k hk (C.2.2.2.2.1 _ hlink) (fun _ h => h) hv d (kk H locs ls X hl)
theorem j_put (C : jk_C p R s m args c cells slots cc nL own Ts D cl tys A) {ci index N : Nat} {Cn : String} {T : u_T} {ty0 : Nat → FieldType} (F : jk_F cl Ts ci Cn T N ty0) (q0 : Nat) {a : Nat} {fs : List Value} (he : (wd u)[q0]? = some (a, .inr (ci, fs))) (k : Nat) (hk : k < N) (hlink : Cond.fieldLink own index (T k).1 (T k).2.1 (T k).2.2.1 ∈ Ts) (hfin : (T k).2.2.2 = false) {v : Value} (hn : narrow (ty0 k) v = v) (hfit : fits (ty0 k) v = true) (hlen : k < fs.length) {u' : S} (hu : (wd u).set q0 (a, .inr (ci, fs.set k v)) = wd u') (d : decode cc pc = .ok (.putfield index, 3)) (kk : JJ p l e R s m args below meth c cells slots nL D cl wd A Q (pc + 3) lv u' st) : JJ p l e R s m args below meth c cells slots nL D cl wd A Q pc lv u (v :: .ref a :: st) :=
  fun H locs ls X hl => va_put C.1 C.2.1 C.2.2.2.2.1 F.2.2.2 ty0 F.2.1 F.2.2.1 C.2.2.2.1 C.2.2.2.2.2.1 X.1 X.2.1 X.2.2 q0 he F.1 k hk (C.2.2.2.2.1 _ hlink) (fun _ h => h) hfin (F.2.1 k hk) hn hfit hlen d (fun H1 locs1 hP hD hS => kk H1 locs1 ls ⟨hu ▸ hP, hu ▸ hD, hS⟩ hl)
/-- arrays -/
theorem j_iald (C : jk_C p R s m args c cells slots cc nL own Ts D cl tys A) (q0 t0 : Nat) {a : Nat} {cA : ClassId} {n : Nat} {f : Nat → Int32} (ha : (wd u)[q0]? = some (a, .inl (cA, n, .inl f))) (ht : tys[t0]? = some (cA, .int)) {i : Int32} (j : Nat) (hi : i = nI j) (hj : j < n) (hb : n < 2 ^ 31) (d : decode cc pc = .ok (.iaload, 1)) (kk : JJ p l e R s m args below meth c cells slots nL D cl wd A Q (pc + 1) lv u (.int (f j) :: st)) : JJ p l e R s m args below meth c cells slots nL D cl wd A Q pc lv u (.int i :: .ref a :: st) := by
  subst hi
  intro H locs ls X hl
  refine va_iald C.1 C.2.1 C.2.2.2.2.2.1 X.1 q0 t0 ha ht (vp_in_nI hj hb) d ?_
  rw [nI_clamp (Nat.lt_trans hj hb)]
  exact kk H locs ls X hl
theorem j_zald (C : jk_C p R s m args c cells slots cc nL own Ts D cl tys A) (q0 t0 : Nat) {a : Nat} {cA : ClassId} {n : Nat} {f : Nat → Int32} (ha : (wd u)[q0]? = some (a, .inl (cA, n, .inl f))) (ht : tys[t0]? = some (cA, .boolean)) {i : Int32} (j : Nat) (hi : i = nI j) (hj : j < n) (hb : n < 2 ^ 31) (d : decode cc pc = .ok (.baload, 1)) (kk : JJ p l e R s m args below meth c cells slots nL D cl wd A Q (pc + 1) lv u (.int (f j) :: st)) : JJ p l e R s m args below meth c cells slots nL D cl wd A Q pc lv u (.int i :: .ref a :: st) := by
  subst hi
  intro H locs ls X hl
  refine va_zald C.1 C.2.1 C.2.2.2.2.2.1 X.1 q0 t0 ha ht (vp_in_nI hj hb) d ?_
  rw [nI_clamp (Nat.lt_trans hj hb)]
  exact kk H locs ls X hl
theorem j_aald (C : jk_C p R s m args c cells slots cc nL own Ts D cl tys A) (q0 t0 : Nat) {a b : Nat} {cA : ClassId} {Cn : String} {n : Nat} {f : Nat → Option Nat} (ha : (wd u)[q0]? = some (a, .inl (cA, n, .inr (.inr (.inr (.inr f)))))) (ht : tys[t0]? = some (cA, .object Cn)) {i : Int32} (j : Nat) (hi : i = nI j) (hj : j < n) (hb : n < 2 ^ 31) (hf : f j = some b) (d : decode cc pc = .ok (.aaload, 1)) (kk : JJ p l e R s m args below meth c cells slots nL D cl wd A Q (pc + 1) lv u (.ref b :: st)) : JJ p l e R s m args below meth c cells slots nL D cl wd A Q pc lv u (.int i :: .ref a :: st) := by
  subst hi
  intro H locs ls X hl
  refine va_aldq C.1 C.2.1 C.2.2.2.2.2.1 X.1 q0 t0 ha ht (vp_in_nI hj hb) d ?_
  rw [nI_clamp (Nat.lt_trans hj hb), hf]
  exact kk H locs ls X hl
theorem j_iast (C : jk_C p R s m args c cells slots cc nL own Ts D cl tys A) (q0 t0 : Nat) {a : Nat} {cA : ClassId} {n : Nat} {f : Nat → Int32} (ha : (wd u)[q0]? = some (a, .inl (cA, n, .inl f))) (ht : tys[t0]? = some (cA, .int)) {i x : Int32} (j : Nat) (hi : i = nI j) (hj : j < n) (hb : n < 2 ^ 31) {u' : S} (hu : (wd u).set q0 (a, .inl (cA, n, .inl (upd f j x))) = wd u') (d : decode cc pc = .ok (.iastore, 1)) (kk : JJ p l e R s m args below meth c cells slots nL D cl wd A Q (pc + 1) lv u' st) : JJ p l e R s m args below meth c cells slots nL D cl wd A Q pc lv u (.int x :: .int i :: .ref a :: st) := by
  subst hi
  intro H locs ls X hl
  refine va_iast C.1 C.2.1 C.2.2.2.2.2.1 X.1 X.2.1 X.2.2 q0 t0 ha ht (vp_in_nI hj hb) d (fun H1 locs1 hP hD hS => ?_)
  rw [nI_clamp (Nat.lt_trans hj hb), hu] at hP hD
  exact kk H1 locs1 ls ⟨hP, hD, hS⟩ hl
theorem j_zast (C : jk_C p R s m args c cells slots cc nL own Ts D cl tys A) (q0 t0 : Nat) {a : Nat} {cA : ClassId} {n : Nat} {f : Nat → Int32} (ha : (wd u)[q0]? = some (a, .inl (cA, n, .inl f))) (ht : tys[t0]? = some (cA, .boolean)) {i x : Int32} (j : Nat) (hi : i = nI j) (hj : j < n) (hb : n < 2 ^ 31) (hx : vp_nar .boolean x = x) {u' : S} (hu : (wd u).set q0 (a, .inl (cA, n, .inl (upd f j x))) = wd u') (d : decode cc pc = .ok (.bastore, 1)) (kk : JJ p l e R s m args below meth c cells slots nL D cl wd A Q (pc + 1) lv u' st) : JJ p l e R s m args below meth c cells slots nL D cl wd A Q pc lv u (.int x :: .int i :: .ref a :: st) := by
  subst hi
  intro H locs ls X hl
  refine va_zast C.1 C.2.1 C.2.2.2.2.2.1 X.1 X.2.1 X.2.2 q0 t0 ha ht (vp_in_nI hj hb) d (fun H1 locs1 hP hD hS => ?_)
  rw [nI_clamp (Nat.lt_trans hj hb), hx, hu] at hP hD
  exact kk H1 locs1 ls ⟨hP, hD, hS⟩ hl
theorem j_alen (C : jk_C p R s m args c cells slots cc nL own Ts D cl tys A) (q0 t0 : Nat) {a : Nat} {cA : ClassId} {x : vp_A} {ty : FieldType} (ha : (wd u)[q0]? = some (a, .inl (cA, x))) (ht : tys[t0]? = some (cA, ty)) (v : Int32) (hv : Int32.ofNat x.1 = v) (d : decode cc pc = .ok (.arraylength, 1)) (kk : JJ p l e R s m args below meth c cells slots nL D cl wd A Q (pc + 1) lv u (.int v :: st)) : JJ p l e R s m args below meth c cells slots nL D cl wd A Q pc lv u (.ref a :: st) :=
  fun H locs ls X hl => va_alen C.1 C.2.1 C.2.2.2.2.2.1 X.1 q0 t0 ha ht hv d (kk H locs ls X hl)
end JK
-- CONTRACTS over a world that keeps its addresses
def jk_P {S : Type} (D : va_G) (cl : List vw_C) (tys : List (ClassId × FieldType)) (wd : S → va_W) (u : S) (sz : Nat) (U : State) : Prop := U.heap.size = sz ∧ va_P D cl (wd u) U.heap ∧ va_K D cl tys U ∧ va_D (fun _ => True) (wd u) ∧ jk_N (va_A (wd u) sz) U
def jk_E {S : Type} (D : va_G) (cl : List vw_C) (tys : List (ClassId × FieldType)) (wd : S → va_W) (A : Nat → Prop) (u : S) (t : State) : Prop := va_P D cl (wd u) t.heap ∧ va_K D cl tys t ∧ va_D A (wd u)
def CtI {S : Type} (l : Launch) (y : MethodName) (ws : List Cond) (rm : Room) (D : va_G) (cl : List vw_C) (tys : List (ClassId × FieldType)) (wd : S → va_W) (av : List Value) (u : S) (fr : Int32) (fu : S) : Prop :=
  ∀ sz : Nat, Met l y ws rm (va_Pc av (jk_P D cl tys wd u sz)) (va_Qi (fun r u' => r = fr ∧ u' = fu) (jk_E D cl tys wd (va_A (wd u) sz)) (va_A (wd u) sz)) 0 0 (va_A (wd u) sz)
def CtV {S : Type} (l : Launch) (y : MethodName) (ws : List Cond) (rm : Room) (D : va_G) (cl : List vw_C) (tys : List (ClassId × FieldType)) (wd : S → va_W) (av : List Value) (u : S) (fu : S) : Prop :=
  ∀ sz : Nat, Met l y ws rm (va_Pc av (jk_P D cl tys wd u sz)) (va_Qv (fun u' => u' = fu) (jk_E D cl tys wd (va_A (wd u) sz)) (va_A (wd u) sz)) 0 0 (va_A (wd u) sz)
/-- a method's body: its context, its room, and its end -/
def jk_BI {S : Type} (p : Program) (l : Launch) (e : Env) (R : Room) (s : State) (m : MethodId) (args : Array Value) (below : List Frame) (meth : Method) (c : Code) (cc : ByteArray) (nL : Nat) (own : String) (Ts : List Cond) (ty : FieldType) (D : va_G) (cl : List vw_C) (tys : List (ClassId × FieldType)) (wd : S → va_W) (A : Nat → Prop) (Q : State → Prop) (rm : Room) (F : Int32 × S) : Prop :=
  jk_C p R s m args c 0 0 cc nL own Ts D cl tys A ∧ R = rm ∧ ∀ (pc : Nat) (lv : List (Nat × Value)) (v : Int32) (u : S), decode cc pc = .ok (.ireturn, 1) → narrow ty (.int v) = .int v → (v, u) = F → JJ p l e R s m args below meth c 0 0 nL D cl wd A Q pc lv u [.int v]
def jk_BV {S : Type} (p : Program) (l : Launch) (e : Env) (R : Room) (s : State) (m : MethodId) (args : Array Value) (below : List Frame) (meth : Method) (c : Code) (cc : ByteArray) (nL : Nat) (own : String) (Ts : List Cond) (D : va_G) (cl : List vw_C) (tys : List (ClassId × FieldType)) (wd : S → va_W) (A : Nat → Prop) (Q : State → Prop) (rm : Room) (F : S) : Prop :=
  jk_C p R s m args c 0 0 cc nL own Ts D cl tys A ∧ R = rm ∧ ∀ (pc : Nat) (lv : List (Nat × Value)) (u : S), decode cc pc = .ok (.return_, 1) → u = F → JJ p l e R s m args below meth c 0 0 nL D cl wd A Q pc lv u []
set_option maxHeartbeats 1000000 in
theorem jk_metI {S : Type} {l : Launch} {y : MethodName} {cc : ByteArray} {nL : Nat} {own : String} {Ts : List Cond} {ty : FieldType} {rm : Room} {D : va_G} {cl : List vw_C} {tys : List (ClassId × FieldType)} {wd : S → va_W} {av : List Value} {u : S} {fr : Int32} {fu : S}
    (hy : plainName y.cls = true) (hc : y.cls = own) (hav : (lg_sl av).length ≤ nL)
    (body : ∀ (p : Program) (e : Env) (R : Room) (s : State) (m : MethodId) (args : Array Value) (below : List Frame) (meth : Method) (c : Code) (A : Nat → Prop) (Q : State → Prop), jk_BI p l e R s m args below meth c cc nL own Ts ty D cl tys wd A Q rm (fr, fu) → JJ p l e R s m args below meth c 0 0 nL D cl wd A Q 0 (lv_args 0 av) u []) :
    CtI l y (.code y cc nL (some ty) :: Ts) rm D cl tys wd av u fr fu := by
  intro sz
  refine Met.ofW (cc := cc) (maxL := nL) (ret := some ty) hy rfl ?_
  intro p e s m args below meth c s₁ B hml hv
  obtain ⟨rfl, hsz, hP, hK, hD0, hN⟩ := hv
  have hts := atoms_spec (ws := .code y cc nL (some ty) :: Ts) B.pre
  have hown : s.vm.findClass own = some m.cls := by rw [← hc]; exact findClass_of_methodNamed B.named
  have hlocks := B.notSynchronized
  subst hsz
  have hD := hD0.self (sz := s.heap.size)
  generalize hAe : va_A (wd u) s.heap.size = A at hD hN ⊢
  have hA : ∀ q : Nat, s.heap.size ≤ q → A q := fun q h => by rw [← hAe]; exact Or.inr h
  have hC : jk_C p rm s m av.toArray c 0 0 cc nL own Ts D cl tys A := ⟨B.exec, B.bytes, hml, hown, fun w hw => hts w (List.mem_cons_of_mem _ hw), hK, hA, Nat.zero_le _, Nat.zero_le _, hN⟩
  have hl := lv_entry av (n := nL) hav
  rw [lg_entry_eq]
  refine body p e rm s m av.toArray below meth c A _ ⟨hC, rfl, ?_⟩ s.heap [] _ ⟨hP, hD, va_S.rf⟩ hl
  intro pc lv v u' d hn hF H locs ls X hl'
  obtain ⟨rfl, rfl⟩ := Prod.mk.inj hF
  exact W.zret B.exec B.bytes B.returns hn (fun t ht hW => ⟨⟨v, u', rfl, ⟨rfl, rfl⟩, by rw [ht]; exact X.1, va_K.moved hW.alike hK, X.2.1⟩, X.2.2.F ht⟩) X.2.2.2.2 d
set_option maxHeartbeats 1000000 in
theorem jk_metV {S : Type} {l : Launch} {y : MethodName} {cc : ByteArray} {nL : Nat} {own : String} {Ts : List Cond} {rm : Room} {D : va_G} {cl : List vw_C} {tys : List (ClassId × FieldType)} {wd : S → va_W} {av : List Value} {u : S} {fu : S}
    (hy : plainName y.cls = true) (hc : y.cls = own) (hav : (lg_sl av).length ≤ nL)
    (body : ∀ (p : Program) (e : Env) (R : Room) (s : State) (m : MethodId) (args : Array Value) (below : List Frame) (meth : Method) (c : Code) (A : Nat → Prop) (Q : State → Prop), jk_BV p l e R s m args below meth c cc nL own Ts D cl tys wd A Q rm fu → JJ p l e R s m args below meth c 0 0 nL D cl wd A Q 0 (lv_args 0 av) u []) :
    CtV l y (.code y cc nL none :: Ts) rm D cl tys wd av u fu := by
  intro sz
  refine Met.ofW (cc := cc) (maxL := nL) (ret := none) hy rfl ?_
  intro p e s m args below meth c s₁ B hml hv
  obtain ⟨rfl, hsz, hP, hK, hD0, hN⟩ := hv
  have hts := atoms_spec (ws := .code y cc nL none :: Ts) B.pre
  have hown : s.vm.findClass own = some m.cls := by rw [← hc]; exact findClass_of_methodNamed B.named
  have hlocks := B.notSynchronized
  subst hsz
  have hD := hD0.self (sz := s.heap.size)
  generalize hAe : va_A (wd u) s.heap.size = A at hD hN ⊢
  have hA : ∀ q : Nat, s.heap.size ≤ q → A q := fun q h => by rw [← hAe]; exact Or.inr h
  have hC : jk_C p rm s m av.toArray c 0 0 cc nL own Ts D cl tys A := ⟨B.exec, B.bytes, hml, hown, fun w hw => hts w (List.mem_cons_of_mem _ hw), hK, hA, Nat.zero_le _, Nat.zero_le _, hN⟩
  have hl := lv_entry av (n := nL) hav
  rw [lg_entry_eq]
  refine body p e rm s m av.toArray below meth c A _ ⟨hC, rfl, ?_⟩ s.heap [] _ ⟨hP, hD, va_S.rf⟩ hl
  intro pc lv u' d hF H locs ls X hl'
  subst hF
  exact W.vret B.exec B.bytes B.returns (fun t ht hW => ⟨⟨u', rfl, rfl, by rw [ht]; exact X.1, va_K.moved hW.alike hK, X.2.1⟩, X.2.2.F ht⟩) X.2.2.2.2 d

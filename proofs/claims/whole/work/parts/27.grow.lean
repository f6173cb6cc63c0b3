-- GROWTH: rows that make cells (S := va_W, wd := id), and constructors' contracts
-- THE ONE FACT THAT THE STATEMENT DOES NOT GIVE stands in jk_FA: the class of AT_FIRST's cell is the one called "[I"
def jk_first (j : Nat) : Int32 := match j with
  | 0 => 5
  | 1 => 3
  | 2 => 30
  | 3 => 4
  | 4 => 2
  | _ => 0
def jk_FA (t : Nat) (A : Nat → Prop) (U : State) (H : Heap) : Prop := ∃ cell : Cell, H[t]? = some cell ∧ U.isArrayOf cell .int ∧ cell.vm ≠ .unknown ∧ U.vm.findClass "[I" = some cell.cls ∧ cell.slots = (arrV cell.cls 7 (fun j => .int (jk_first j))).slots ∧ ¬ A t
theorem jk_FA.moved {t : Nat} {A : Nat → Prop} {u U : State} {H : Heap} (hvm : u.vm.Alike U.vm) (h : jk_FA t A u H) : jk_FA t A U H := by
  obtain ⟨cell, h1, h2, h3, h4, h5⟩ := h
  exact ⟨cell, h1, State.isArrayOf_alike hvm h2, h3, by rw [hvm.findClass]; exact h4, h5⟩
theorem jk_FA.kept {t : Nat} {A : Nat → Prop} {U : State} {H H1 : Heap} (h : jk_FA t A U H) (hq : ∀ a : Nat, a < H.size → ¬ A a → H1[a]? = H[a]?) : jk_FA t A U H1 := by
  obtain ⟨cell, h1, h2, h3, h4, h5, h6⟩ := h
  exact ⟨cell, by rw [hq t (Array.getElem?_eq_some_iff.mp h1).1 h6]; exact h1, h2, h3, h4, h5, h6⟩
theorem jk_FA.narrow {t : Nat} {A B : Nat → Prop} {U : State} {H : Heap} (h : jk_FA t A U H) (hAB : ∀ q, B q → A q) : jk_FA t B U H := by
  obtain ⟨cell, h1, h2, h3, h4, h5, h6⟩ := h
  exact ⟨cell, h1, h2, h3, h4, h5, fun q => h6 (hAB t q)⟩
def jk_AT (A : Nat → Prop) (U : State) : Prop := va_Nw (.fieldLinkNest RX1 9 RX3 "AT_FIRST" "[I" RX3) U ∧ va_Nw (.castable "[I" "java/lang/Cloneable") U ∧ va_AO RX1 U ∧ va_AO RX2 U ∧ ∃ t : Nat, va_Z RX3 "AT_FIRST" "[I" (.ref t) A U U.heap ∧ jk_FA t A U U.heap
theorem jk_AT.narrow {A B : Nat → Prop} {U : State} (h : jk_AT A U) (hAB : ∀ q, B q → A q) : jk_AT B U := by
  obtain ⟨h1, h2, h3, h4, t, h5, h6⟩ := h
  exact ⟨h1, h2, h3, h4, t, h5.narrow hAB, h6.narrow hAB⟩
theorem jk_AT.at {A : Nat → Prop} {s U : State} {locs : List Loc} (h : jk_AT A s) (hS : va_S A s.heap U.heap locs) (hW : s.WarmedH U.vm) : jk_AT A U := by
  obtain ⟨h1, h2, h3, h4, t, h5, h6⟩ := h
  exact ⟨h1.warmF hW, h2.warmC hW, va_AO.moved hW.alike h3, va_AO.moved hW.alike h4, t, (h5.moved hW.alike).kept hS.2.1, (h6.moved hW.alike).kept hS.2.1⟩
theorem jk_AT.calling {A : Nat → Prop} {U : State} {g : JFrame} {mk : MethodId} {a : Array Value} (h : jk_AT A U) : jk_AT A (U.calling g mk a) := by
  obtain ⟨h1, h2, h3, h4, t, h5, h6⟩ := h
  exact ⟨h1.same rfl rfl, h2.same rfl rfl, va_AO.moved (u := U) (Vm.Alike.refl U.vm) h3, va_AO.moved (u := U) (Vm.Alike.refl U.vm) h4, t, h5.moved (Vm.Alike.refl U.vm), h6.moved (Vm.Alike.refl U.vm)⟩
def jk_PN (D : va_G) (cl : List vw_C) (tys : List (ClassId × FieldType)) (w : va_W) (sz : Nat) (U : State) : Prop := jk_P D cl tys (id : va_W → va_W) w sz U ∧ jk_AT (va_A w sz) U
def CtN (l : Launch) (y : MethodName) (ws : List Cond) (rm : Room) (mc ms : Nat) (D : va_G) (cl : List vw_C) (tys : List (ClassId × FieldType)) (av : List Value) (w : va_W) (post : va_W → Prop) : Prop :=
  ∀ sz : Nat, Met l y ws rm (va_Pc av (jk_PN D cl tys w sz)) (va_Qv post (jk_E D cl tys (id : va_W → va_W) (va_A w sz)) (va_A w sz)) mc ms (va_A w sz)
def jk_BN (p : Program) (l : Launch) (e : Env) (R : Room) (s : State) (m : MethodId) (args : Array Value) (below : List Frame) (meth : Method) (c : Code) (cc : ByteArray) (nL : Nat) (own : String) (Ts : List Cond) (D : va_G) (cl : List vw_C) (tys : List (ClassId × FieldType)) (A : Nat → Prop) (Q : State → Prop) (rm : Room) (mc ms : Nat) (post : va_W → Prop) : Prop :=
  jk_C p R s m args c 0 0 cc nL own Ts D cl tys A ∧ R = rm ∧ jk_AT A s ∧ meth.name = "<init>" ∧ ∀ (pc : Nat) (lv : List (Nat × Value)) (w : va_W) (k n : Nat), decode cc pc = .ok (.return_, 1) → k ≤ mc → n ≤ ms → post w → JJ p l e R s m args below meth c k n nL D cl (id : va_W → va_W) A Q pc lv w []
set_option maxHeartbeats 1000000 in
theorem jk_metN {l : Launch} {y : MethodName} {cc : ByteArray} {nL : Nat} {own : String} {Ts : List Cond} {rm : Room} {mc ms : Nat} {D : va_G} {cl : List vw_C} {tys : List (ClassId × FieldType)} {av : List Value} {w : va_W} {post : va_W → Prop}
    (hy : plainName y.cls = true) (hc : y.cls = own) (hnm : y.name = "<init>") (hav : (lg_sl av).length ≤ nL)
    (body : ∀ (p : Program) (e : Env) (R : Room) (s : State) (m : MethodId) (args : Array Value) (below : List Frame) (meth : Method) (c : Code) (A : Nat → Prop) (Q : State → Prop), jk_BN p l e R s m args below meth c cc nL own Ts D cl tys A Q rm mc ms post → JJ p l e R s m args below meth c 0 0 nL D cl (id : va_W → va_W) A Q 0 (lv_args 0 av) w []) :
    CtN l y (.code y cc nL none :: Ts) rm mc ms D cl tys av w post := by
  intro sz
  refine Met.ofW (cc := cc) (maxL := nL) (ret := none) hy rfl ?_
  intro p e s m args below meth c s₁ B hml hv
  obtain ⟨rfl, ⟨hsz, hP, hK, hD0, hN⟩, hT⟩ := hv
  have hts := atoms_spec (ws := .code y cc nL none :: Ts) B.pre
  have hown : s.vm.findClass own = some m.cls := by rw [← hc]; exact findClass_of_methodNamed B.named
  have hlocks := B.notSynchronized
  have hin : meth.name = "<init>" := (name_of_methodNamed B.named B.method).1.trans hnm
  subst hsz
  have hD := hD0.self (sz := s.heap.size)
  have hN' : jk_N (va_A w s.heap.size) s := hN
  have hP' : va_P D cl w s.heap := hP
  have hD' : va_D (va_A w s.heap.size) w := hD
  generalize hAe : va_A w s.heap.size = A at hD' hN' hT ⊢
  have hA : ∀ q : Nat, s.heap.size ≤ q → A q := fun q h => by rw [← hAe]; exact Or.inr h
  have hC : jk_C p rm s m av.toArray c 0 0 cc nL own Ts D cl tys A := ⟨B.exec, B.bytes, hml, hown, fun w hw => hts w (List.mem_cons_of_mem _ hw), hK, hA, Nat.zero_le _, Nat.zero_le _, hN'⟩
  have hl := lv_entry av (n := nL) hav
  rw [lg_entry_eq]
  refine body p e rm s m av.toArray below meth c A _ ⟨hC, rfl, hT, hin, ?_⟩ s.heap [] _ ⟨hP', hD', va_S.rf⟩ hl
  intro pc lv w' k n d hk hn hpost H locs ls X hl'
  refine W.widen (k := mc) (n := ms) hk hn ?_
  exact W.vret B.exec B.bytes B.returns (fun t ht hW => ⟨⟨w', rfl, hpost, by rw [ht]; exact X.1, va_K.moved hW.alike hK, X.2.1⟩, X.2.2.F ht⟩) X.2.2.2.2 d
/-- behind a call whose world was the second part, or the first: the other part is as it was -/
theorem fr_apart {A0 : Nat → Prop} {D : va_G} {cl : List vw_C} {wr wc : va_W} {H : Heap} (hP : va_P D cl wr H) (hx : ∀ (i j : Nat) (p q : Nat × va_E), wr[i]? = some p → wc[j]? = some q → p.1 ≠ q.1) : ∀ (k : Nat) (q : Nat × va_E), wr[k]? = some q → q.1 < H.size ∧ ¬ va_A wc H.size q.1 := by
  intro k q hq
  have hl := (hP k q hq).lt
  refine ⟨hl, fun h => ?_⟩
  rcases h with ⟨j, e, h⟩ | h
  · exact hx k j q (q.1, e) hq h rfl
  · omega
theorem fr_dis {A0 : Nat → Prop} {w1 w2 : va_W} (hD : va_D A0 (w1 ++ w2)) : ∀ (i j : Nat) (p q : Nat × va_E), w1[i]? = some p → w2[j]? = some q → p.1 ≠ q.1 := by
  intro i j p q h1 h2 e
  have l1 := (List.getElem?_eq_some_iff.mp h1).1
  have := hD.1 i (w1.length + j) p q (by rw [List.getElem?_append_left l1]; exact h1) (by rw [List.getElem?_append_right (by omega), Nat.add_sub_cancel_left]; exact h2) e
  omega
theorem fr_P1 {D : va_G} {cl : List vw_C} {w1 w2 : va_W} {H : Heap} (h : va_P D cl (w1 ++ w2) H) : va_P D cl w1 H := fun k q hk => h k q (by rw [List.getElem?_append_left (List.getElem?_eq_some_iff.mp hk).1]; exact hk)
theorem fr_P2 {D : va_G} {cl : List vw_C} {w1 w2 : va_W} {H : Heap} (h : va_P D cl (w1 ++ w2) H) : va_P D cl w2 H := fun k q hk => h (w1.length + k) q (by rw [List.getElem?_append_right (by omega), Nat.add_sub_cancel_left]; exact hk)
theorem fr_D1 {A : Nat → Prop} {w1 w2 : va_W} (h : va_D A (w1 ++ w2)) : va_D A w1 := by
  have key : ∀ (k : Nat) (q : Nat × va_E), w1[k]? = some q → (w1 ++ w2)[k]? = some q := fun k q hk => by rw [List.getElem?_append_left (List.getElem?_eq_some_iff.mp hk).1]; exact hk
  exact ⟨fun i j p q hi hj e => h.1 i j p q (key i p hi) (key j q hj) e, fun k q hk => h.2 k q (key k q hk)⟩
theorem fr_D2 {A : Nat → Prop} {w1 w2 : va_W} (h : va_D A (w1 ++ w2)) : va_D A w2 := by
  have key : ∀ (k : Nat) (q : Nat × va_E), w2[k]? = some q → (w1 ++ w2)[w1.length + k]? = some q := fun k q hk => by rw [List.getElem?_append_right (by omega), Nat.add_sub_cancel_left]; exact hk
  refine ⟨fun i j p q hi hj e => ?_, fun k q hk => h.2 _ q (key k q hk)⟩
  have := h.1 _ _ p q (key i p hi) (key j q hj) e
  omega
theorem fr_R {A0 : Nat → Prop} {D : va_G} {cl : List vw_C} {w1 w2 w2' : va_W} {H H1 : Heap} (hP : va_P D cl (w1 ++ w2) H) (hD : va_D A0 (w1 ++ w2)) (hF : ∀ q, va_A w2 H.size q → A0 q)
    (hk : ∀ q : Nat, q < H.size → ¬ va_A w2 H.size q → H1[q]? = H[q]?) (hP1 : va_P D cl w2' H1) (hD1 : va_D (va_A w2 H.size) w2') : va_P D cl (w1 ++ w2') H1 ∧ va_D A0 (w1 ++ w2') := by
  have ap := fr_apart (A0 := A0) (wc := w2) (fr_P1 hP) (fr_dis hD)
  refine ⟨va_P.app (fun k q hq => ((fr_P1 hP) k q hq).kept (hk q.1 (ap k q hq).1 (ap k q hq).2)) hP1, va_D.app (fr_D1 hD) (hD1.weaken (fun k q _ h => hF q.1 h)) (fun i j x y hx hy hxy => ?_)⟩
  exact (ap i x hx).2 (by rw [hxy]; exact hD1.2 j y hy)
theorem fr_L {A0 : Nat → Prop} {D : va_G} {cl : List vw_C} {w1 w1' w2 : va_W} {H H1 : Heap} (hP : va_P D cl (w1 ++ w2) H) (hD : va_D A0 (w1 ++ w2)) (hF : ∀ q, va_A w1 H.size q → A0 q)
    (hk : ∀ q : Nat, q < H.size → ¬ va_A w1 H.size q → H1[q]? = H[q]?) (hP1 : va_P D cl w1' H1) (hD1 : va_D (va_A w1 H.size) w1') : va_P D cl (w1' ++ w2) H1 ∧ va_D A0 (w1' ++ w2) := by
  have ap := fr_apart (A0 := A0) (wr := w2) (wc := w1) (fr_P2 hP) (fun i j p q h1 h2 => fun e => fr_dis hD j i q p h2 h1 e.symm)
  refine ⟨va_P.app hP1 (fun k q hq => ((fr_P2 hP) k q hq).kept (hk q.1 (ap k q hq).1 (ap k q hq).2)), va_D.app (hD1.weaken (fun k q _ h => hF q.1 h)) (fr_D2 hD) (fun i j x y hx hy hxy => ?_)⟩
  exact (ap j y hy).2 (by rw [← hxy]; exact hD1.2 i x hx)
theorem jk_up {p : Program} {R : Room} {s : State} {m : MethodId} {args : Array Value} {c : Code} {cells slots : Nat} {cc : ByteArray} {nL : Nat} {own : String} {Ts : List Cond} {D : va_G} {cl : List vw_C} {tys : List (ClassId × FieldType)} {A : Nat → Prop} (C : jk_C p R s m args c cells slots cc nL own Ts D cl tys A) {k n : Nat} (h1 : k ≤ R.cells) (h2 : n ≤ R.slots) : jk_C p R s m args c k n cc nL own Ts D cl tys A :=
  ⟨C.1, C.2.1, C.2.2.1, C.2.2.2.1, C.2.2.2.2.1, C.2.2.2.2.2.1, C.2.2.2.2.2.2.1, h1, h2, C.2.2.2.2.2.2.2.2.2⟩

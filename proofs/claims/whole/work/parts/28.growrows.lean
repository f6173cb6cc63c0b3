section JKG
variable {p : Program} {l : Launch} {e : Env} {R : Room} {s : State} {m : MethodId} {args : Array Value} {below : List Frame} {meth : Method} {c : Code} {cells slots : Nat} {cc : ByteArray} {nL : Nat} {own : String} {Ts : List Cond} {D : va_G} {cl : List vw_C} {tys : List (ClassId × FieldType)} {A : Nat → Prop} {Q : State → Prop} {pc : Nat} {lv : List (Nat × Value)} {u : va_W} {st : List Value}
theorem j_new (C : jk_C p R s m args c cells slots cc nL own Ts D cl tys A) {ci index N : Nat} {Cn : String} {T : u_T} {ty0 : Nat → FieldType} (F : jk_F cl Ts ci Cn T N ty0) (fs : List Value) (hfs : ∀ j, j < N → defaultValue (ty0 j) = vp_V fs j) (h : ∀ w ∈ ([.classLink own index Cn, .instantiable Cn N, .initialized Cn] : List Cond), w ∈ Ts) (hc : cells + 1 ≤ R.cells) (hs : slots + N ≤ R.slots) (d : decode cc pc = .ok (.new index, 3))
    (kk : ∀ q : Nat, JJ p l e R s m args below meth c (cells + 1) (slots + N) nL D cl (id : va_W → va_W) A Q (pc + 3) lv (u ++ [(q, .inr (ci, fs))]) (.ref q :: st)) : JJ p l e R s m args below meth c cells slots nL D cl (id : va_W → va_W) A Q pc lv u st :=
  fun H locs ls X hl => va_new C.1 C.2.1 C.2.2.2.2.1 F.2.2.2 ty0 F.2.1 C.2.2.2.1 (C.2.2.2.2.1 _ (h _ (by simp))) (C.2.2.2.2.1 _ (h _ (by simp))) (C.2.2.2.2.1 _ (h _ (by simp))) C.2.2.2.2.2.1 X.1 X.2.1 X.2.2 C.2.2.2.2.2.2.1 F.1 hfs hc hs d (fun q H1 hP hD hS => kk q H1 locs ls ⟨hP, hD, hS⟩ hl)
theorem j_newi (C : jk_C p R s m args c cells slots cc nL own Ts D cl tys A) (t0 : Nat) {zc : ClassId} (ht : tys[t0]? = some (zc, .int)) {n : Int32} (N : Nat) (hn : ¬ n < 0) (hN : n.toNatClampNeg = N) (hb : N * 4 ≤ 536870912) (hw : Cond.arrayClass .int ∈ Ts) (hc : cells + 1 ≤ R.cells) (hs : slots + N ≤ R.slots) (d : decode cc pc = .ok (.newarray .int, 2))
    (kk : ∀ q : Nat, JJ p l e R s m args below meth c (cells + 1) (slots + N) nL D cl (id : va_W → va_W) A Q (pc + 2) lv (u ++ [(q, .inl (zc, N, .inl (fun _ => 0)))]) (.ref q :: st)) : JJ p l e R s m args below meth c cells slots nL D cl (id : va_W → va_W) A Q pc lv u (.int n :: st) := by
  intro H locs ls X hl
  refine va_newa C.1 C.2.1 (atype := .int) (a0 := (N, .inl (fun _ => 0))) (ty := .int) (C.2.2.2.2.1 _ hw) rfl C.2.2.2.2.2.1 X.1 X.2.1 X.2.2 C.2.2.2.2.2.2.1 (fun _ => rfl) hn hN hb hc hs d (fun q cA H1 hK hP hD hS => ?_)
  have h1 := va_nm_int (hK.2 tys.length (cA, .int) (by rw [List.getElem?_append_right (Nat.le_refl _), Nat.sub_self]; rfl)).2
  have h2 := va_nm_int (C.2.2.2.2.2.1.2 t0 _ ht).2
  cases h1.symm.trans h2
  exact kk q H1 locs ls ⟨hP, hD, hS⟩ hl
theorem j_newz (C : jk_C p R s m args c cells slots cc nL own Ts D cl tys A) (t0 : Nat) {zc : ClassId} (ht : tys[t0]? = some (zc, .boolean)) {n : Int32} (N : Nat) (hn : ¬ n < 0) (hN : n.toNatClampNeg = N) (hb : N * 1 ≤ 536870912) (hw : Cond.arrayClass .boolean ∈ Ts) (hc : cells + 1 ≤ R.cells) (hs : slots + N ≤ R.slots) (d : decode cc pc = .ok (.newarray .boolean, 2))
    (kk : ∀ q : Nat, JJ p l e R s m args below meth c (cells + 1) (slots + N) nL D cl (id : va_W → va_W) A Q (pc + 2) lv (u ++ [(q, .inl (zc, N, .inl (fun _ => 0)))]) (.ref q :: st)) : JJ p l e R s m args below meth c cells slots nL D cl (id : va_W → va_W) A Q pc lv u (.int n :: st) := by
  intro H locs ls X hl
  refine va_newa C.1 C.2.1 (atype := .boolean) (a0 := (N, .inl (fun _ => 0))) (ty := .boolean) (C.2.2.2.2.1 _ hw) rfl C.2.2.2.2.2.1 X.1 X.2.1 X.2.2 C.2.2.2.2.2.2.1 (fun _ => rfl) hn hN hb hc hs d (fun q cA H1 hK hP hD hS => ?_)
  have h1 := va_nm_boolean (hK.2 tys.length (cA, .boolean) (by rw [List.getElem?_append_right (Nat.le_refl _), Nat.sub_self]; rfl)).2
  have h2 := va_nm_boolean (C.2.2.2.2.2.1.2 t0 _ ht).2
  cases h1.symm.trans h2
  exact kk q H1 locs ls ⟨hP, hD, hS⟩ hl
theorem jk_RAq {U : State} {a b : ClassId} {Cn : String} (h1 : va_RA U a (.object Cn)) (h2 : va_RA U b (.object Cn)) : a = b := by
  obtain ⟨_, _, _, _, _, e1⟩ := h1
  obtain ⟨_, _, _, _, _, e2⟩ := h2
  exact Option.some.inj (e1.symm.trans e2)
theorem j_newq (C : jk_C p R s m args c cells slots cc nL own Ts D cl tys A) {Cn : String} {index : Nat} (hO : va_AO Cn s) (t0 : Nat) {zc : ClassId} (ht : tys[t0]? = some (zc, .object Cn)) {n : Int32} (N : Nat) (hn : ¬ n < 0) (hN : n.toNatClampNeg = N) (hb : N * 4 ≤ 536870912) (hw : Cond.classLink own index Cn ∈ Ts) (hc : cells + 1 ≤ R.cells) (hs : slots + N ≤ R.slots) (d : decode cc pc = .ok (.anewarray index, 3))
    (kk : ∀ q : Nat, JJ p l e R s m args below meth c (cells + 1) (slots + N) nL D cl (id : va_W → va_W) A Q (pc + 3) lv (u ++ [(q, .inl (zc, N, .inr (.inr (.inr (.inr (fun _ => none))))))]) (.ref q :: st)) : JJ p l e R s m args below meth c cells slots nL D cl (id : va_W → va_W) A Q pc lv u (.int n :: st) := by
  intro H locs ls X hl
  refine va_newq C.1 C.2.1 C.2.2.2.1 (C.2.2.2.2.1 _ hw) hO C.2.2.2.2.2.1 X.1 X.2.1 X.2.2 C.2.2.2.2.2.2.1 hn hN hb hc hs d (fun q cA H1 hK hP hD hS => ?_)
  have h1 := (hK.2 tys.length (cA, .object Cn) (by rw [List.getElem?_append_right (Nat.le_refl _), Nat.sub_self]; rfl)).2
  have h2 := (C.2.2.2.2.2.1.2 t0 _ ht).2
  cases jk_RAq h1 h2
  exact kk q H1 locs ls ⟨hP, hD, hS⟩ hl
theorem j_putF (C : jk_C p R s m args c cells slots cc nL own Ts D cl tys A) (hin : meth.name = "<init>") {ci index N : Nat} {Cn : String} {T : u_T} {ty0 : Nat → FieldType} (F : jk_F cl Ts ci Cn T N ty0) (q0 : Nat) {a : Nat} {fs : List Value} (he : u[q0]? = some (a, .inr (ci, fs))) (k : Nat) (hk : k < N) (hlink : Cond.fieldLink own index (T k).1 (T k).2.1 (T k).2.2.1 ∈ Ts) (hfin : (T k).2.2.2 = true) (hdecl : (T k).1 = own) {v : Value} (hn : narrow (ty0 k) v = v) (hfit : fits (ty0 k) v = true) (hlen : k < fs.length) {u' : va_W} (hu : u.set q0 (a, .inr (ci, fs.set k v)) = u') (d : decode cc pc = .ok (.putfield index, 3))
    (kk : JJ p l e R s m args below meth c cells slots nL D cl (id : va_W → va_W) A Q (pc + 3) lv u' st) : JJ p l e R s m args below meth c cells slots nL D cl (id : va_W → va_W) A Q pc lv u (v :: .ref a :: st) :=
  fun H locs ls X hl => va_putF C.1 C.2.1 C.2.2.2.2.1 F.2.2.2 ty0 F.2.1 F.2.2.1 C.2.2.2.1 C.2.2.2.2.2.1 X.1 X.2.1 X.2.2 q0 he F.1 k hk (C.2.2.2.2.1 _ hlink) (fun _ h => h) hfin hin hdecl (F.2.1 k hk) hn hfit hlen d (fun H1 locs1 hP hD hS => kk H1 locs1 ls ⟨hu ▸ hP, hu ▸ hD, hS⟩ hl)
theorem j_astq (C : jk_C p R s m args c cells slots cc nL own Ts D cl tys A) (q0 t0 qk ci : Nat) {a v : Nat} {zc : ClassId} {r : vw_C} {n : Nat} {vs : List Value} {f : Nat → Option Nat} (ha : u[q0]? = some (a, .inl (zc, n, .inr (.inr (.inr (.inr f)))))) (ht : tys[t0]? = some (zc, .object r.1)) (hv : u[qk]? = some (v, .inr (ci, vs))) (hcl : cl[ci]? = some r) {i : Int32} (j : Nat) (hi : i = nI j) (hj : j < n) (hb : n < 2 ^ 31) {u' : va_W} (hu : u.set q0 (a, .inl (zc, n, .inr (.inr (.inr (.inr (va_up f j (some v))))))) = u') (d : decode cc pc = .ok (.aastore, 1))
    (kk : JJ p l e R s m args below meth c cells slots nL D cl (id : va_W → va_W) A Q (pc + 1) lv u' st) : JJ p l e R s m args below meth c cells slots nL D cl (id : va_W → va_W) A Q pc lv u (.ref v :: .int i :: .ref a :: st) := by
  subst hi
  intro H locs ls X hl
  refine va_astq C.1 C.2.1 C.2.2.2.2.2.1 X.1 X.2.1 X.2.2 q0 t0 qk ci ha ht hv hcl (vp_in_nI hj hb) d (fun H1 locs1 hP hD hS => ?_)
  rw [nI_clamp (Nat.lt_trans hj hb)] at hP hD
  exact kk H1 locs1 ls ⟨hu ▸ hP, hu ▸ hD, hS⟩ hl
theorem j_oi (C : jk_C p R s m args c cells slots cc nL own Ts D cl tys A) {rm : Room} (hR0 : R = rm) {index a : Nat} (h : ∀ w ∈ ([.methodLink own index Lib.objectInit, .instanceMethod Lib.objectInit, .code Lib.objectInit ⟨#[0xb1]⟩ 1 none] : List Cond), w ∈ Ts) (hf : 1 ≤ rm.frames) (hL : (st.map fun v => v.category).sum + 12 ≤ rm.locals) (d : decode cc pc = .ok (.invokespecial index, 3))
    (kk : JJ p l e R s m args below meth c cells slots nL D cl (id : va_W → va_W) A Q (pc + 3) lv u st) : JJ p l e R s m args below meth c cells slots nL D cl (id : va_W → va_W) A Q pc lv u (.ref a :: st) := by
  subst hR0
  intro H locs ls X hl
  refine W.objInit C.1 C.2.1 C.2.2.2.1 (C.2.2.2.2.1 _ (h _ (by simp))) (C.2.2.2.2.1 _ (h _ (by simp))) (C.2.2.2.2.1 _ (h _ (by simp))) (g := F0 m pc ls (.ref a :: st)) rfl (by rw [C.2.2.1]; exact hl.1) rfl d hf (by show 2 * 0 + _ + 12 ≤ _; omega) ?_
  exact kk H locs ls X hl
theorem jk_blindN {av : List Value} {sz : Nat} {w : va_W} : FrameBlind (va_Pc av (jk_PN D cl tys w sz)) := fun a U g mk q => by
  obtain ⟨q0, q1, q2⟩ := q
  exact ⟨q0, (jk_blind (av := av) a U g mk ⟨q0, q1⟩).2, q2.calling⟩
theorem jk_sub2 {w1 w2 : va_W} {sz : Nat} : ∀ q, va_A w2 sz q → va_A (w1 ++ w2) sz q := by
  intro q h
  rcases h with ⟨k, e, h⟩ | h
  · exact Or.inl ⟨w1.length + k, e, by rw [List.getElem?_append_right (by omega), Nat.add_sub_cancel_left]; exact h⟩
  · exact Or.inr h
theorem jk_sub1 {w1 w2 : va_W} {sz : Nat} : ∀ q, va_A w1 sz q → va_A (w1 ++ w2) sz q := by
  intro q h
  rcases h with ⟨k, e, h⟩ | h
  · exact Or.inl ⟨k, e, by rw [List.getElem?_append_left (List.getElem?_eq_some_iff.mp h).1]; exact h⟩
  · exact Or.inr h
theorem j_init (C : jk_C p R s m args c cells slots cc nL own Ts D cl tys A) (HT : jk_AT A s) {y : MethodName} {bytes : ByteArray} {maxL index n mc ms : Nat} {rm rm' : Room} {b ci : Nat} {fs As rest : List Value} {post : va_W → Prop} {w : va_W}
    (hR0 : R = rm) (hM : CtN l y (.code y bytes maxL none :: Ts) rm' mc ms D cl tys (.ref b :: As) [(b, .inr (ci, fs))] post) (hG : GoodIn Ts (Cond.code y bytes maxL none :: Ts)) (h : ∀ w ∈ ([.initialized y.cls, .methodLink own index y, .instanceMethod y] : List Cond), w ∈ Ts) (hy1 : y.name = "<init>")
    (hd : y.cls ≠ "java/lang/invoke/MethodHandle" ∧ y.cls ≠ "java/lang/invoke/VarHandle" ∧ (parseMethodDescriptor y.desc).map (fun d => d.parameters.length) = some n) (hR : (rm'.cells = mc ∧ rm'.slots = ms) ∧ rm'.frames + 1 ≤ rm.frames ∧ 8 + (maxL + 11) + rm'.locals ≤ rm.locals) (hcs : cells + mc ≤ rm.cells ∧ slots + ms ≤ rm.slots)
    (hn : As.length = n) (hst : st = As.reverse ++ .ref b :: rest) (hu : u = w ++ [(b, .inr (ci, fs))]) (hw : (rest.map fun v => v.category).sum ≤ 8) (d : decode cc pc = .ok (.invokespecial index, 3))
    (kk : ∀ w1 : va_W, post w1 → JJ p l e R s m args below meth c (cells + mc) (slots + ms) nL D cl (id : va_W → va_W) A Q (pc + 3) lv (w ++ w1) rest) : JJ p l e R s m args below meth c cells slots nL D cl (id : va_W → va_W) A Q pc lv u st := by
  subst hR0
  subst hu
  intro H locs ls X hl
  have hF := jk_in C X
  have hF2 : ∀ q, va_A [(b, .inr (ci, fs))] H.size q → A q := fun q h => hF q (jk_sub2 q h)
  have XP : va_P D cl (w ++ [(b, .inr (ci, fs))]) H := X.1
  have XD : va_D A (w ++ [(b, .inr (ci, fs))]) := X.2.1
  refine va_callv (va_runI (cc := cc) (nL := nL) (g := F0 m pc ls st) (As := As) (rest := rest) ⟨C.1, C.2.1, C.2.2.1, C.2.2.2.1, C.2.2.2.2.1⟩ (hM H.size) (cwI n C.2.2.2.2.1 hG rfl hR.1.1 hR.1.2 (C.2.2.2.2.1 _ (h _ (by simp))) (C.2.2.2.2.1 _ (h _ (by simp))) (C.2.2.2.2.1 _ (h _ (by simp))) hy1 hd hR.2) ⟨jk_blindN, fun U hU hW => ?_⟩ rfl hn hl.1 hst (lv_room hw) d hcs) X.2.2 (fun q _ h => hF2 q h) hF2 (fun w1 t H1 locs1 ht hvm hpost hB hz1 hk1 hS => ?_)
  · have hS' : va_S A s.heap U.heap locs := by rw [hU]; exact X.2.2
    exact ⟨rfl, ⟨by rw [hU], by rw [hU]; exact fr_P2 XP, va_K.moved hW.alike C.2.2.2.2.2.1, (fr_D2 XD).weaken (fun _ _ _ _ => trivial), (C.2.2.2.2.2.2.2.2.2.at hS' hW).narrow hF2⟩, (HT.at hS' hW).narrow hF2⟩
  · obtain ⟨hP1, hK1, hD1⟩ := hB
    rw [ht] at hP1
    obtain ⟨g1, g2⟩ := fr_R XP XD hF2 hk1 hP1 hD1
    exact kk w1 hpost H1 locs1 ls ⟨g1, g2, hS⟩ hl
/-- the clone of AT_FIRST, and its cast -/
theorem j_first (C : jk_C p R s m args c cells slots cc nL RX1 Ts D cl tys A) (HT : jk_AT A s) (t0 : Nat) {zc : ClassId} (ht : tys[t0]? = some (zc, .int)) {rm : Room} (hR0 : R = rm)
    (h : ∀ w ∈ ([.methodLink RX1 13 ⟨"[I", "clone", "()Ljava/lang/Object;"⟩, .sameMethod "[I" "java/lang/Object" "clone" "()Ljava/lang/Object;", .native ⟨"java/lang/Object", "clone", "()Ljava/lang/Object;"⟩, .instanceMethod ⟨"java/lang/Object", "clone", "()Ljava/lang/Object;"⟩, .selects "[I" ⟨"[I", "clone", "()Ljava/lang/Object;"⟩ ⟨"java/lang/Object", "clone", "()Ljava/lang/Object;"⟩] : List Cond), w ∈ Ts)
    (hf : 1 ≤ rm.frames) (hL : (st.map fun v => v.category).sum + 14 ≤ rm.locals) (hc : cells + 1 ≤ rm.cells) (hs : slots + 7 ≤ rm.slots) (d : decode cc pc = .ok (.getstatic 9, 3)) (d2 : decode cc (pc + 3) = .ok (.invokevirtual 13, 3))
    (kk : ∀ q : Nat, JJ p l e R s m args below meth c (cells + 1) (slots + 7) nL D cl (id : va_W → va_W) A Q (pc + 6) lv (u ++ [(q, .inl (zc, 7, .inl jk_first))]) (.ref q :: st)) : JJ p l e R s m args below meth c cells slots nL D cl (id : va_W → va_W) A Q pc lv u st := by
  subst hR0
  intro H locs ls X hl
  obtain ⟨n1, n2, -, -, t, hZ, cell, e1, e2, e3, e4, e5, e6⟩ := HT
  have hK := C.2.2.2.2.2.1
  have XP : va_P D cl u H := X.1
  have XD : va_D A u := X.2.1
  refine va_getsN C.1 C.2.1 hZ X.2.2 C.2.2.2.1 (va_Nw.use rfl n1) (fun _ h => h) d ?_
  have hzc : cell.cls = zc := Option.some.inj (e4.symm.trans (va_nm_int (hK.2 t0 _ ht).2))
  obtain ⟨c0, t0', f1, f2, f3⟩ := Cond.castable_spec (va_Nw.use (A := args) rfl n2)
  cases e4.symm.trans f1
  have hsz : cell.slots.size = 7 := by rw [e5]; exact arrV_size _ _ _
  have hcellE : ({ cls := cell.cls, slots := cell.slots } : Cell) = vp_cell zc (7, .inl jk_first) := by
    rw [e5, hzc]; rfl
  intro T hT X0
  have hcellT : T.heap[t]? = some cell := by rw [hT, X.2.2.2.1 t (Array.getElem?_eq_some_iff.mp e1).1 e6]; exact e1
  obtain ⟨-, kA, hkA, comp, hkind⟩ := State.isArrayOf_alike X0.warmed.alike e2
  obtain ⟨hns, kS, hkS, compS, hkindS⟩ := e2
  obtain ⟨vm', X', stp⟩ := X0.cloneArray C.1 (own := RX1) (ad := "[I") (index := 13) C.2.2.2.1 (C.2.2.2.2.1 _ (h _ (by simp))) (C.2.2.2.2.1 _ (h _ (by simp))) (C.2.2.2.2.1 _ (h _ (by simp))) (C.2.2.2.2.1 _ (h _ (by simp))) (C.2.2.2.2.1 _ (h _ (by simp))) (a := t) (cell := cell) hcellT hns e3 e4 f2 f3
    (fun i v hv => by
      have hk' : T.vm.classes[cell.cls]? = some kA := hkA
      have hv' : fits .int v = true := by
        rw [e5] at hv
        have hlt : i < 7 := by
          have := (Array.getElem?_eq_some_iff.mp hv).1
          rw [arrV_size] at this
          exact this
        rw [arrV_read _ _ hlt] at hv
        cases hv
        rfl
      simpa [State.fitsSlot, State.slotType?, hk', hkind] using hv')
    (g := F0 m (pc + 3) ls (.ref t :: st)) rfl (by rw [C.2.2.1]; exact hl.1) rfl (by rw [C.2.1]; exact d2) hf (by show 2 * 0 + _ + 14 ≤ _; omega) hc (by rw [hsz]; exact hs) (hloader := Vm.clonesLoader_of_array hkS hkindS)
  rw [hcellE, hsz] at X'
  generalize hH1 : H.push (vp_cell zc (7, .inl jk_first)) = H1
  have z1 : H1.size = H.size + 1 := by rw [← hH1, Array.size_push]
  have b1 : H1[H.size]? = some (vp_cell zc (7, .inl jk_first)) := by rw [← hH1, Array.getElem?_push_size]
  have o1 : ∀ q : Nat, q < H.size → H1[q]? = H[q]? := fun q hq => by rw [← hH1, Array.getElem?_push, if_neg (Nat.ne_of_lt hq)]
  have hk : ∀ (k : Nat) (y : Nat × va_E), u[k]? = some y → H1[y.1]? = H[y.1]? := fun k y hy => o1 y.1 ((XP k y hy).lt)
  obtain ⟨t2, a2, b2⟩ := kk H.size H1 locs ls ⟨(XP.kept hk).app (fun k y hy => by
      have hz : k < 1 := (List.getElem?_eq_some_iff.mp hy).1
      rw [show k = 0 by omega] at hy
      cases hy
      exact b1), XD.push XP rfl (C.2.2.2.2.2.2.1 _ X.2.2.1), Nat.le_trans X.2.2.1 (by omega), fun y h1 h2 => (o1 y (Nat.lt_of_lt_of_le h1 X.2.2.1)).trans (X.2.2.2.1 y h1 h2), X.2.2.2.2⟩ hl
    ((T.setVm vm').pushCell (vp_cell zc (7, .inl jk_first))) (by rw [← hH1, ← hT]; rfl) X'
  refine ⟨t2, stp t2 ?_, b2⟩
  rw [hcellE, hT]
  exact a2
theorem j_castA (C : jk_C p R s m args c cells slots cc nL own Ts D cl tys A) (q0 t0 : Nat) {zc : ClassId} (ht : tys[t0]? = some (zc, .int)) {a index : Nat} {x : vp_A} (ha : u[q0]? = some (a, .inl (zc, x))) (hw : Cond.classLink own index "[I" ∈ Ts) (d : decode cc pc = .ok (.checkcast index, 3))
    (kk : JJ p l e R s m args below meth c cells slots nL D cl (id : va_W → va_W) A Q (pc + 3) lv u (.ref a :: st)) : JJ p l e R s m args below meth c cells slots nL D cl (id : va_W → va_W) A Q pc lv u (.ref a :: st) :=
  fun H locs ls X hl => va_castA C.1 C.2.1 C.2.2.2.1 (C.2.2.2.2.1 _ hw) X.1 q0 ha (va_nm_int (C.2.2.2.2.2.1.2 t0 _ ht).2) d (kk H locs ls X hl)
end JKG

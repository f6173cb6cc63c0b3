section JKC
variable {S : Type} {p : Program} {l : Launch} {e : Env} {R : Room} {s : State} {m : MethodId} {args : Array Value} {below : List Frame} {meth : Method} {c : Code} {cells slots : Nat} {cc : ByteArray} {nL : Nat} {own : String} {Ts : List Cond} {D : va_G} {cl : List vw_C} {tys : List (ClassId × FieldType)} {wd : S → va_W} {A : Nat → Prop} {Q : State → Prop} {pc : Nat} {lv : List (Nat × Value)} {u : S} {st : List Value}
theorem jk_in (C : jk_C p R s m args c cells slots cc nL own Ts D cl tys A) {H : Heap} {locs : List Loc} (X : jk_X D cl wd A s.heap u H locs) : ∀ q, va_A (wd u) H.size q → A q := by
  intro q h
  rcases h with ⟨k, e, h⟩ | h
  · exact X.2.1.2 k (q, e) h
  · exact C.2.2.2.2.2.2.1 q (Nat.le_trans X.2.2.1 h)
theorem jk_blind {av : List Value} {sz : Nat} : FrameBlind (va_Pc av (jk_P D cl tys wd u sz)) := fun a U g mk q => by
  obtain ⟨q0, q1, qP, qK, qD, qN⟩ := q
  exact ⟨q0, q1, qP, va_K.moved (u := U) (U := U.calling g mk a) (Vm.Alike.refl U.vm) qK, qD, qN.calling⟩
theorem jk_pre (C : jk_C p R s m args c cells slots cc nL own Ts D cl tys A) {H : Heap} {locs : List Loc} (X : jk_X D cl wd A s.heap u H locs) {av : List Value} : ∀ U : State, U.heap = H → s.WarmedH U.vm → va_Pc av (jk_P D cl tys wd u H.size) av.toArray U :=
  fun U hU hW => ⟨rfl, by rw [hU], by rw [hU]; exact X.1, va_K.moved hW.alike C.2.2.2.2.2.1, X.2.1.weaken (fun _ _ _ _ => trivial), (C.2.2.2.2.2.2.2.2.2.at (by rw [hU]; exact X.2.2) hW).narrow (jk_in C X)⟩
theorem j_runI (C : jk_C p R s m args c cells slots cc nL own Ts D cl tys A) {fr : Int32} {fu : S} {rest : List Value} {a : Array Value}
    (hr : ∀ (H : Heap) (locs : List Loc) (ls : Array Slot), jk_X D cl wd A s.heap u H locs → lv_has ls nL lv → va_Run p l e R s m args below meth c H locs cells slots 0 0 (F0 m pc ls st) rest (va_Qi (fun r u' => r = fr ∧ u' = fu) (jk_E D cl tys wd (va_A (wd u) H.size)) (va_A (wd u) H.size) a) (va_A (wd u) H.size))
    (kk : JJ p l e R s m args below meth c cells slots nL D cl wd A Q (pc + 3) lv fu (.int fr :: rest)) : JJ p l e R s m args below meth c cells slots nL D cl wd A Q pc lv u st := by
  intro H locs ls X hl
  have hF := jk_in C X
  refine va_calli (hr H locs ls X hl) X.2.2 (fun q _ h => hF q h) hF (fun r u' t H1 locs1 ht hvm hw hB hz1 hk1 hS => ?_)
  obtain ⟨rfl, rfl⟩ := hw
  obtain ⟨hP1, hK1, hD1⟩ := hB
  rw [ht] at hP1
  exact kk H1 locs1 ls ⟨hP1, hD1.weaken (fun _ q _ h => hF q.1 h), hS⟩ hl
theorem j_runV (C : jk_C p R s m args c cells slots cc nL own Ts D cl tys A) {fu : S} {rest : List Value} {a : Array Value}
    (hr : ∀ (H : Heap) (locs : List Loc) (ls : Array Slot), jk_X D cl wd A s.heap u H locs → lv_has ls nL lv → va_Run p l e R s m args below meth c H locs cells slots 0 0 (F0 m pc ls st) rest (va_Qv (fun u' => u' = fu) (jk_E D cl tys wd (va_A (wd u) H.size)) (va_A (wd u) H.size) a) (va_A (wd u) H.size))
    (kk : JJ p l e R s m args below meth c cells slots nL D cl wd A Q (pc + 3) lv fu rest) : JJ p l e R s m args below meth c cells slots nL D cl wd A Q pc lv u st := by
  intro H locs ls X hl
  have hF := jk_in C X
  refine va_callv (hr H locs ls X hl) X.2.2 (fun q _ h => hF q h) hF (fun u' t H1 locs1 ht hvm hw hB hz1 hk1 hS => ?_)
  subst hw
  obtain ⟨hP1, hK1, hD1⟩ := hB
  rw [ht] at hP1
  exact kk H1 locs1 ls ⟨hP1, hD1.weaken (fun _ q _ h => hF q.1 h), hS⟩ hl
/-- the words of a call, all out of one table of good words -/
def jk_good (Ts : List Cond) : Prop := ∀ w ∈ Ts, (w.onTables && w.keeps) = true ∨ ∃ ty, w = .arrayClass ty
theorem jk_GI (hg : jk_good Ts) {y : MethodName} {bytes : ByteArray} {maxL : Nat} {ret : Option FieldType} (hc : Cond.code y bytes maxL ret ∈ Ts) : GoodIn Ts (Cond.code y bytes maxL ret :: Ts) := by
  intro w hw
  rcases List.mem_cons.mp hw with rfl | h
  · exact ⟨hc, hg _ hc⟩
  · exact ⟨h, hg _ h⟩
theorem jk_GV (hg : jk_good Ts) {own : String} {idx : Nat} {Cn : String} {y : MethodName} {bytes : ByteArray} {maxL : Nat} {ret : Option FieldType} (h : ∀ w ∈ ([.methodLink own idx y, .instanceMethod y, .selects Cn y y, .initialized Cn] : List Cond), w ∈ Ts) (hc : Cond.code y bytes maxL ret ∈ Ts) : GoodIn Ts (wsV own idx Cn y (Cond.code y bytes maxL ret :: Ts)) := by
  intro w hw
  unfold wsV at hw
  rcases List.mem_append.mp hw with h1 | h1
  · exact ⟨h w h1, hg _ (h w h1)⟩
  · exact jk_GI hg hc w h1
theorem jk_GS (hg : jk_good Ts) {own : String} {idx : Nat} {y : MethodName} {bytes : ByteArray} {maxL : Nat} {ret : Option FieldType} (h : ∀ w ∈ ([.methodLink own idx y, .static y, .initialized y.cls] : List Cond), w ∈ Ts) (hc : Cond.code y bytes maxL ret ∈ Ts) : GoodIn Ts (va_wsS own idx y (Cond.code y bytes maxL ret :: Ts)) := by
  intro w hw
  unfold va_wsS at hw
  rcases List.mem_append.mp hw with h1 | h1
  · exact ⟨h w h1, hg _ (h w h1)⟩
  · exact jk_GI hg hc w h1
/-- a call's shape: its stack, its room, its descriptor -/
theorem j_cIV (C : jk_C p R s m args c cells slots cc nL own Ts D cl tys A) {y : MethodName} {bytes : ByteArray} {maxL index n : Nat} {ret : Option FieldType} {rm rm' : Room} {Cn : String} {b : Nat} {As rest : List Value} {fr : Int32} {fu : S}
    (hR0 : R = rm) (hM : CtI l y (.code y bytes maxL ret :: Ts) rm' D cl tys wd (.ref b :: As) u fr fu) (hG : GoodIn Ts (wsV own index Cn y (Cond.code y bytes maxL ret :: Ts)))
    (hd : y.cls = Cn ∧ y.cls ≠ "java/lang/invoke/MethodHandle" ∧ y.cls ≠ "java/lang/invoke/VarHandle" ∧ (parseMethodDescriptor y.desc).map (fun d => d.parameters.length) = some n) (hR : (rm'.cells = 0 ∧ rm'.slots = 0) ∧ rm'.frames + 1 ≤ rm.frames ∧ 8 + (maxL + 11) + rm'.locals ≤ rm.locals)
    (q0 ci : Nat) {q : vw_C} {fs : List Value} (hrv : (wd u)[q0]? = some (b, .inr (ci, fs))) (hcl : cl[ci]? = some q) (hq : q.1 = Cn) (hn : As.length = n) (hst : st = As.reverse ++ .ref b :: rest) (hw : (rest.map fun v => v.category).sum ≤ 8) (d : decode cc pc = .ok (.invokevirtual index, 3))
    (kk : JJ p l e R s m args below meth c cells slots nL D cl wd A Q (pc + 3) lv fu (.int fr :: rest)) : JJ p l e R s m args below meth c cells slots nL D cl wd A Q pc lv u st := by
  subst hR0
  subst hq
  refine j_runI C (a := (.ref b :: As).toArray) (fun H locs ls X hl => ?_) kk
  exact va_runV (cc := cc) (nL := nL) (g := F0 m pc ls st) (As := As) (rest := rest) ⟨C.1, C.2.1, C.2.2.1, C.2.2.2.1, C.2.2.2.2.1⟩ (hM H.size) (cwV n C.2.2.2.2.1 hG rfl hR.1.1 hR.1.2 hd hR.2) ⟨jk_blind, va_recv C.2.2.2.2.2.1 X.1 hcl hrv, jk_pre C X⟩ rfl hn hl.1 hst (lv_room hw) d ⟨C.2.2.2.2.2.2.2.1, C.2.2.2.2.2.2.2.2.1⟩
theorem j_cVV (C : jk_C p R s m args c cells slots cc nL own Ts D cl tys A) {y : MethodName} {bytes : ByteArray} {maxL index n : Nat} {ret : Option FieldType} {rm rm' : Room} {Cn : String} {b : Nat} {As rest : List Value} {fu : S}
    (hR0 : R = rm) (hM : CtV l y (.code y bytes maxL ret :: Ts) rm' D cl tys wd (.ref b :: As) u fu) (hG : GoodIn Ts (wsV own index Cn y (Cond.code y bytes maxL ret :: Ts)))
    (hd : y.cls = Cn ∧ y.cls ≠ "java/lang/invoke/MethodHandle" ∧ y.cls ≠ "java/lang/invoke/VarHandle" ∧ (parseMethodDescriptor y.desc).map (fun d => d.parameters.length) = some n) (hR : (rm'.cells = 0 ∧ rm'.slots = 0) ∧ rm'.frames + 1 ≤ rm.frames ∧ 8 + (maxL + 11) + rm'.locals ≤ rm.locals)
    (q0 ci : Nat) {q : vw_C} {fs : List Value} (hrv : (wd u)[q0]? = some (b, .inr (ci, fs))) (hcl : cl[ci]? = some q) (hq : q.1 = Cn) (hn : As.length = n) (hst : st = As.reverse ++ .ref b :: rest) (hw : (rest.map fun v => v.category).sum ≤ 8) (d : decode cc pc = .ok (.invokevirtual index, 3))
    (kk : JJ p l e R s m args below meth c cells slots nL D cl wd A Q (pc + 3) lv fu rest) : JJ p l e R s m args below meth c cells slots nL D cl wd A Q pc lv u st := by
  subst hR0
  subst hq
  refine j_runV C (a := (.ref b :: As).toArray) (fun H locs ls X hl => ?_) kk
  exact va_runV (cc := cc) (nL := nL) (g := F0 m pc ls st) (As := As) (rest := rest) ⟨C.1, C.2.1, C.2.2.1, C.2.2.2.1, C.2.2.2.2.1⟩ (hM H.size) (cwV n C.2.2.2.2.1 hG rfl hR.1.1 hR.1.2 hd hR.2) ⟨jk_blind, va_recv C.2.2.2.2.2.1 X.1 hcl hrv, jk_pre C X⟩ rfl hn hl.1 hst (lv_room hw) d ⟨C.2.2.2.2.2.2.2.1, C.2.2.2.2.2.2.2.2.1⟩
theorem j_cIS (C : jk_C p R s m args c cells slots cc nL own Ts D cl tys A) {y : MethodName} {bytes : ByteArray} {maxL index n : Nat} {ret : Option FieldType} {rm rm' : Room} {As rest : List Value} {fr : Int32} {fu : S}
    (hR0 : R = rm) (hM : CtI l y (.code y bytes maxL ret :: Ts) rm' D cl tys wd As u fr fu) (hG : GoodIn Ts (va_wsS own index y (Cond.code y bytes maxL ret :: Ts)))
    (hd : y.cls ≠ "java/lang/invoke/MethodHandle" ∧ y.cls ≠ "java/lang/invoke/VarHandle" ∧ (parseMethodDescriptor y.desc).map (fun d => d.parameters.length) = some n) (hR : (rm'.cells = 0 ∧ rm'.slots = 0) ∧ rm'.frames + 1 ≤ rm.frames ∧ 8 + (maxL + 11) + rm'.locals ≤ rm.locals)
    (hn : As.length = n) (hst : st = As.reverse ++ rest) (hw : (rest.map fun v => v.category).sum ≤ 8) (d : decode cc pc = .ok (.invokestatic index, 3))
    (kk : JJ p l e R s m args below meth c cells slots nL D cl wd A Q (pc + 3) lv fu (.int fr :: rest)) : JJ p l e R s m args below meth c cells slots nL D cl wd A Q pc lv u st := by
  subst hR0
  refine j_runI C (a := As.toArray) (fun H locs ls X hl => ?_) kk
  exact va_runS (cc := cc) (nL := nL) (g := F0 m pc ls st) (As := As) (rest := rest) ⟨C.1, C.2.1, C.2.2.1, C.2.2.2.1, C.2.2.2.2.1⟩ (hM H.size) (va_cwS n C.2.2.2.2.1 hG rfl hR.1.1 hR.1.2 hd hR.2) ⟨jk_blind, jk_pre C X⟩ rfl hn hl.1 hst (lv_room hw) d ⟨C.2.2.2.2.2.2.2.1, C.2.2.2.2.2.2.2.2.1⟩
/-- a nest mate's static method -/
theorem j_cISN (C : jk_C p R s m args c cells slots cc nL own Ts D cl tys A) {y : MethodName} {bytes : ByteArray} {maxL index n : Nat} {ret : Option FieldType} {rm rm' : Room} {host : String} {As rest : List Value} {fr : Int32} {fu : S}
    (hR0 : R = rm) (hM : CtI l y (.code y bytes maxL ret :: Ts) rm' D cl tys wd As u fr fu) (hG : GoodIn Ts (Cond.code y bytes maxL ret :: Ts)) (hl0 : jk_N A s → va_Nw (.methodLinkNest own index y host) s) (hini : Cond.initialized y.cls ∈ Ts) (hsta : Cond.static y ∈ Ts)
    (hd : y.cls ≠ "java/lang/invoke/MethodHandle" ∧ y.cls ≠ "java/lang/invoke/VarHandle" ∧ (parseMethodDescriptor y.desc).map (fun d => d.parameters.length) = some n) (hR : (rm'.cells = 0 ∧ rm'.slots = 0) ∧ rm'.frames + 1 ≤ rm.frames ∧ 8 + (maxL + 11) + rm'.locals ≤ rm.locals)
    (hn : As.length = n) (hst : st = As.reverse ++ rest) (hw : (rest.map fun v => v.category).sum ≤ 8) (d : decode cc pc = .ok (.invokestatic index, 3))
    (kk : JJ p l e R s m args below meth c cells slots nL D cl wd A Q (pc + 3) lv fu (.int fr :: rest)) : JJ p l e R s m args below meth c cells slots nL D cl wd A Q pc lv u st := by
  subst hR0
  refine j_runI C (a := As.toArray) (fun H locs ls X hl => ?_) kk
  exact va_runSN (cc := cc) (nL := nL) (g := F0 m pc ls st) (As := As) (rest := rest) ⟨C.1, C.2.1, C.2.2.1, C.2.2.2.1, C.2.2.2.2.1⟩ (hM H.size) ⟨va_cnB n C.2.2.2.2.1 hG rfl hR.1.1 hR.1.2 (hl0 C.2.2.2.2.2.2.2.2.2) (C.2.2.2.2.1 _ hini) hd hR.2, C.2.2.2.2.1 _ hsta, trivial⟩ ⟨jk_blind, jk_pre C X⟩ rfl hn hl.1 hst (lv_room hw) d ⟨C.2.2.2.2.2.2.2.1, C.2.2.2.2.2.2.2.2.1⟩
/-- static int arrays of seven -/
theorem j_stat (C : jk_C p R s m args c cells slots cc nL own Ts D cl tys A) {fn : String} {index : Nat} {f : Nat → Int32} (hZ : jk_N A s → ∃ t : Nat, va_Z RX3 fn "[I" (.ref t) A s s.heap ∧ va_T .int t 7 (fun j => .int (f j)) A s s.heap) (hlink : Cond.fieldLink own index RX3 fn "[I" ∈ Ts) (d : decode cc pc = .ok (.getstatic index, 3))
    (kk : ∀ t : Nat, va_T .int t 7 (fun j => .int (f j)) A s s.heap → JJ p l e R s m args below meth c cells slots nL D cl wd A Q (pc + 3) lv u (.ref t :: st)) : JJ p l e R s m args below meth c cells slots nL D cl wd A Q pc lv u st := by
  intro H locs ls X hl
  obtain ⟨t, h1, h2⟩ := hZ C.2.2.2.2.2.2.2.2.2
  exact va_gets C.1 C.2.1 h1 X.2.2 C.2.2.2.1 (C.2.2.2.2.1 _ hlink) (fun _ h => h) d (kk t h2 H locs ls X hl)
theorem j_tald (C : jk_C p R s m args c cells slots cc nL own Ts D cl tys A) {t : Nat} {f : Nat → Int32} (hT : va_T .int t 7 (fun j => .int (f j)) A s s.heap) {i : Int32} (j : Nat) (hi : i = nI j) (hj : j < 7) (d : decode cc pc = .ok (.iaload, 1))
    (kk : JJ p l e R s m args below meth c cells slots nL D cl wd A Q (pc + 1) lv u (.int (f j) :: st)) : JJ p l e R s m args below meth c cells slots nL D cl wd A Q pc lv u (.int i :: .ref t :: st) := by
  subst hi
  intro H locs ls X hl
  refine va_ti C.1 C.2.1 hT X.2.2 (vp_in_nI hj (by decide)) (v := .int (f j)) (by rw [nI_clamp (Nat.lt_trans hj (by decide))]) d ?_
  exact kk H locs ls X hl
/-- Math.max -/
theorem j_max (C : jk_C p R s m args c cells slots cc nL own Ts D cl tys A) {x y : Int32} {index : Nat} {rm : Room} (hR0 : R = rm) (hR : 1 ≤ rm.frames) (hL : (st.map fun v => v.category).sum + 13 ≤ rm.locals) (h : ∀ w ∈ ([.methodLink own index Lib.Math.max.name, .static Lib.Math.max.name, .initialized "java/lang/Math"] : List Cond), w ∈ Ts) (hc : Cond.code Lib.Math.max.name Lib.Math.max.code 2 (some .int) ∈ Ts) (d : decode cc pc = .ok (.invokestatic index, 3)) (kk : JJ p l e R s m args below meth c cells slots nL D cl wd A Q (pc + 3) lv u (.int (if x < y then y else x) :: st)) : JJ p l e R s m args below meth c cells slots nL D cl wd A Q pc lv u (.int y :: .int x :: st) := by
  subst hR0
  intro H locs ls X hl
  exact va_mmax C.1 C.2.1 (C.2.2.1.trans hl.1.symm) C.2.2.2.1 (C.2.2.2.2.1 _ (h _ (by simp))) (C.2.2.2.2.1 _ (h _ (by simp))) (C.2.2.2.2.1 _ (h _ (by simp))) (C.2.2.2.2.1 _ hc) hR hL C.2.2.2.2.2.2.2.1 C.2.2.2.2.2.2.2.2.1 d (kk H locs ls X hl)
end JKC

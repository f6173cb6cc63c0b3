-- ROWS FOR THE LAW: two worlds side by side
abbrev wL (z : Nat → ClassId) (a b : Nat → Nat) : St × St → va_W := fun x => cW z a x.1 ++ rW z b x.2
abbrev lvL (a b : Nat → Nat) (b0 i : Nat) : List (Nat × Value) := [(3, .int (nI i)), (2, .ref (b 0)), (1, .ref (a 0)), (0, .ref b0)]
section JKL
variable {S1 S2 : Type} {p : Program} {l : Launch} {e : Env} {R : Room} {s : State} {m : MethodId} {args : Array Value} {below : List Frame} {meth : Method} {c : Code} {cells slots : Nat} {cc : ByteArray} {nL : Nat} {own : String} {Ts : List Cond} {D : va_G} {cl : List vw_C} {tys : List (ClassId × FieldType)} {A : Nat → Prop} {Q : State → Prop} {pc : Nat} {lv : List (Nat × Value)} {st : List Value} {w1 : S1 → va_W} {w2 : S2 → va_W} {x : S1} {y : S2}
theorem j_sld {S : Type} {wd : S → va_W} {u : S} (C : jk_C p R s m args c cells slots cc nL own Ts D cl tys A) {b0 L : Nat} {xs : Nat → Int32} (hX : va_X b0 L xs s s.heap) (hbl : b0 < s.heap.size) (hbA : ¬ A b0) {i : Int32} (j : Nat) (hi : i = nI j) (hj : j < L) (hb : L < 2 ^ 31) (d : decode cc pc = .ok (.iaload, 1))
    (kk : JJ p l e R s m args below meth c cells slots nL D cl wd A Q (pc + 1) lv u (.int (xs j) :: st)) : JJ p l e R s m args below meth c cells slots nL D cl wd A Q pc lv u (.int i :: .ref b0 :: st) := by
  subst hi
  intro H locs ls X hl
  refine va_sld C.1 C.2.1 hX hbl hbA X.2.2 (vp_in_nI hj hb) d ?_
  rw [nI_clamp (Nat.lt_trans hj hb)]
  exact kk H locs ls X hl
theorem j_slen {S : Type} {wd : S → va_W} {u : S} (C : jk_C p R s m args c cells slots cc nL own Ts D cl tys A) {b0 L : Nat} {xs : Nat → Int32} (hX : va_X b0 L xs s s.heap) (hbl : b0 < s.heap.size) (hbA : ¬ A b0) (d : decode cc pc = .ok (.arraylength, 1))
    (kk : JJ p l e R s m args below meth c cells slots nL D cl wd A Q (pc + 1) lv u (.int (nI L) :: st)) : JJ p l e R s m args below meth c cells slots nL D cl wd A Q pc lv u (.ref b0 :: st) :=
  fun H locs ls X hl => va_slen C.1 C.2.1 hX hbl hbA X.2.2 d (kk H locs ls X hl)
theorem jl_cls (C : jk_C p R s m args c cells slots cc nL own Ts D cl tys A) {ym : MethodName} {bytes : ByteArray} {maxL index n : Nat} {ret : Option FieldType} {rm rm' : Room} {Cn : String} {b : Nat} {As rest : List Value} {fr : Int32} {fu : S1}
    (hR0 : R = rm) (hM : CtI l ym (.code ym bytes maxL ret :: Ts) rm' D cl tys w1 (.ref b :: As) x fr fu) (hG : GoodIn Ts (wsV own index Cn ym (Cond.code ym bytes maxL ret :: Ts)))
    (hd : ym.cls = Cn ∧ ym.cls ≠ "java/lang/invoke/MethodHandle" ∧ ym.cls ≠ "java/lang/invoke/VarHandle" ∧ (parseMethodDescriptor ym.desc).map (fun d => d.parameters.length) = some n) (hR : (rm'.cells = 0 ∧ rm'.slots = 0) ∧ rm'.frames + 1 ≤ rm.frames ∧ 8 + (maxL + 11) + rm'.locals ≤ rm.locals)
    (q0 ci : Nat) {q : vw_C} {fs : List Value} (hrv : (w1 x)[q0]? = some (b, .inr (ci, fs))) (hcl : cl[ci]? = some q) (hq : q.1 = Cn) (hn : As.length = n) (hst : st = As.reverse ++ .ref b :: rest) (hw : (rest.map fun v => v.category).sum ≤ 8) (d : decode cc pc = .ok (.invokevirtual index, 3))
    (kk : JJ p l e R s m args below meth c cells slots nL D cl (fun t : S1 × S2 => w1 t.1 ++ w2 t.2) A Q (pc + 3) lv (fu, y) (.int fr :: rest)) : JJ p l e R s m args below meth c cells slots nL D cl (fun t : S1 × S2 => w1 t.1 ++ w2 t.2) A Q pc lv (x, y) st := by
  subst hR0
  subst hq
  intro H locs ls X hl
  have XP : va_P D cl (w1 x ++ w2 y) H := X.1
  have XD : va_D A (w1 x ++ w2 y) := X.2.1
  have hF : ∀ q, va_A (w1 x ++ w2 y) H.size q → A q := jk_in C X
  have hF1 : ∀ q, va_A (w1 x) H.size q → A q := fun q h => hF q (jk_sub1 q h)
  refine va_calli (va_runV (cc := cc) (nL := nL) (g := F0 m pc ls st) (As := As) (rest := rest) ⟨C.1, C.2.1, C.2.2.1, C.2.2.2.1, C.2.2.2.2.1⟩ (hM H.size) (cwV n C.2.2.2.2.1 hG rfl hR.1.1 hR.1.2 hd hR.2) ⟨jk_blind, va_recv C.2.2.2.2.2.1 (fr_P1 XP) hcl hrv, fun U hU hW => ?_⟩ rfl hn hl.1 hst (lv_room hw) d ⟨C.2.2.2.2.2.2.2.1, C.2.2.2.2.2.2.2.2.1⟩) X.2.2 (fun q _ h => hF1 q h) hF1 (fun r u' t H1 locs1 ht hvm hw' hB hz1 hk1 hS => ?_)
  · exact ⟨rfl, by rw [hU], by rw [hU]; exact fr_P1 XP, va_K.moved hW.alike C.2.2.2.2.2.1, (fr_D1 XD).weaken (fun _ _ _ _ => trivial), (C.2.2.2.2.2.2.2.2.2.at (by rw [hU]; exact X.2.2) hW).narrow hF1⟩
  · obtain ⟨rfl, rfl⟩ := hw'
    obtain ⟨hP1, hK1, hD1⟩ := hB
    rw [ht] at hP1
    obtain ⟨g1, g2⟩ := fr_L XP XD hF1 hk1 hP1 hD1
    exact kk H1 locs1 ls ⟨g1, g2, hS⟩ hl
theorem jl_ref (C : jk_C p R s m args c cells slots cc nL own Ts D cl tys A) {ym : MethodName} {bytes : ByteArray} {maxL index n : Nat} {ret : Option FieldType} {rm rm' : Room} {Cn : String} {b : Nat} {As rest : List Value} {fr : Int32} {fu : S2}
    (hR0 : R = rm) (hM : CtI l ym (.code ym bytes maxL ret :: Ts) rm' D cl tys w2 (.ref b :: As) y fr fu) (hG : GoodIn Ts (wsV own index Cn ym (Cond.code ym bytes maxL ret :: Ts)))
    (hd : ym.cls = Cn ∧ ym.cls ≠ "java/lang/invoke/MethodHandle" ∧ ym.cls ≠ "java/lang/invoke/VarHandle" ∧ (parseMethodDescriptor ym.desc).map (fun d => d.parameters.length) = some n) (hR : (rm'.cells = 0 ∧ rm'.slots = 0) ∧ rm'.frames + 1 ≤ rm.frames ∧ 8 + (maxL + 11) + rm'.locals ≤ rm.locals)
    (q0 ci : Nat) {q : vw_C} {fs : List Value} (hrv : (w2 y)[q0]? = some (b, .inr (ci, fs))) (hcl : cl[ci]? = some q) (hq : q.1 = Cn) (hn : As.length = n) (hst : st = As.reverse ++ .ref b :: rest) (hw : (rest.map fun v => v.category).sum ≤ 8) (d : decode cc pc = .ok (.invokevirtual index, 3))
    (kk : JJ p l e R s m args below meth c cells slots nL D cl (fun t : S1 × S2 => w1 t.1 ++ w2 t.2) A Q (pc + 3) lv (x, fu) (.int fr :: rest)) : JJ p l e R s m args below meth c cells slots nL D cl (fun t : S1 × S2 => w1 t.1 ++ w2 t.2) A Q pc lv (x, y) st := by
  subst hR0
  subst hq
  intro H locs ls X hl
  have XP : va_P D cl (w1 x ++ w2 y) H := X.1
  have XD : va_D A (w1 x ++ w2 y) := X.2.1
  have hF : ∀ q, va_A (w1 x ++ w2 y) H.size q → A q := jk_in C X
  have hF1 : ∀ q, va_A (w2 y) H.size q → A q := fun q h => hF q (jk_sub2 q h)
  refine va_calli (va_runV (cc := cc) (nL := nL) (g := F0 m pc ls st) (As := As) (rest := rest) ⟨C.1, C.2.1, C.2.2.1, C.2.2.2.1, C.2.2.2.2.1⟩ (hM H.size) (cwV n C.2.2.2.2.1 hG rfl hR.1.1 hR.1.2 hd hR.2) ⟨jk_blind, va_recv C.2.2.2.2.2.1 (fr_P2 XP) hcl hrv, fun U hU hW => ?_⟩ rfl hn hl.1 hst (lv_room hw) d ⟨C.2.2.2.2.2.2.2.1, C.2.2.2.2.2.2.2.2.1⟩) X.2.2 (fun q _ h => hF1 q h) hF1 (fun r u' t H1 locs1 ht hvm hw' hB hz1 hk1 hS => ?_)
  · exact ⟨rfl, by rw [hU], by rw [hU]; exact fr_P2 XP, va_K.moved hW.alike C.2.2.2.2.2.1, (fr_D2 XD).weaken (fun _ _ _ _ => trivial), (C.2.2.2.2.2.2.2.2.2.at (by rw [hU]; exact X.2.2) hW).narrow hF1⟩
  · obtain ⟨rfl, rfl⟩ := hw'
    obtain ⟨hP1, hK1, hD1⟩ := hB
    rw [ht] at hP1
    obtain ⟨g1, g2⟩ := fr_R XP XD hF1 hk1 hP1 hD1
    exact kk H1 locs1 ls ⟨g1, g2, hS⟩ hl
end JKL

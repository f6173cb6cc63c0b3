-- THE DESK'S CONSTRUCTOR
theorem arrV_eq {cA : ClassId} {n : Nat} {f g : Nat → Value} (h : ∀ j, j < n → f j = g j) : arrV cA n f = arrV cA n g := by
  unfold arrV
  congr 2
  funext j
  exact h j.val j.isLt
section JKP
variable {p : Program} {l : Launch} {e : Env} {R : Room} {s : State} {m : MethodId} {args : Array Value} {below : List Frame} {meth : Method} {c : Code} {cells slots : Nat} {cc : ByteArray} {nL : Nat} {own : String} {Ts : List Cond} {D : va_G} {cl : List vw_C} {tys : List (ClassId × FieldType)} {A : Nat → Prop} {Q : State → Prop} {pc : Nat} {lv : List (Nat × Value)} {u : va_W} {st : List Value}
theorem j_perm {u' : va_W} (is : List Nat) (hn : va_nd is = true) (hs : is.map (fun i => u[i]?) = u'.map some) (kk : JJ p l e R s m args below meth c cells slots nL D cl (id : va_W → va_W) A Q pc lv u' st) : JJ p l e R s m args below meth c cells slots nL D cl (id : va_W → va_W) A Q pc lv u st := by
  intro H locs ls X hl
  have XP : va_P D cl u H := X.1
  have XD : va_D A u := X.2.1
  refine kk H locs ls ⟨fun k q hk => ?_, XD.sub is hn hs, X.2.2⟩ hl
  have hk' : u'[k]? = some q := hk
  have h1 : (is.map (fun i => u[i]?))[k]? = some (some q) := by rw [hs, List.getElem?_map, hk']; rfl
  rw [List.getElem?_map] at h1
  cases hi : is[k]? with
  | none => rw [hi] at h1; cases h1
  | some i => rw [hi] at h1; exact XP i q (Option.some.inj h1)
theorem j_fun {u' : va_W} (q0 : Nat) {a : Nat} {zc : ClassId} {x x' : vp_A} (ha : u[q0]? = some (a, .inl (zc, x))) (hv : vp_cell zc x = vp_cell zc x') (hu : u.set q0 (a, .inl (zc, x')) = u') (kk : JJ p l e R s m args below meth c cells slots nL D cl (id : va_W → va_W) A Q pc lv u' st) : JJ p l e R s m args below meth c cells slots nL D cl (id : va_W → va_W) A Q pc lv u st := by
  subst hu
  intro H locs ls X hl
  have XP : va_P D cl u H := X.1
  have XD : va_D A u := X.2.1
  have he : va_at D cl (a, .inl (zc, x')) H := by
    show H[a]? = some (vp_cell zc x')
    rw [← hv]
    exact XP q0 _ ha
  exact kk H locs ls ⟨XP.set XD ha he (fun _ _ => rfl), XD.set ha, X.2.2⟩ hl
end JKP
theorem jk_lt8 {i : Nat} (h : i < 8) : ¬ (8 : Int32) ≤ nI i := lt8 i h
abbrev dkN (h : Nat) (a b c d : Value) : Nat × va_E := (h, .inr (3, [a, b, c, d, .int 0, .int 0, .int 0, .int 0]))
abbrev oaN (q : Nat) (zc : ClassId) (n : Nat) (f : Nat → Option Nat) : Nat × va_E := (q, .inl (zc, n, .inr (.inr (.inr (.inr f)))))
abbrev iaN (q : Nat) (zc : ClassId) (n : Nat) (f : Nat → Int32) : Nat × va_E := (q, .inl (zc, n, .inl f))
abbrev rmD : Room := { frames := 2, cells := 26, slots := 190, locals := 70 }
section DI
variable {p : Program} {l : Launch} {e : Env} {R : Room} {s : State} {m : MethodId} {args : Array Value} {below : List Frame} {meth : Method} {c : Code} {cells slots : Nat} {D : va_G} {z : Nat → ClassId} {A : Nat → Prop} {Q : State → Prop}
theorem it_mv (C : jk_C p R s m args c cells slots cX3_init 2 RX3 TT D clA (tyl z) A) (HT : jk_AT A s) (hR : R = rmD) (i : Nat) (hi : i < 8) (hc : cells + 2 ≤ 26) (hs : slots + 16 ≤ 190) {h q0 : Nat} {v1 v2 v3 : Value} {f : Nat → Option Nat} {ms : va_W}
    (kk : ∀ a b : Nat, JJ p l e R s m args below meth c (cells + 1 + 1) (slots + 9 + 7) 2 D clA (id : va_W → va_W) A Q 15 [(1, .int (nI (i + 1))), (0, .ref h)] (dkN h (.ref q0) v1 v2 v3 :: oaN q0 (z 2) 8 (va_up f i (some a)) :: (ms ++ [mvN a b, iaN b (z 0) 7 jk_first])) []) :
    JJ p l e R s m args below meth c cells slots 2 D clA (id : va_W → va_W) A Q 15 [(1, .int (nI i)), (0, .ref h)] (dkN h (.ref q0) v1 v2 v3 :: oaN q0 (z 2) 8 f :: ms) [] := by
  refine j_iload_n C 0 dX3_init_15 rfl ?_
  refine j_bipush C 8 dX3_init_16 bp_8 ?_
  refine j_icmp_ge C 40 dX3_init_18 rfl (fun q => absurd q (jk_lt8 hi)) (fun _ => ?_)
  refine j_aload_n C 1 dX3_init_21 rfl ?_
  refine j_get C kf_3 0 rfl 0 (by decide) lk_3_11 (v := .ref q0) rfl dX3_init_22 ?_
  refine j_iload_n C 0 dX3_init_25 rfl ?_
  refine j_new C kf_1 [.null, .int 0, .int 0, .int 0, .int 0, .int 0, .int 0, .int 0, .int 0] (by decide) (jk_3 qc_3_9 qn_1 qi_1) (by rw [hR]; exact Nat.le_trans (by omega) hc) (by rw [hR]; exact Nat.le_trans (by omega) hs) dX3_init_26 ?_
  intro a
  have C1 := jk_up C (k := cells + 1) (n := slots + 9) (by rw [hR]; exact Nat.le_trans (by omega) hc) (by rw [hR]; exact Nat.le_trans (by omega) hs)
  refine j_dup C1 dX3_init_29 rfl ?_
  refine j_init C1 HT hR (c_mvI l D z a) (jk_GI TT_good qk_1) (jk_3 qi_1 qm_3_15 qs_1) rfl (by decide +kernel) ⟨⟨rfl, rfl⟩, by decide, by decide⟩ ⟨by omega, by omega⟩ rfl rfl rfl (Nat.le_of_ble_eq_true rfl) dX3_init_30 ?_
  rintro w1 ⟨b, rfl⟩
  have C2 := jk_up C (k := cells + 1 + 1) (n := slots + 9 + 7) (by rw [hR]; exact Nat.le_trans (by omega) hc) (by rw [hR]; exact Nat.le_trans (by omega) hs)
  have hv : (dkN h (.ref q0) v1 v2 v3 :: oaN q0 (z 2) 8 f :: (ms ++ [mvN a b, iaN b (z 0) 7 jk_first]))[ms.length + 2]? = some (a, .inr (1, [.ref b, .int 3, .int 0, .int 0, .int 0, .int 0, .int 0, .int 0, .int (-1)])) := by
    rw [List.getElem?_cons_succ, List.getElem?_cons_succ, List.getElem?_append_right (Nat.le_refl _), Nat.sub_self]
    rfl
  refine j_astq C2 1 2 (ms.length + 2) 1 (r := (RX1, TX1, 9)) (f := f) (v := a) rfl rfl hv rfl i rfl hi (by decide) rfl dX3_init_33 ?_
  refine j_iinc C2 0 (nI (i + 1)) dX3_init_34 rfl (nI_add i 1) (by decide) rfl ?_
  refine j_goto C2 15 dX3_init_37 rfl ?_
  exact kk a b
end DI

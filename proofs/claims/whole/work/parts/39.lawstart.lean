-- THE LAW FROM ITS ENTRY (the head is the skeleton's)
def R_law : String := "CrossingDeskLaw"
def lw_P (b : Addr) (xs : List Int32) (args : Array Value) (s : State) : Prop := args = #[.ref b] ∧ s.IntsAt b xs ∧ xs.length ≤ 2048 ∧ (Jvm.Cond.and given_1 narrow_1).before args s = true
def lw_Q (_ : Array Value) (s : State) (o : Outcome) (t : State) : Prop := o = .returned (some (.int 1)) ∧ Framed s o t [] 617974 7248326
def lw_Z (below : List Frame) (a : Array Value) (s : State) : State → Prop := fun t => ∃ o, t.status = .running ∧ Ended t below o ∧ lw_Q a s o t
/-- the law's own end, with 1 on the stack, nothing written that was there before, its room as the claim has it -/
theorem lw_ret {p : Program} {l : Launch} {e : Env} {s : State} {m : MethodId} {below : List Frame} {meth : Method} {c : Code} {b : Nat} (hx : p.tables.exec = Jvm.exec) (hb : c.code = code) (hr : meth.sig.returnType = ret) (hlocks : meth.locks = false) {pc : Nat} {H : Heap} {ls : Array Slot} (hdg : decode code pc = .ok (.ireturn, 1)) : W p l e room_1 s m #[Value.ref b] below meth c H [] 617974 7248326 (lw_Z below #[Value.ref b] s) (F0 m pc ls [.int 1]) := by
  intro T hT X
  obtain ⟨fs, hret, hrun, hended, hW, hframe⟩ := X.leave (v := some (.int 1)) (hlocks := hlocks) (fun h => by rw [hr] at h; cases h)
  have hmeth' : T.vm.method? m = some meth := X.method'
  refine ⟨T.setFrames fs, ?_, .returned (some (.int 1)), hrun, hended, rfl, ⟨_, rfl⟩, hW, hframe⟩
  jvm_step X.here [X.here.top, hx, hb, hdg, hmeth', hr, ret, narrow_b1]
  (try refine ⟨rfl, ?_⟩); (try refine ⟨rfl, ?_⟩)
  first | (intro acts; rw [hret _ acts rfl rfl rfl]) | rw [hret _ _ rfl rfl rfl]
  exact Steps.refl _
/-- what holds at the law's entry: the machine, the code, the tables' words (any of lw_tbl by 'hts w (by decide +kernel)'), the script of L ints xs at the cell b, what the Statement gives of the start (any of its parts by flat_of_before) -/
def lw_At (p : Program) (s : State) (m : MethodId) (meth : Method) (c : Code) (b L : Nat) (xs : Nat → Int32) : Prop :=
  p.tables.exec = Jvm.exec ∧ c.code = code ∧ meth.sig.returnType = ret ∧ c.maxLocals = 4 ∧ s.vm.findClass R_law = some m.cls ∧ (∀ w ∈ lw_tbl, w.before #[Value.ref b] s = true) ∧ va_X b L xs s s.heap ∧ b < s.heap.size ∧ meth.locks = false ∧ (Jvm.Cond.and given_1 narrow_1).before #[Value.ref b] s = true

/-- THE FACT THAT THE STATEMENT DOES NOT GIVE: the class of the cell of AT_FIRST is the one called "[I" -/
def at_plain (b : Nat) (s : State) : Prop := ∀ (t : Nat) (cell : Cell), (Term.static "CrossingDesk" "AT_FIRST" "[I").eval #[Value.ref b] s none [] s = some (.ref t) → s.heap[t]? = some cell → s.vm.findClass "[I" = some cell.cls
theorem lw_len {args : Array Value} {s : State} {tm : Term} {n : Nat} (hn : n < 2 ^ 31) (hl : (Term.length tm).eval args s none [] s = some (.int (Int32.ofNat n))) : ∃ (t : Nat) (cell : Cell), tm.eval args s none [] s = some (.ref t) ∧ s.heap[t]? = some cell ∧ cell.slots.size = n := by
  obtain ⟨t, cell, ht, hat, hv⟩ := Term.length_spec hl
  refine ⟨t, cell, ht, (State.arrayAt?_spec hat).1, ?_⟩
  have hl2 := hl
  simp only [Term.eval, Option.bind_eq_bind, ht, Option.bind_some, hat] at hl2
  by_cases hlt : cell.slots.size < 2 ^ 31
  · have e1 : (nI n) = nI cell.slots.size := Value.int.inj hv
    have e2 := congrArg Int32.toInt e1
    rw [nI_toInt hn, nI_toInt hlt] at e2
    omega
  · rw [if_neg hlt] at hl2
    cases hl2
theorem lw_slots {cell : Cell} {n : Nat} {f : Nat → Value} (hz : cell.slots.size = n) (hf : ∀ j, j < n → cell.slots[j]? = some (f j)) : cell.slots = (arrV cell.cls n f).slots := by
  apply Array.ext_getElem?
  intro j
  by_cases hj : j < n
  · rw [hf j hj, arrV_read _ _ hj]
  · rw [Array.getElem?_eq_none (by omega), Array.getElem?_eq_none (by rw [arrV_size]; omega)]
theorem lw_arr {s : State} {c : ClassId} {k : Class} {comp : ClassId} {ty : FieldType} (h1 : s.vm.classes[c]? = some k) (h2 : k.kind = .array comp ty) : ArrOfT s c ty := fun _ _ => ⟨fun _ h => (by cases h), k, h1, comp, h2⟩
set_option maxHeartbeats 4000000 in
set_option maxRecDepth 4000 in
theorem whole_start_at {p : Program} {e : Env} {s : State} {m : MethodId} {below : List Frame} {meth : Method} {c : Code} (l : Launch) {b L : Nat} {xs : Nat → Int32} (hL : L ≤ 2048) (hat : at_plain b s) (C0 : lw_At p s m meth c b L xs) : W p l e room_1 s m #[Value.ref b] below meth c s.heap [] 0 0 (lw_Z below #[Value.ref b] s) (entryFrame m ([Value.ref b] : List Value).toArray 4) := by
  obtain ⟨hx, hb, hr, hml, hown, hts, hX, hbl, hlocks, hgv⟩ := C0
  have hs := flat_of_before _ hgv
  have hT : ∀ w ∈ TT, w.before #[Value.ref b] s = true := fun w h => hts w (List.mem_filter.mp h).1
  have hq : ∀ (i : Nat) (w : Cond), tables_1[i]? = some w → w.before #[Value.ref b] s = true := fun i w h => hts w (List.mem_append_right _ (List.mem_of_getElem? h))
  obtain ⟨c0, i0, k0⟩ := u_known (C := RX0) (T := TX0) (N := 4) (n := 4) hT wi_0 (hT _ qn_0)
  obtain ⟨c1, i1, k1⟩ := u_known (C := RX1) (T := TX1) (N := 9) (n := 9) hT wi_1 (hT _ qn_1)
  obtain ⟨c2, i2, k2⟩ := u_known (C := RX2) (T := TX2) (N := 10) (n := 10) hT wi_2 (hT _ qn_2)
  obtain ⟨c3, i3, k3⟩ := u_known (C := RX3) (T := TX3) (N := 8) (n := 8) hT wi_3 (hT _ qn_3)
  obtain ⟨c4, i4, k4⟩ := u_known (C := RX4) (T := TX4) (N := 27) (n := 27) hT wi_4 (hT _ qn_4)
  obtain ⟨D, hKc⟩ : ∃ D : va_G, ∀ (k : Nat) (q : vw_C), clA[k]? = some q → u_Kn s q.1 q.2.1 q.2.2 (D.1 k) (D.2 k) := by
    refine ⟨(fun k => if k = 0 then c0 else if k = 1 then c1 else if k = 2 then c2 else if k = 3 then c3 else c4, fun k => if k = 0 then i0 else if k = 1 then i1 else if k = 2 then i2 else if k = 3 then i3 else i4), ?_⟩
    intro k q hq
    match k, hq with
    | 0, hq => cases hq; exact k0
    | 1, hq => cases hq; exact k1
    | 2, hq => cases hq; exact k2
    | 3, hq => cases hq; exact k3
    | 4, hq => cases hq; exact k4
    | k + 5, hq => simp at hq
  obtain ⟨z0, kz0, m0, a1, a2, a3⟩ := Cond.arrayClass_spec (hT _ qa_int)
  obtain ⟨z1, kz1, m1, b1, b2, b3⟩ := Cond.arrayClass_spec (hT _ qa_boolean)
  have w16 := hq 16 (.arrayOver (.object RX1)) (by decide +kernel)
  have w72 := hq 72 (.arrayOver (.object RX2)) (by decide +kernel)
  obtain ⟨m2, z2, kz2, e1, -, e2, e3, e4⟩ := Cond.arrayOver_spec w16
  obtain ⟨m3, z3, kz3, f1, -, f2, f3, f4⟩ := Cond.arrayOver_spec w72
  obtain ⟨z, hz⟩ : ∃ z : Nat → ClassId, z = fun k => if k = 0 then z0 else if k = 1 then z1 else if k = 2 then z2 else z3 := ⟨_, rfl⟩
  have hK : va_K D clA (tyl z) s := by
    refine ⟨hKc, fun k q hq => ?_⟩
    subst hz
    match k, hq with
    | 0, hq => cases hq; exact ⟨lw_arr a2 a3, a1⟩
    | 1, hq => cases hq; exact ⟨lw_arr b2 b3, b1⟩
    | 2, hq => cases hq; exact ⟨lw_arr e2 e3, kz2, m2, e2, e3, e1, e4⟩
    | 3, hq => cases hq; exact ⟨lw_arr f2 f3, kz3, m3, f2, f3, f1, f4⟩
    | k + 4, hq => simp [tyl] at hq
  obtain ⟨A, hAe⟩ : ∃ A : Nat → Prop, A = fun q : Nat => s.heap.size ≤ q := ⟨_, rfl⟩
  have hA : ∀ q : Nat, s.heap.size ≤ q → A q := fun q h => by rw [hAe]; exact h
  have hA' : ∀ q : Nat, A q → s.heap.size ≤ q := fun q h => by rw [hAe] at h; exact h
  have hA2 : ∀ q : Nat, q < s.heap.size → ¬ A q := fun q h g => absurd (hA' q g) (Nat.not_le.mpr h)
  obtain ⟨tL, htL, hTL⟩ := va_Tof (args := #[Value.ref b]) (s := s) (tm := .static "CrossingDesk" "LOWEST" "[I") (ty := .int) (N := 7) (f := fun j => .int (jk_lo j)) (A := A) (by decide) (hs _ (by decide +kernel)) (va_eqt (hs (.eq (.length (.static "CrossingDesk" "LOWEST" "[I")) (.int 7)) (by decide +kernel))) (fun j hj => by
    rcases (show j = 0 ∨ j = 1 ∨ j = 2 ∨ j = 3 ∨ j = 4 ∨ j = 5 ∨ j = 6 by omega) with rfl | rfl | rfl | rfl | rfl | rfl | rfl
    · exact va_eqt (hs (.eq (.elem (.static "CrossingDesk" "LOWEST" "[I") (.int 0)) (.int 1)) (by decide +kernel))
    · exact va_eqt (hs (.eq (.elem (.static "CrossingDesk" "LOWEST" "[I") (.int 1)) (.int 0)) (by decide +kernel))
    · exact va_eqt (hs (.eq (.elem (.static "CrossingDesk" "LOWEST" "[I") (.int 2)) (.int 1)) (by decide +kernel))
    · exact va_eqt (hs (.eq (.elem (.static "CrossingDesk" "LOWEST" "[I") (.int 3)) (.int 3)) (by decide +kernel))
    · exact va_eqt (hs (.eq (.elem (.static "CrossingDesk" "LOWEST" "[I") (.int 4)) (.int 0)) (by decide +kernel))
    · exact va_eqt (hs (.eq (.elem (.static "CrossingDesk" "LOWEST" "[I") (.int 5)) (.int 0)) (by decide +kernel))
    · exact va_eqt (hs (.eq (.elem (.static "CrossingDesk" "LOWEST" "[I") (.int 6)) (.int 0)) (by decide +kernel))) hA2
  obtain ⟨tH, htH, hTH⟩ := va_Tof (args := #[Value.ref b]) (s := s) (tm := .static "CrossingDesk" "HIGHEST" "[I") (ty := .int) (N := 7) (f := fun j => .int (jk_hi j)) (A := A) (by decide) (hs _ (by decide +kernel)) (va_eqt (hs (.eq (.length (.static "CrossingDesk" "HIGHEST" "[I")) (.int 7)) (by decide +kernel))) (fun j hj => by
    rcases (show j = 0 ∨ j = 1 ∨ j = 2 ∨ j = 3 ∨ j = 4 ∨ j = 5 ∨ j = 6 by omega) with rfl | rfl | rfl | rfl | rfl | rfl | rfl
    · exact va_eqt (hs (.eq (.elem (.static "CrossingDesk" "HIGHEST" "[I") (.int 0)) (.int 200)) (by decide +kernel))
    · exact va_eqt (hs (.eq (.elem (.static "CrossingDesk" "HIGHEST" "[I") (.int 1)) (.int 100)) (by decide +kernel))
    · exact va_eqt (hs (.eq (.elem (.static "CrossingDesk" "HIGHEST" "[I") (.int 2)) (.int 500)) (by decide +kernel))
    · exact va_eqt (hs (.eq (.elem (.static "CrossingDesk" "HIGHEST" "[I") (.int 3)) (.int 50)) (by decide +kernel))
    · exact va_eqt (hs (.eq (.elem (.static "CrossingDesk" "HIGHEST" "[I") (.int 4)) (.int 50)) (by decide +kernel))
    · exact va_eqt (hs (.eq (.elem (.static "CrossingDesk" "HIGHEST" "[I") (.int 5)) (.int 100)) (by decide +kernel))
    · exact va_eqt (hs (.eq (.elem (.static "CrossingDesk" "HIGHEST" "[I") (.int 6)) (.int 200)) (by decide +kernel))) hA2
  obtain ⟨tF, htF, hTF⟩ := va_Tof (args := #[Value.ref b]) (s := s) (tm := .static "CrossingDesk" "AT_FIRST" "[I") (ty := .int) (N := 7) (f := fun j => .int (jk_first j)) (A := A) (by decide) (hs _ (by decide +kernel)) (va_eqt (hs (.eq (.length (.static "CrossingDesk" "AT_FIRST" "[I")) (.int 7)) (by decide +kernel))) (fun j hj => by
    rcases (show j = 0 ∨ j = 1 ∨ j = 2 ∨ j = 3 ∨ j = 4 ∨ j = 5 ∨ j = 6 by omega) with rfl | rfl | rfl | rfl | rfl | rfl | rfl
    · exact va_eqt (hs (.eq (.elem (.static "CrossingDesk" "AT_FIRST" "[I") (.int 0)) (.int 5)) (by decide +kernel))
    · exact va_eqt (hs (.eq (.elem (.static "CrossingDesk" "AT_FIRST" "[I") (.int 1)) (.int 3)) (by decide +kernel))
    · exact va_eqt (hs (.eq (.elem (.static "CrossingDesk" "AT_FIRST" "[I") (.int 2)) (.int 30)) (by decide +kernel))
    · exact va_eqt (hs (.eq (.elem (.static "CrossingDesk" "AT_FIRST" "[I") (.int 3)) (.int 4)) (by decide +kernel))
    · exact va_eqt (hs (.eq (.elem (.static "CrossingDesk" "AT_FIRST" "[I") (.int 4)) (.int 2)) (by decide +kernel))
    · exact va_eqt (hs (.eq (.elem (.static "CrossingDesk" "AT_FIRST" "[I") (.int 5)) (.int 0)) (by decide +kernel))
    · exact va_eqt (hs (.eq (.elem (.static "CrossingDesk" "AT_FIRST" "[I") (.int 6)) (.int 0)) (by decide +kernel))) hA2
  have hN : jk_N A s := ⟨va_Nw.of rfl (hq 367 (.methodLinkNest RX0 26 yX3_anyInTheWay RX3) (by decide +kernel)), ⟨tL, va_Zof (hq 170 (.laysStatic RX3 "LOWEST" "[I") (by decide +kernel)) (hT _ qi_3) htL hA2, hTL⟩, tH, va_Zof (hq 172 (.laysStatic RX3 "HIGHEST" "[I") (by decide +kernel)) (hT _ qi_3) htH hA2, hTH⟩
  have hF : jk_FA tF A s s.heap := by
    obtain ⟨cell, g1, g2, g3, -, -, g4, g5⟩ := hTF
    obtain ⟨t', cell', r1, r2, r3⟩ := lw_len (args := #[Value.ref b]) (s := s) (tm := .static "CrossingDesk" "AT_FIRST" "[I") (n := 7) (by decide) (va_eqt (hs (.eq (.length (.static "CrossingDesk" "AT_FIRST" "[I")) (.int 7)) (by decide +kernel)))
    cases htF.symm.trans r1
    cases g1.symm.trans r2
    exact ⟨cell, g1, g2, g3, hat tF cell htF g1, lw_slots r3 g4, g5⟩
  have HT : jk_AT A s := ⟨va_Nw.of rfl (hq 22 (.fieldLinkNest RX1 9 RX3 "AT_FIRST" "[I" RX3) (by decide +kernel)), va_Nw.of rfl (hq 29 (.castable "[I" "java/lang/Cloneable") (by decide +kernel)), va_AO.of w16, va_AO.of w72, tF, va_Zof (hq 23 (.laysStatic RX3 "AT_FIRST" "[I") (by decide +kernel)) (hT _ qi_3) htF hA2, hF⟩
  have C : jk_C p room_1 s m #[Value.ref b] c 0 0 cL_law 4 RL TT D clA (tyl z) A := ⟨hx, hb, hml, hown, hT, hK, hA, Nat.zero_le _, Nat.zero_le _, hN⟩
  have hl := lv_entry ([.ref b]) (n := 4) (Nat.le_of_ble_eq_true rfl)
  rw [lg_entry_eq]
  have J : JJ p l e room_1 s m #[Value.ref b] below meth c 0 0 4 D clA (id : va_W → va_W) A (lw_Z below #[Value.ref b] s) 0 [(0, .ref b)] [] [] := by
    refine j_new C kf_3 [.null, .null, .null, .null, .int 0, .int 0, .int 0, .int 0] (by decide) (jk_3 qc_5_7 qn_3 qi_3) (by decide) (by decide) dL_law_0 ?_
    intro h
    have C1 := jk_up C (k := 0 + 1) (n := 0 + 8) (by decide) (by decide)
    refine j_dup C1 dL_law_3 rfl ?_
    refine j_init (n := 0) C1 HT rfl (c_dkI l D z h) (jk_GI TT_good qk_3) (jk_3 qi_3 qm_5_9 qs_3) rfl (by decide +kernel) ⟨⟨rfl, rfl⟩, by decide, by decide⟩ ⟨by decide, by decide⟩ rfl rfl (w := []) rfl (Nat.le_of_ble_eq_true rfl) dL_law_4 ?_
    rintro w1 ⟨a, rfl, rfl⟩
    have C2 := jk_up C (k := 0 + 1 + 26) (n := 0 + 8 + 190) (by decide) (by decide)
    refine j_astore_n C2 dL_law_7 (by decide) (lv' := [(1, .ref (a 0)), (0, .ref b)]) rfl ?_
    refine j_new C2 kf_4 [.int 0, .null, .null, .null, .null, .null, .null, .null, .null, .null, .null, .null, .null, .null, .null, .null, .null, .null, .null, .int 0, .int 0, .int 0, .int 0, .int 0, .null, .null, .int 0] (by decide) (jk_3 qc_5_10 qn_4 qi_4) (by decide) (by decide) dL_law_8 ?_
    intro h
    have C3 := jk_up C (k := 0 + 1 + 26 + 1) (n := 0 + 8 + 190 + 27) (by decide) (by decide)
    refine j_dup C3 dL_law_11 rfl ?_
    refine j_init (n := 0) C3 HT rfl (c_mdI l D z h) (jk_GI TT_good qk_4) (jk_3 qi_4 qm_5_12 qs_4) rfl (by decide +kernel) ⟨⟨rfl, rfl⟩, by decide, by decide⟩ ⟨by decide, by decide⟩ rfl rfl (w := cW z a cu0) rfl (Nat.le_of_ble_eq_true rfl) dL_law_12 ?_
    rintro w1 ⟨r, rfl, rfl⟩
    have C4 := jk_up C (k := 0 + 1 + 26 + 1 + 20) (n := 0 + 8 + 190 + 27 + 156) (by decide) (by decide)
    refine j_astore_n C4 dL_law_15 (by decide) (lv' := [(2, .ref (r 0)), (1, .ref (a 0)), (0, .ref b)]) rfl ?_
    refine j_iconst C4 0 dL_law_16 ic_0 ?_
    refine j_istore_n C4 dL_law_17 (by decide) (lv' := lvL a r b 0) rfl ?_
    have fin : ∀ (i : Nat) (u v : St), JJ p l e room_1 s m #[Value.ref b] below meth c (0 + 1 + 26 + 1 + 20) (0 + 8 + 190 + 27 + 156) 4 D clA (wL z a r) A (lw_Z below #[Value.ref b] s) 438 (lvL a r b i) (u, v) [] := by
      intro i u v
      refine j_iconst C4 1 dL_law_438 ic_1 ?_
      intro H locs ls X hl
      refine va_forget (fun q hq => hA' _ (X.2.2.2.2 q hq)) ?_
      refine W.widen (k := 617974) (n := 7248326) (by decide) (by decide) ?_
      exact lw_ret hx hb hr hlocks dL_law_439
    have K := lw_loop C4 hX hbl (hA2 b hbl) hL fin 2048 0 cu0 mu0 (Nat.zero_le L) (by omega) rel0
    exact fun H locs ls X hl => K H locs ls X hl
  exact J s.heap [] _ ⟨fun k q h => by simp at h, ⟨fun i j p q h => by simp at h, fun k q h => by simp at h⟩, va_S.rf⟩ hl

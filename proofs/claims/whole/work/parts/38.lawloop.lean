-- THE LAW'S LOOP
theorem lw_sub4 {L i : Nat} (hL : L ≤ 2048) (hi : i ≤ 2048) (h : ¬ (nI L - 4) < nI i) : i + 4 ≤ L := by
  rcases Nat.lt_or_ge L 4 with h4 | h4
  · exfalso
    apply h
    rw [Int32.lt_iff_toInt_lt, nI_toInt (by omega)]
    rcases (show L = 0 ∨ L = 1 ∨ L = 2 ∨ L = 3 by omega) with rfl | rfl | rfl | rfl
    · rw [show (nI 0 - 4).toInt = -4 by decide]; omega
    · rw [show (nI 1 - 4).toInt = -3 by decide]; omega
    · rw [show (nI 2 - 4).toInt = -2 by decide]; omega
    · rw [show (nI 3 - 4).toInt = -1 by decide]; omega
  · rw [show (4 : Int32) = nI 4 from rfl, pk_sub h4] at h
    rcases Nat.lt_or_ge (L - 4) i with h5 | h5
    · exact absurd (nI_lt h5 (by omega)) h
    · omega
section LL
variable {p : Program} {l : Launch} {e : Env} {s : State} {m : MethodId} {args : Array Value} {below : List Frame} {meth : Method} {c : Code} {cells slots : Nat} {D : va_G} {z : Nat → ClassId} {A : Nat → Prop} {Q : State → Prop} {a b : Nat → Nat} {b0 L : Nat} {xs : Nat → Int32}
theorem lw_step (C : jk_C p room_1 s m args c cells slots cL_law 4 RL TT D clA (tyl z) A) (hX : va_X b0 L xs s s.heap) (hbl : b0 < s.heap.size) (hbA : ¬ A b0) (hL : L ≤ 2048) {i : Nat} {u v : St} (hi : i ≤ L) (h : RelT u v)
    (fin : JJ p l e room_1 s m args below meth c cells slots 4 D clA (wL z a b) A Q 438 (lvL a b b0 i) (u, v) [])
    (K : i + 4 ≤ L → ∀ u1 v1 : St, RelT u1 v1 → JJ p l e room_1 s m args below meth c cells slots 4 D clA (wL z a b) A Q 18 (lvL a b b0 (i + 4)) (u1, v1) []) :
    JJ p l e room_1 s m args below meth c cells slots 4 D clA (wL z a b) A Q 18 (lvL a b b0 i) (u, v) [] := by
  refine j_iload_n C 0 dL_law_18 rfl ?_
  refine j_aload_n C 3 dL_law_19 rfl ?_
  refine j_slen C hX hbl hbA dL_law_20 ?_
  refine j_iconst C 4 dL_law_21 ic_4 ?_
  refine j_isub C dL_law_22 ?_
  refine j_icmp_gt C 438 dL_law_23 rfl (fun _ => fin) (fun hq => ?_)
  have hi4 := lw_sub4 hL (Nat.le_trans hi hL) hq
  have k4 : ∀ u1 v1 : St, RelT u1 v1 → JJ p l e room_1 s m args below meth c cells slots 4 D clA (wL z a b) A Q 432 (lvL a b b0 i) (u1, v1) [] := fun u1 v1 h1 => j_iinc C 0 (nI (i + 4)) dL_law_432 rfl (nI_add i 4) (by decide) rfl (j_goto C 18 dL_law_435 rfl (K hi4 u1 v1 h1))
  refine j_aload_n C 3 dL_law_26 rfl ?_
  refine j_iload_n C 0 dL_law_27 rfl ?_
  refine j_sld C hX hbl hbA i rfl (by omega) (by omega) dL_law_28 ?_
  refine j_bipush C 15 dL_law_29 (by decide) ?_
  refine j_iand C dL_law_31 ?_
  generalize xs i &&& 15 = x
  by_cases hout : x.toInt < 0 ∨ 11 < x.toInt
  · exact j_tableOut C 432 dL_law_32 hout rfl (k4 u v h)
  · have h1 : ¬ x.toInt < 0 := fun q => hout (Or.inl q)
    have h2 : ¬ 11 < x.toInt := fun q => hout (Or.inr q)
    rcases (show x.toInt = 0 ∨ x.toInt = 1 ∨ x.toInt = 2 ∨ x.toInt = 3 ∨ x.toInt = 4 ∨ x.toInt = 5 ∨ x.toInt = 6 ∨ x.toInt = 7 ∨ x.toInt = 8 ∨ x.toInt = 9 ∨ x.toInt = 10 ∨ x.toInt = 11 by omega) with hk | hk | hk | hk | hk | hk | hk | hk | hk | hk | hk | hk
    · exact j_tableIn C 96 dL_law_32 h1 h2 (by rw [hk]; rfl) rfl (lc_set C hX hbl hbA hL hi4 h k4)
    · exact j_tableIn C 139 dL_law_32 h1 h2 (by rw [hk]; rfl) rfl (lc_mode C hX hbl hbA hL hi4 h k4)
    · exact j_tableIn C 172 dL_law_32 h1 h2 (by rw [hk]; rfl) rfl (lc_exchange C hX hbl hbA hL hi4 h k4)
    · exact j_tableIn C 205 dL_law_32 h1 h2 (by rw [hk]; rfl) rfl (lc_car C hX hbl hbA hL hi4 h k4)
    · exact j_tableIn C 238 dL_law_32 h1 h2 (by rw [hk]; rfl) rfl (lc_push C hX hbl hbA hL hi4 h k4)
    · exact j_tableIn C 261 dL_law_32 h1 h2 (by rw [hk]; rfl) rfl (lc_stick C hX hbl hbA hL hi4 h k4)
    · exact j_tableIn C 294 dL_law_32 h1 h2 (by rw [hk]; rfl) rfl (lc_run C hX hbl hbA hL hi4 h k4)
    · exact j_tableIn C 317 dL_law_32 h1 h2 (by rw [hk]; rfl) rfl (lc_restart C hX hbl hbA hL hi4 h k4)
    · exact j_tableIn C 330 dL_law_32 h1 h2 (by rw [hk]; rfl) rfl (lc_of C hX hbl hbA hL hi4 h k4)
    · exact j_tableIn C 363 dL_law_32 h1 h2 (by rw [hk]; rfl) rfl (lc_ring C hX hbl hbA hL hi4 h k4)
    · exact j_tableIn C 396 dL_law_32 h1 h2 (by rw [hk]; rfl) rfl (lc_state C hX hbl hbA hL hi4 h k4)
    · exact j_tableIn C 419 dL_law_32 h1 h2 (by rw [hk]; rfl) rfl (lc_check C hX hbl hbA hL hi4 h k4)
theorem lw_loop (C : jk_C p room_1 s m args c cells slots cL_law 4 RL TT D clA (tyl z) A) (hX : va_X b0 L xs s s.heap) (hbl : b0 < s.heap.size) (hbA : ¬ A b0) (hL : L ≤ 2048)
    (fin : ∀ (i : Nat) (u v : St), JJ p l e room_1 s m args below meth c cells slots 4 D clA (wL z a b) A Q 438 (lvL a b b0 i) (u, v) []) :
    ∀ (n i : Nat) (u v : St), i ≤ L → L ≤ i + 4 * n → RelT u v → JJ p l e room_1 s m args below meth c cells slots 4 D clA (wL z a b) A Q 18 (lvL a b b0 i) (u, v) [] := by
  intro n
  induction n with
  | zero =>
    intro i u v hi hn h
    exact lw_step C hX hbl hbA hL hi h (fin i u v) (fun h4 => absurd h4 (by omega))
  | succ n ih =>
    intro i u v hi hn h
    exact lw_step C hX hbl hbA hL hi h (fin i u v) (fun h4 u1 v1 h1 => ih (i + 4) u1 v1 h4 (by omega) h1)
end LL

-- THE SMALL CONSTRUCTORS
def mvN (h q : Nat) : Nat × va_E := (h, .inr (1, [.ref q, .int 3, .int 0, .int 0, .int 0, .int 0, .int 0, .int 0, .int (-1)]))
theorem c_mvI (l : Launch) (D : va_G) (z : Nat → ClassId) (h : Nat) : CtN l yX1_init (.code yX1_init cX1_init 1 none :: TT) { frames := 1, cells := 1, slots := 7, locals := 40 } 1 7 D clA (tyl z) [.ref h] [(h, .inr (1, [.null, .int 0, .int 0, .int 0, .int 0, .int 0, .int 0, .int 0, .int 0]))] (fun w => ∃ q, w = [mvN h q, (q, .inl (z 0, 7, .inl jk_first))]) := by
  refine jk_metN (own := RX1) (by decide) rfl rfl (Nat.le_of_ble_eq_true rfl) ?_
  intro p e R s m args below meth c A Q B
  obtain ⟨C, hR, HT, hin, fin⟩ := B
  refine j_aload_n C 0 dX1_init_0 rfl ?_
  refine j_oi C hR (jk_3 qo_1 qs_o qk_o) (by decide) (by decide) dX1_init_1 ?_
  refine j_aload_n C 0 dX1_init_4 rfl ?_
  refine j_first C HT 0 rfl hR (jk_5 qm_1_13 qw_same qw_nat qs_clone qw_sel) (by decide) (by simp [Value.category]) (by decide) (by decide) dX1_init_5 dX1_init_8 ?_
  intro q
  have C1 := jk_up C (k := 0 + 1) (n := 0 + 7) (by rw [hR]; decide) (by rw [hR]; decide)
  refine j_castA C1 1 0 rfl rfl qc_1_14 dX1_init_11 ?_
  refine j_putF C1 hin kf_1 0 rfl 0 (by decide) lk_1_18 rfl rfl rfl rfl (Nat.le_of_ble_eq_true rfl) rfl dX1_init_14 ?_
  refine j_aload_n C1 0 dX1_init_17 rfl ?_
  refine j_iconst C1 3 dX1_init_18 ic_3 ?_
  refine j_put C1 kf_1 0 rfl 1 (by decide) lk_1_23 rfl rfl rfl (Nat.le_of_ble_eq_true rfl) rfl dX1_init_19 ?_
  refine j_aload_n C1 0 dX1_init_22 rfl ?_
  refine j_iconst C1 (-1) dX1_init_23 ic_m1 ?_
  refine j_put C1 kf_1 0 rfl 8 (by decide) lk_1_27 rfl rfl rfl (Nat.le_of_ble_eq_true rfl) rfl dX1_init_24 ?_
  exact fin _ _ _ _ _ dX1_init_27 (by decide) (by decide) ⟨q, rfl⟩
def rgN (h q : Nat) (x : Int32) : Nat × va_E := (h, .inr (2, [.int x, .ref q, .int (-1), .int 0, .int 0, .int 0, .int 0, .int (-1), .int 0, .int 0]))
theorem c_rgI (l : Launch) (D : va_G) (z : Nat → ClassId) (h : Nat) (x : Int32) : CtN l yX2_init (.code yX2_init cX2_init 2 none :: TT) { frames := 1, cells := 1, slots := 2, locals := 40 } 1 2 D clA (tyl z) [.ref h, .int x] [(h, .inr (2, [.int 0, .null, .int 0, .int 0, .int 0, .int 0, .int 0, .int 0, .int 0, .int 0]))] (fun w => ∃ q, w = [rgN h q x, (q, .inl (z 1, 2, .inl (fun _ => 0)))]) := by
  refine jk_metN (own := RX2) (by decide) rfl rfl (Nat.le_of_ble_eq_true rfl) ?_
  intro p e R s m args below meth c A Q B
  obtain ⟨C, hR, HT, hin, fin⟩ := B
  refine j_aload_n C 0 dX2_init_0 rfl ?_
  refine j_oi C hR (jk_3 qo_2 qs_o qk_o) (by decide) (by decide) dX2_init_1 ?_
  refine j_aload_n C 0 dX2_init_4 rfl ?_
  refine j_iload_n C 1 dX2_init_5 rfl ?_
  refine j_putF C hin kf_2 0 rfl 0 (by decide) lk_2_9 rfl rfl rfl rfl (Nat.le_of_ble_eq_true rfl) rfl dX2_init_6 ?_
  refine j_aload_n C 0 dX2_init_9 rfl ?_
  refine j_iconst C 2 dX2_init_10 ic_2 ?_
  refine j_newz C 1 rfl 2 (by decide) (by decide) (by decide) qa_boolean (by rw [hR]; decide) (by rw [hR]; decide) dX2_init_11 ?_
  intro q
  have C1 := jk_up C (k := 0 + 1) (n := 0 + 2) (by rw [hR]; decide) (by rw [hR]; decide)
  refine j_putF C1 hin kf_2 0 rfl 1 (by decide) lk_2_15 rfl rfl rfl rfl (Nat.le_of_ble_eq_true rfl) rfl dX2_init_13 ?_
  refine j_aload_n C1 0 dX2_init_16 rfl ?_
  refine j_iconst C1 (-1) dX2_init_17 ic_m1 ?_
  refine j_put C1 kf_2 0 rfl 2 (by decide) lk_2_19 rfl rfl rfl (Nat.le_of_ble_eq_true rfl) rfl dX2_init_18 ?_
  refine j_aload_n C1 0 dX2_init_21 rfl ?_
  refine j_iconst C1 0 dX2_init_22 ic_0 ?_
  refine j_put C1 kf_2 0 rfl 3 (by decide) lk_2_22 rfl rfl rfl (Nat.le_of_ble_eq_true rfl) rfl dX2_init_23 ?_
  refine j_aload_n C1 0 dX2_init_26 rfl ?_
  refine j_iconst C1 (-1) dX2_init_27 ic_m1 ?_
  refine j_put C1 kf_2 0 rfl 7 (by decide) lk_2_25 rfl rfl rfl (Nat.le_of_ble_eq_true rfl) rfl dX2_init_28 ?_
  exact fin _ _ _ _ _ dX2_init_31 (by decide) (by decide) ⟨q, rfl⟩
def gdN (h q r : Nat) : Nat × va_E := (h, .inr (0, [.ref q, .ref r, .int 0, .int 0]))
theorem c_gdI (l : Launch) (D : va_G) (z : Nat → ClassId) (h : Nat) : CtN l yX0_init (.code yX0_init cX0_init 1 none :: TT) { frames := 1, cells := 2, slots := 16, locals := 40 } 2 16 D clA (tyl z) [.ref h] [(h, .inr (0, [.null, .null, .int 0, .int 0]))] (fun w => ∃ q r, w = [gdN h q r, (q, .inl (z 0, 8, .inl (fun _ => 0))), (r, .inl (z 0, 8, .inl (fun _ => 0)))]) := by
  refine jk_metN (own := RX0) (by decide) rfl rfl (Nat.le_of_ble_eq_true rfl) ?_
  intro p e R s m args below meth c A Q B
  obtain ⟨C, hR, HT, hin, fin⟩ := B
  refine j_aload_n C 0 dX0_init_0 rfl ?_
  refine j_oi C hR (jk_3 qo_0 qs_o qk_o) (by decide) (by decide) dX0_init_1 ?_
  refine j_aload_n C 0 dX0_init_4 rfl ?_
  refine j_bipush C 8 dX0_init_5 bp_8 ?_
  refine j_newi C 0 rfl 8 (by decide) (by decide) (by decide) qa_int (by rw [hR]; decide) (by rw [hR]; decide) dX0_init_7 ?_
  intro q
  have C1 := jk_up C (k := 0 + 1) (n := 0 + 8) (by rw [hR]; decide) (by rw [hR]; decide)
  refine j_putF C1 hin kf_0 0 rfl 0 (by decide) lk_0_9 rfl rfl rfl rfl (Nat.le_of_ble_eq_true rfl) rfl dX0_init_9 ?_
  refine j_aload_n C1 0 dX0_init_12 rfl ?_
  refine j_bipush C1 8 dX0_init_13 bp_8 ?_
  refine j_newi C1 0 rfl 8 (by decide) (by decide) (by decide) qa_int (by rw [hR]; decide) (by rw [hR]; decide) dX0_init_15 ?_
  intro r
  have C2 := jk_up C (k := 0 + 1 + 1) (n := 0 + 8 + 8) (by rw [hR]; decide) (by rw [hR]; decide)
  refine j_putF C2 hin kf_0 0 rfl 1 (by decide) lk_0_15 rfl rfl rfl rfl (Nat.le_of_ble_eq_true rfl) rfl dX0_init_17 ?_
  exact fin _ _ _ _ _ dX0_init_20 (by decide) (by decide) ⟨q, r, rfl⟩

section WLK
variable {p : Program} {l : Launch} {e : Env} {R : Room} {s : State} {m : MethodId} {args : Array Value} {below : List Frame} {meth : Method} {c : Code} {D : va_G} {z : Nat → ClassId} {a : Nat → Nat} {A : Nat → Prop} {Q : State → Prop}
def rm_R_enter : Room := { frames := 0, cells := 0, slots := 0, locals := 0 }
def f_R_enter (u : St) (r : Nat) (x0 : Int32) : St := (up2 (up2 (up2 (up2 (up2 (up2 u 31 r x0) 32 r (0 : Int32)) 33 r (0 : Int32)) 34 r (0 : Int32)) 36 r (0 : Int32)) 37 r (0 : Int32))
set_option maxRecDepth 20000 in
set_option maxHeartbeats 1000000 in
theorem w_R_enter_0 {F : St} {u : St} (B : jk_BV p l e R s m args below meth c cX2_enter 2 RX2 TT D clA (tyl z) (cW z a) A Q rm_R_enter F) {r : Nat} (hr : r < 2) (x0 : Int32) (hE : f_R_enter u r x0 = F) : JJ p l e R s m args below meth c 0 0 2 D clA (cW z a) A Q 0 [(0, .ref (a (23 + r))), (1, .int x0)] u [] := by
  have C := B.1
  unfold f_R_enter at hE
  refine j_aload_n C 0 dX2_enter_0 rfl ?_
  refine j_iload_n C 1 dX2_enter_1 rfl ?_
  refine j_put C kf_2 (23 + r) (pl_rg hr) 3 (by decide) lk_2_22 rfl rfl rfl (Nat.le_of_ble_eq_true rfl) (pu_rg_phase hr) dX2_enter_2 ?_
  refine j_aload_n C 0 dX2_enter_5 rfl ?_
  refine j_iconst C 0 dX2_enter_6 ic_0 ?_
  refine j_put C kf_2 (23 + r) (pl_rg hr) 4 (by decide) lk_2_34 rfl rfl rfl (Nat.le_of_ble_eq_true rfl) (pu_rg_age hr) dX2_enter_7 ?_
  refine j_aload_n C 0 dX2_enter_10 rfl ?_
  refine j_iconst C 0 dX2_enter_11 ic_0 ?_
  refine j_put C kf_2 (23 + r) (pl_rg hr) 5 (by decide) lk_2_41 rfl rfl rfl (Nat.le_of_ble_eq_true rfl) (pu_rg_left hr) dX2_enter_12 ?_
  refine j_aload_n C 0 dX2_enter_15 rfl ?_
  refine j_iconst C 0 dX2_enter_16 ic_0 ?_
  refine j_put C kf_2 (23 + r) (pl_rg hr) 6 (by decide) lk_2_44 rfl rfl rfl (Nat.le_of_ble_eq_true rfl) (pu_rg_pressure hr) dX2_enter_17 ?_
  refine j_aload_n C 0 dX2_enter_20 rfl ?_
  refine j_iconst C 0 dX2_enter_21 ic_0 ?_
  refine j_put C kf_2 (23 + r) (pl_rg hr) 8 (by decide) lk_2_28 rfl rfl rfl (Nat.le_of_ble_eq_true rfl) (pu_rg_walkLeft hr) dX2_enter_22 ?_
  refine j_aload_n C 0 dX2_enter_25 rfl ?_
  refine j_iconst C 0 dX2_enter_26 ic_0 ?_
  refine j_put C kf_2 (23 + r) (pl_rg hr) 9 (by decide) lk_2_31 rfl rfl rfl (Nat.le_of_ble_eq_true rfl) (pu_rg_clearingLeft hr) dX2_enter_27 ?_
  exact B.2.2 _ _ _ dX2_enter_30 hE
theorem c_R_enter (l : Launch) (D : va_G) (z : Nat → ClassId) (a : Nat → Nat) (u : St) (r : Nat) (x0 : Int32) (hr : r < 2) : CtV l yX2_enter (.code yX2_enter cX2_enter 2 none :: TT) rm_R_enter D clA (tyl z) (cW z a) [.ref (a (23 + r)), .int x0] u (f_R_enter u r x0) :=
  jk_metV (own := RX2) (by decide) rfl (Nat.le_of_ble_eq_true rfl) (fun _ _ _ _ _ _ _ _ _ _ _ B => w_R_enter_0 B hr x0 rfl)
def rm_R_beginGreen : Room := { frames := 2, cells := 0, slots := 0, locals := 41 }
def f_R_beginGreen (u : St) (r : Nat) (k : Nat) : St := (if (f_M_wouldWalk (up2 (up2 (up2 (f_R_enter u r (1 : Int32)) 30 r ((f_R_enter u r (1 : Int32)) 35 r)) 35 r (-1 : Int32)) 33 r ((up2 (up2 (f_R_enter u r (1 : Int32)) 30 r ((f_R_enter u r (1 : Int32)) 35 r)) 35 r (-1 : Int32)) (20 + k) 1)) k) = (0 : Int32) then (up2 (up2 (up2 (f_R_enter u r (1 : Int32)) 30 r ((f_R_enter u r (1 : Int32)) 35 r)) 35 r (-1 : Int32)) 33 r ((up2 (up2 (f_R_enter u r (1 : Int32)) 30 r ((f_R_enter u r (1 : Int32)) 35 r)) 35 r (-1 : Int32)) (20 + k) 1)) else (up2 (up2 (up2 (up2 (up2 (f_R_enter u r (1 : Int32)) 30 r ((f_R_enter u r (1 : Int32)) 35 r)) 35 r (-1 : Int32)) 33 r ((up2 (up2 (f_R_enter u r (1 : Int32)) 30 r ((f_R_enter u r (1 : Int32)) 35 r)) 35 r (-1 : Int32)) (20 + k) 1)) 36 r ((up2 (up2 (up2 (f_R_enter u r (1 : Int32)) 30 r ((f_R_enter u r (1 : Int32)) 35 r)) 35 r (-1 : Int32)) 33 r ((up2 (up2 (f_R_enter u r (1 : Int32)) 30 r ((f_R_enter u r (1 : Int32)) 35 r)) 35 r (-1 : Int32)) (20 + k) 1)) (20 + k) 5)) 37 r ((up2 (up2 (up2 (up2 (f_R_enter u r (1 : Int32)) 30 r ((f_R_enter u r (1 : Int32)) 35 r)) 35 r (-1 : Int32)) 33 r ((up2 (up2 (f_R_enter u r (1 : Int32)) 30 r ((f_R_enter u r (1 : Int32)) 35 r)) 35 r (-1 : Int32)) (20 + k) 1)) 36 r ((up2 (up2 (up2 (f_R_enter u r (1 : Int32)) 30 r ((f_R_enter u r (1 : Int32)) 35 r)) 35 r (-1 : Int32)) 33 r ((up2 (up2 (f_R_enter u r (1 : Int32)) 30 r ((f_R_enter u r (1 : Int32)) 35 r)) 35 r (-1 : Int32)) (20 + k) 1)) (20 + k) 5)) (20 + k) 6)))
set_option maxRecDepth 20000 in
set_option maxHeartbeats 1000000 in
theorem w_R_beginGreen_0 {F : St} {u : St} (B : jk_BV p l e R s m args below meth c cX2_beginGreen 2 RX2 TT D clA (tyl z) (cW z a) A Q rm_R_beginGreen F) {r : Nat} (hr : r < 2) {k : Nat} (hk : k < 8) (hE : f_R_beginGreen u r k = F) : JJ p l e R s m args below meth c 0 0 2 D clA (cW z a) A Q 0 [(0, .ref (a (23 + r))), (1, .ref (a (7 + k)))] u [] := by
  have C := B.1
  unfold f_R_beginGreen at hE
  refine j_aload_n C 0 dX2_beginGreen_0 rfl ?_
  refine j_iconst C 1 dX2_beginGreen_1 ic_1 ?_
  refine j_cVV C B.2.1 (c_R_enter l D z a u r (1 : Int32) hr) gv_2_47 dd_R_enter ⟨⟨rfl, rfl⟩, Nat.le_of_ble_eq_true rfl, Nat.le_of_ble_eq_true rfl⟩ (23 + r) 2 (pl_rg hr) rfl rfl rfl rfl (Nat.le_of_ble_eq_true rfl) dX2_beginGreen_2 ?_
  refine j_aload_n C 0 dX2_beginGreen_5 rfl ?_
  refine j_aload_n C 0 dX2_beginGreen_6 rfl ?_
  refine j_get C kf_2 (23 + r) (pl_rg hr) 7 (by decide) lk_2_25 rfl dX2_beginGreen_7 ?_
  refine j_put C kf_2 (23 + r) (pl_rg hr) 2 (by decide) lk_2_19 rfl rfl rfl (Nat.le_of_ble_eq_true rfl) (pu_rg_movement hr) dX2_beginGreen_10 ?_
  refine j_aload_n C 0 dX2_beginGreen_13 rfl ?_
  refine j_iconst C (-1) dX2_beginGreen_14 ic_m1 ?_
  refine j_put C kf_2 (23 + r) (pl_rg hr) 7 (by decide) lk_2_25 rfl rfl rfl (Nat.le_of_ble_eq_true rfl) (pu_rg_next hr) dX2_beginGreen_15 ?_
  refine j_aload_n C 0 dX2_beginGreen_18 rfl ?_
  refine j_aload_n C 1 dX2_beginGreen_19 rfl ?_
  refine j_get C kf_1 (7 + k) (pl_mv hk) 0 (by decide) lk_2_51 rfl dX2_beginGreen_20 ?_
  refine j_iconst C 1 dX2_beginGreen_23 ic_1 ?_
  refine j_iald C (15 + k) 0 (pl_times hk) rfl 1 ix_1 (by decide) (by decide) dX2_beginGreen_24 ?_
  refine j_put C kf_2 (23 + r) (pl_rg hr) 5 (by decide) lk_2_41 rfl rfl rfl (Nat.le_of_ble_eq_true rfl) (pu_rg_left hr) dX2_beginGreen_25 ?_
  refine j_aload_n C 1 dX2_beginGreen_28 rfl ?_
  refine j_cIV C B.2.1 (c_M_wouldWalk l D z a (up2 (up2 (up2 (f_R_enter u r (1 : Int32)) 30 r ((f_R_enter u r (1 : Int32)) 35 r)) 35 r (-1 : Int32)) 33 r ((up2 (up2 (f_R_enter u r (1 : Int32)) 30 r ((f_R_enter u r (1 : Int32)) 35 r)) 35 r (-1 : Int32)) (20 + k) 1)) k hk) gv_2_57 dd_M_wouldWalk ⟨⟨rfl, rfl⟩, Nat.le_of_ble_eq_true rfl, Nat.le_of_ble_eq_true rfl⟩ (7 + k) 1 (pl_mv hk) rfl rfl rfl rfl (Nat.le_of_ble_eq_true rfl) dX2_beginGreen_29 ?_
  refine j_if_eq C 56 dX2_beginGreen_32 (by decide) (fun c1 => ?_) (fun c1 => ?_)
  · have hE := (if_pos c1).symm.trans hE
    exact B.2.2 _ _ _ dX2_beginGreen_56 hE
  · have hE := (if_neg c1).symm.trans hE
    refine j_aload_n C 0 dX2_beginGreen_35 rfl ?_
    refine j_aload_n C 1 dX2_beginGreen_36 rfl ?_
    refine j_get C kf_1 (7 + k) (pl_mv hk) 0 (by decide) lk_2_51 rfl dX2_beginGreen_37 ?_
    refine j_iconst C 5 dX2_beginGreen_40 ic_5 ?_
    refine j_iald C (15 + k) 0 (pl_times hk) rfl 5 ix_5 (by decide) (by decide) dX2_beginGreen_41 ?_
    refine j_put C kf_2 (23 + r) (pl_rg hr) 8 (by decide) lk_2_28 rfl rfl rfl (Nat.le_of_ble_eq_true rfl) (pu_rg_walkLeft hr) dX2_beginGreen_42 ?_
    refine j_aload_n C 0 dX2_beginGreen_45 rfl ?_
    refine j_aload_n C 1 dX2_beginGreen_46 rfl ?_
    refine j_get C kf_1 (7 + k) (pl_mv hk) 0 (by decide) lk_2_51 rfl dX2_beginGreen_47 ?_
    refine j_bipush C 6 dX2_beginGreen_50 bp_6 ?_
    refine j_iald C (15 + k) 0 (pl_times hk) rfl 6 ix_6 (by decide) (by decide) dX2_beginGreen_52 ?_
    refine j_put C kf_2 (23 + r) (pl_rg hr) 9 (by decide) lk_2_31 rfl rfl rfl (Nat.le_of_ble_eq_true rfl) (pu_rg_clearingLeft hr) dX2_beginGreen_53 ?_
    exact B.2.2 _ _ _ dX2_beginGreen_56 hE
theorem c_R_beginGreen (l : Launch) (D : va_G) (z : Nat → ClassId) (a : Nat → Nat) (u : St) (r : Nat) (k : Nat) (hr : r < 2) (hk : k < 8) : CtV l yX2_beginGreen (.code yX2_beginGreen cX2_beginGreen 2 none :: TT) rm_R_beginGreen D clA (tyl z) (cW z a) [.ref (a (23 + r)), .ref (a (7 + k))] u (f_R_beginGreen u r k) :=
  jk_metV (own := RX2) (by decide) rfl (Nat.le_of_ble_eq_true rfl) (fun _ _ _ _ _ _ _ _ _ _ _ B => w_R_beginGreen_0 B hr hk rfl)
def rm_R_advanceGreen : Room := { frames := 1, cells := 0, slots := 0, locals := 21 }
def f_R_advanceGreen (u : St) (r : Nat) (k : Nat) (b0 : Int32) : St := (if ((up2 u 32 r ((u 32 r) + (1 : Int32))) 11 k) = (0 : Int32) then (if (f_M_has (up2 u 32 r ((u 32 r) + (1 : Int32))) k (8 : Int32)) = (0 : Int32) then (if b0 = (0 : Int32) then (if ((up2 (up2 (up2 u 32 r ((u 32 r) + (1 : Int32))) 33 r (if (((up2 u 32 r ((u 32 r) + (1 : Int32))) 33 r) - (1 : Int32)) < (0 : Int32) then (0 : Int32) else (((up2 u 32 r ((u 32 r) + (1 : Int32))) 33 r) - (1 : Int32)))) 34 r (0 : Int32)) 36 r) ≤ (0 : Int32) then (if ((up2 (up2 (up2 u 32 r ((u 32 r) + (1 : Int32))) 33 r (if (((up2 u 32 r ((u 32 r) + (1 : Int32))) 33 r) - (1 : Int32)) < (0 : Int32) then (0 : Int32) else (((up2 u 32 r ((u 32 r) + (1 : Int32))) 33 r) - (1 : Int32)))) 34 r (0 : Int32)) 37 r) ≤ (0 : Int32) then (up2 (up2 (up2 u 32 r ((u 32 r) + (1 : Int32))) 33 r (if (((up2 u 32 r ((u 32 r) + (1 : Int32))) 33 r) - (1 : Int32)) < (0 : Int32) then (0 : Int32) else (((up2 u 32 r ((u 32 r) + (1 : Int32))) 33 r) - (1 : Int32)))) 34 r (0 : Int32)) else (up2 (up2 (up2 (up2 u 32 r ((u 32 r) + (1 : Int32))) 33 r (if (((up2 u 32 r ((u 32 r) + (1 : Int32))) 33 r) - (1 : Int32)) < (0 : Int32) then (0 : Int32) else (((up2 u 32 r ((u 32 r) + (1 : Int32))) 33 r) - (1 : Int32)))) 34 r (0 : Int32)) 37 r (((up2 (up2 (up2 u 32 r ((u 32 r) + (1 : Int32))) 33 r (if (((up2 u 32 r ((u 32 r) + (1 : Int32))) 33 r) - (1 : Int32)) < (0 : Int32) then (0 : Int32) else (((up2 u 32 r ((u 32 r) + (1 : Int32))) 33 r) - (1 : Int32)))) 34 r (0 : Int32)) 37 r) - (1 : Int32)))) else (up2 (up2 (up2 (up2 u 32 r ((u 32 r) + (1 : Int32))) 33 r (if (((up2 u 32 r ((u 32 r) + (1 : Int32))) 33 r) - (1 : Int32)) < (0 : Int32) then (0 : Int32) else (((up2 u 32 r ((u 32 r) + (1 : Int32))) 33 r) - (1 : Int32)))) 34 r (0 : Int32)) 36 r (((up2 (up2 (up2 u 32 r ((u 32 r) + (1 : Int32))) 33 r (if (((up2 u 32 r ((u 32 r) + (1 : Int32))) 33 r) - (1 : Int32)) < (0 : Int32) then (0 : Int32) else (((up2 u 32 r ((u 32 r) + (1 : Int32))) 33 r) - (1 : Int32)))) 34 r (0 : Int32)) 36 r) - (1 : Int32)))) else (if ((up2 (up2 (up2 u 32 r ((u 32 r) + (1 : Int32))) 33 r (if (((up2 u 32 r ((u 32 r) + (1 : Int32))) 33 r) - (1 : Int32)) < (0 : Int32) then (0 : Int32) else (((up2 u 32 r ((u 32 r) + (1 : Int32))) 33 r) - (1 : Int32)))) 34 r (((up2 (up2 u 32 r ((u 32 r) + (1 : Int32))) 33 r (if (((up2 u 32 r ((u 32 r) + (1 : Int32))) 33 r) - (1 : Int32)) < (0 : Int32) then (0 : Int32) else (((up2 u 32 r ((u 32 r) + (1 : Int32))) 33 r) - (1 : Int32)))) 34 r) + (1 : Int32))) 36 r) ≤ (0 : Int32) then (if ((up2 (up2 (up2 u 32 r ((u 32 r) + (1 : Int32))) 33 r (if (((up2 u 32 r ((u 32 r) + (1 : Int32))) 33 r) - (1 : Int32)) < (0 : Int32) then (0 : Int32) else (((up2 u 32 r ((u 32 r) + (1 : Int32))) 33 r) - (1 : Int32)))) 34 r (((up2 (up2 u 32 r ((u 32 r) + (1 : Int32))) 33 r (if (((up2 u 32 r ((u 32 r) + (1 : Int32))) 33 r) - (1 : Int32)) < (0 : Int32) then (0 : Int32) else (((up2 u 32 r ((u 32 r) + (1 : Int32))) 33 r) - (1 : Int32)))) 34 r) + (1 : Int32))) 37 r) ≤ (0 : Int32) then (up2 (up2 (up2 u 32 r ((u 32 r) + (1 : Int32))) 33 r (if (((up2 u 32 r ((u 32 r) + (1 : Int32))) 33 r) - (1 : Int32)) < (0 : Int32) then (0 : Int32) else (((up2 u 32 r ((u 32 r) + (1 : Int32))) 33 r) - (1 : Int32)))) 34 r (((up2 (up2 u 32 r ((u 32 r) + (1 : Int32))) 33 r (if (((up2 u 32 r ((u 32 r) + (1 : Int32))) 33 r) - (1 : Int32)) < (0 : Int32) then (0 : Int32) else (((up2 u 32 r ((u 32 r) + (1 : Int32))) 33 r) - (1 : Int32)))) 34 r) + (1 : Int32))) else (up2 (up2 (up2 (up2 u 32 r ((u 32 r) + (1 : Int32))) 33 r (if (((up2 u 32 r ((u 32 r) + (1 : Int32))) 33 r) - (1 : Int32)) < (0 : Int32) then (0 : Int32) else (((up2 u 32 r ((u 32 r) + (1 : Int32))) 33 r) - (1 : Int32)))) 34 r (((up2 (up2 u 32 r ((u 32 r) + (1 : Int32))) 33 r (if (((up2 u 32 r ((u 32 r) + (1 : Int32))) 33 r) - (1 : Int32)) < (0 : Int32) then (0 : Int32) else (((up2 u 32 r ((u 32 r) + (1 : Int32))) 33 r) - (1 : Int32)))) 34 r) + (1 : Int32))) 37 r (((up2 (up2 (up2 u 32 r ((u 32 r) + (1 : Int32))) 33 r (if (((up2 u 32 r ((u 32 r) + (1 : Int32))) 33 r) - (1 : Int32)) < (0 : Int32) then (0 : Int32) else (((up2 u 32 r ((u 32 r) + (1 : Int32))) 33 r) - (1 : Int32)))) 34 r (((up2 (up2 u 32 r ((u 32 r) + (1 : Int32))) 33 r (if (((up2 u 32 r ((u 32 r) + (1 : Int32))) 33 r) - (1 : Int32)) < (0 : Int32) then (0 : Int32) else (((up2 u 32 r ((u 32 r) + (1 : Int32))) 33 r) - (1 : Int32)))) 34 r) + (1 : Int32))) 37 r) - (1 : Int32)))) else (up2 (up2 (up2 (up2 u 32 r ((u 32 r) + (1 : Int32))) 33 r (if (((up2 u 32 r ((u 32 r) + (1 : Int32))) 33 r) - (1 : Int32)) < (0 : Int32) then (0 : Int32) else (((up2 u 32 r ((u 32 r) + (1 : Int32))) 33 r) - (1 : Int32)))) 34 r (((up2 (up2 u 32 r ((u 32 r) + (1 : Int32))) 33 r (if (((up2 u 32 r ((u 32 r) + (1 : Int32))) 33 r) - (1 : Int32)) < (0 : Int32) then (0 : Int32) else (((up2 u 32 r ((u 32 r) + (1 : Int32))) 33 r) - (1 : Int32)))) 34 r) + (1 : Int32))) 36 r (((up2 (up2 (up2 u 32 r ((u 32 r) + (1 : Int32))) 33 r (if (((up2 u 32 r ((u 32 r) + (1 : Int32))) 33 r) - (1 : Int32)) < (0 : Int32) then (0 : Int32) else (((up2 u 32 r ((u 32 r) + (1 : Int32))) 33 r) - (1 : Int32)))) 34 r (((up2 (up2 u 32 r ((u 32 r) + (1 : Int32))) 33 r (if (((up2 u 32 r ((u 32 r) + (1 : Int32))) 33 r) - (1 : Int32)) < (0 : Int32) then (0 : Int32) else (((up2 u 32 r ((u 32 r) + (1 : Int32))) 33 r) - (1 : Int32)))) 34 r) + (1 : Int32))) 36 r) - (1 : Int32))))) else (if b0 = (0 : Int32) then (if ((up2 (up2 (up2 u 32 r ((u 32 r) + (1 : Int32))) 33 r ((up2 u 32 r ((u 32 r) + (1 : Int32))) (20 + k) 1)) 34 r (0 : Int32)) 36 r) ≤ (0 : Int32) then (if ((up2 (up2 (up2 u 32 r ((u 32 r) + (1 : Int32))) 33 r ((up2 u 32 r ((u 32 r) + (1 : Int32))) (20 + k) 1)) 34 r (0 : Int32)) 37 r) ≤ (0 : Int32) then (up2 (up2 (up2 u 32 r ((u 32 r) + (1 : Int32))) 33 r ((up2 u 32 r ((u 32 r) + (1 : Int32))) (20 + k) 1)) 34 r (0 : Int32)) else (up2 (up2 (up2 (up2 u 32 r ((u 32 r) + (1 : Int32))) 33 r ((up2 u 32 r ((u 32 r) + (1 : Int32))) (20 + k) 1)) 34 r (0 : Int32)) 37 r (((up2 (up2 (up2 u 32 r ((u 32 r) + (1 : Int32))) 33 r ((up2 u 32 r ((u 32 r) + (1 : Int32))) (20 + k) 1)) 34 r (0 : Int32)) 37 r) - (1 : Int32)))) else (up2 (up2 (up2 (up2 u 32 r ((u 32 r) + (1 : Int32))) 33 r ((up2 u 32 r ((u 32 r) + (1 : Int32))) (20 + k) 1)) 34 r (0 : Int32)) 36 r (((up2 (up2 (up2 u 32 r ((u 32 r) + (1 : Int32))) 33 r ((up2 u 32 r ((u 32 r) + (1 : Int32))) (20 + k) 1)) 34 r (0 : Int32)) 36 r) - (1 : Int32)))) else (if ((up2 (up2 (up2 u 32 r ((u 32 r) + (1 : Int32))) 33 r ((up2 u 32 r ((u 32 r) + (1 : Int32))) (20 + k) 1)) 34 r (((up2 (up2 u 32 r ((u 32 r) + (1 : Int32))) 33 r ((up2 u 32 r ((u 32 r) + (1 : Int32))) (20 + k) 1)) 34 r) + (1 : Int32))) 36 r) ≤ (0 : Int32) then (if ((up2 (up2 (up2 u 32 r ((u 32 r) + (1 : Int32))) 33 r ((up2 u 32 r ((u 32 r) + (1 : Int32))) (20 + k) 1)) 34 r (((up2 (up2 u 32 r ((u 32 r) + (1 : Int32))) 33 r ((up2 u 32 r ((u 32 r) + (1 : Int32))) (20 + k) 1)) 34 r) + (1 : Int32))) 37 r) ≤ (0 : Int32) then (up2 (up2 (up2 u 32 r ((u 32 r) + (1 : Int32))) 33 r ((up2 u 32 r ((u 32 r) + (1 : Int32))) (20 + k) 1)) 34 r (((up2 (up2 u 32 r ((u 32 r) + (1 : Int32))) 33 r ((up2 u 32 r ((u 32 r) + (1 : Int32))) (20 + k) 1)) 34 r) + (1 : Int32))) else (up2 (up2 (up2 (up2 u 32 r ((u 32 r) + (1 : Int32))) 33 r ((up2 u 32 r ((u 32 r) + (1 : Int32))) (20 + k) 1)) 34 r (((up2 (up2 u 32 r ((u 32 r) + (1 : Int32))) 33 r ((up2 u 32 r ((u 32 r) + (1 : Int32))) (20 + k) 1)) 34 r) + (1 : Int32))) 37 r (((up2 (up2 (up2 u 32 r ((u 32 r) + (1 : Int32))) 33 r ((up2 u 32 r ((u 32 r) + (1 : Int32))) (20 + k) 1)) 34 r (((up2 (up2 u 32 r ((u 32 r) + (1 : Int32))) 33 r ((up2 u 32 r ((u 32 r) + (1 : Int32))) (20 + k) 1)) 34 r) + (1 : Int32))) 37 r) - (1 : Int32)))) else (up2 (up2 (up2 (up2 u 32 r ((u 32 r) + (1 : Int32))) 33 r ((up2 u 32 r ((u 32 r) + (1 : Int32))) (20 + k) 1)) 34 r (((up2 (up2 u 32 r ((u 32 r) + (1 : Int32))) 33 r ((up2 u 32 r ((u 32 r) + (1 : Int32))) (20 + k) 1)) 34 r) + (1 : Int32))) 36 r (((up2 (up2 (up2 u 32 r ((u 32 r) + (1 : Int32))) 33 r ((up2 u 32 r ((u 32 r) + (1 : Int32))) (20 + k) 1)) 34 r (((up2 (up2 u 32 r ((u 32 r) + (1 : Int32))) 33 r ((up2 u 32 r ((u 32 r) + (1 : Int32))) (20 + k) 1)) 34 r) + (1 : Int32))) 36 r) - (1 : Int32)))))) else (if b0 = (0 : Int32) then (if ((up2 (up2 (up2 u 32 r ((u 32 r) + (1 : Int32))) 33 r ((up2 u 32 r ((u 32 r) + (1 : Int32))) (20 + k) 1)) 34 r (0 : Int32)) 36 r) ≤ (0 : Int32) then (if ((up2 (up2 (up2 u 32 r ((u 32 r) + (1 : Int32))) 33 r ((up2 u 32 r ((u 32 r) + (1 : Int32))) (20 + k) 1)) 34 r (0 : Int32)) 37 r) ≤ (0 : Int32) then (up2 (up2 (up2 u 32 r ((u 32 r) + (1 : Int32))) 33 r ((up2 u 32 r ((u 32 r) + (1 : Int32))) (20 + k) 1)) 34 r (0 : Int32)) else (up2 (up2 (up2 (up2 u 32 r ((u 32 r) + (1 : Int32))) 33 r ((up2 u 32 r ((u 32 r) + (1 : Int32))) (20 + k) 1)) 34 r (0 : Int32)) 37 r (((up2 (up2 (up2 u 32 r ((u 32 r) + (1 : Int32))) 33 r ((up2 u 32 r ((u 32 r) + (1 : Int32))) (20 + k) 1)) 34 r (0 : Int32)) 37 r) - (1 : Int32)))) else (up2 (up2 (up2 (up2 u 32 r ((u 32 r) + (1 : Int32))) 33 r ((up2 u 32 r ((u 32 r) + (1 : Int32))) (20 + k) 1)) 34 r (0 : Int32)) 36 r (((up2 (up2 (up2 u 32 r ((u 32 r) + (1 : Int32))) 33 r ((up2 u 32 r ((u 32 r) + (1 : Int32))) (20 + k) 1)) 34 r (0 : Int32)) 36 r) - (1 : Int32)))) else (if ((up2 (up2 (up2 u 32 r ((u 32 r) + (1 : Int32))) 33 r ((up2 u 32 r ((u 32 r) + (1 : Int32))) (20 + k) 1)) 34 r (((up2 (up2 u 32 r ((u 32 r) + (1 : Int32))) 33 r ((up2 u 32 r ((u 32 r) + (1 : Int32))) (20 + k) 1)) 34 r) + (1 : Int32))) 36 r) ≤ (0 : Int32) then (if ((up2 (up2 (up2 u 32 r ((u 32 r) + (1 : Int32))) 33 r ((up2 u 32 r ((u 32 r) + (1 : Int32))) (20 + k) 1)) 34 r (((up2 (up2 u 32 r ((u 32 r) + (1 : Int32))) 33 r ((up2 u 32 r ((u 32 r) + (1 : Int32))) (20 + k) 1)) 34 r) + (1 : Int32))) 37 r) ≤ (0 : Int32) then (up2 (up2 (up2 u 32 r ((u 32 r) + (1 : Int32))) 33 r ((up2 u 32 r ((u 32 r) + (1 : Int32))) (20 + k) 1)) 34 r (((up2 (up2 u 32 r ((u 32 r) + (1 : Int32))) 33 r ((up2 u 32 r ((u 32 r) + (1 : Int32))) (20 + k) 1)) 34 r) + (1 : Int32))) else (up2 (up2 (up2 (up2 u 32 r ((u 32 r) + (1 : Int32))) 33 r ((up2 u 32 r ((u 32 r) + (1 : Int32))) (20 + k) 1)) 34 r (((up2 (up2 u 32 r ((u 32 r) + (1 : Int32))) 33 r ((up2 u 32 r ((u 32 r) + (1 : Int32))) (20 + k) 1)) 34 r) + (1 : Int32))) 37 r (((up2 (up2 (up2 u 32 r ((u 32 r) + (1 : Int32))) 33 r ((up2 u 32 r ((u 32 r) + (1 : Int32))) (20 + k) 1)) 34 r (((up2 (up2 u 32 r ((u 32 r) + (1 : Int32))) 33 r ((up2 u 32 r ((u 32 r) + (1 : Int32))) (20 + k) 1)) 34 r) + (1 : Int32))) 37 r) - (1 : Int32)))) else (up2 (up2 (up2 (up2 u 32 r ((u 32 r) + (1 : Int32))) 33 r ((up2 u 32 r ((u 32 r) + (1 : Int32))) (20 + k) 1)) 34 r (((up2 (up2 u 32 r ((u 32 r) + (1 : Int32))) 33 r ((up2 u 32 r ((u 32 r) + (1 : Int32))) (20 + k) 1)) 34 r) + (1 : Int32))) 36 r (((up2 (up2 (up2 u 32 r ((u 32 r) + (1 : Int32))) 33 r ((up2 u 32 r ((u 32 r) + (1 : Int32))) (20 + k) 1)) 34 r (((up2 (up2 u 32 r ((u 32 r) + (1 : Int32))) 33 r ((up2 u 32 r ((u 32 r) + (1 : Int32))) (20 + k) 1)) 34 r) + (1 : Int32))) 36 r) - (1 : Int32))))))
set_option maxRecDepth 20000 in
set_option maxHeartbeats 1000000 in
theorem w_R_advanceGreen_0 {F : St} {u : St} (B : jk_BV p l e R s m args below meth c cX2_advanceGreen 3 RX2 TT D clA (tyl z) (cW z a) A Q rm_R_advanceGreen F) {r : Nat} (hr : r < 2) {k : Nat} (hk : k < 8) (b0 : Int32) (hE : f_R_advanceGreen u r k b0 = F) : JJ p l e R s m args below meth c 0 0 3 D clA (cW z a) A Q 0 [(0, .ref (a (23 + r))), (1, .ref (a (7 + k))), (2, .int b0)] u [] := by
  have C := B.1
  unfold f_R_advanceGreen at hE
  refine j_aload_n C 0 dX2_advanceGreen_0 rfl ?_
  refine j_dup C dX2_advanceGreen_1 rfl ?_
  refine j_get C kf_2 (23 + r) (pl_rg hr) 4 (by decide) lk_2_34 rfl dX2_advanceGreen_2 ?_
  refine j_iconst C 1 dX2_advanceGreen_5 ic_1 ?_
  refine j_iadd C dX2_advanceGreen_6 ?_
  refine j_put C kf_2 (23 + r) (pl_rg hr) 4 (by decide) lk_2_34 rfl rfl rfl (Nat.le_of_ble_eq_true rfl) (pu_rg_age hr) dX2_advanceGreen_7 ?_
  refine j_aload_n C 1 dX2_advanceGreen_10 rfl ?_
  refine j_get C kf_1 (7 + k) (pl_mv hk) 2 (by decide) lk_2_61 rfl dX2_advanceGreen_11 ?_
  refine j_if_ne C 26 dX2_advanceGreen_14 (by decide) (fun c1 => ?_) (fun c1 => ?_)
  · have hE := (if_neg c1).symm.trans hE
    refine j_aload_n C 0 dX2_advanceGreen_26 rfl ?_
    refine j_aload_n C 1 dX2_advanceGreen_27 rfl ?_
    refine j_get C kf_1 (7 + k) (pl_mv hk) 0 (by decide) lk_2_51 rfl dX2_advanceGreen_28 ?_
    refine j_iconst C 1 dX2_advanceGreen_31 ic_1 ?_
    refine j_iald C (15 + k) 0 (pl_times hk) rfl 1 ix_1 (by decide) (by decide) dX2_advanceGreen_32 ?_
    refine j_put C kf_2 (23 + r) (pl_rg hr) 5 (by decide) lk_2_41 rfl rfl rfl (Nat.le_of_ble_eq_true rfl) (pu_rg_left hr) dX2_advanceGreen_33 ?_
    refine j_goto C 53 dX2_advanceGreen_36 (by decide) ?_
    refine j_aload_n C 0 dX2_advanceGreen_53 rfl ?_
    refine j_iload_n C 2 dX2_advanceGreen_54 rfl ?_
    refine j_if_eq C 67 dX2_advanceGreen_55 (by decide) (fun c2 => ?_) (fun c2 => ?_)
    · have hE := (if_pos c2).symm.trans hE
      refine j_iconst C 0 dX2_advanceGreen_67 ic_0 ?_
      refine j_put C kf_2 (23 + r) (pl_rg hr) 6 (by decide) lk_2_44 rfl rfl rfl (Nat.le_of_ble_eq_true rfl) (pu_rg_pressure hr) dX2_advanceGreen_68 ?_
      refine j_aload_n C 0 dX2_advanceGreen_71 rfl ?_
      refine j_get C kf_2 (23 + r) (pl_rg hr) 8 (by decide) lk_2_28 rfl dX2_advanceGreen_72 ?_
      refine j_if_le C 91 dX2_advanceGreen_75 (by decide) (fun c3 => ?_) (fun c3 => ?_)
      · have hE := (if_pos c3).symm.trans hE
        refine j_aload_n C 0 dX2_advanceGreen_91 rfl ?_
        refine j_get C kf_2 (23 + r) (pl_rg hr) 9 (by decide) lk_2_31 rfl dX2_advanceGreen_92 ?_
        refine j_if_le C 108 dX2_advanceGreen_95 (by decide) (fun c4 => ?_) (fun c4 => ?_)
        · have hE := (if_pos c4).symm.trans hE
          exact B.2.2 _ _ _ dX2_advanceGreen_108 hE
        · have hE := (if_neg c4).symm.trans hE
          refine j_aload_n C 0 dX2_advanceGreen_98 rfl ?_
          refine j_dup C dX2_advanceGreen_99 rfl ?_
          refine j_get C kf_2 (23 + r) (pl_rg hr) 9 (by decide) lk_2_31 rfl dX2_advanceGreen_100 ?_
          refine j_iconst C 1 dX2_advanceGreen_103 ic_1 ?_
          refine j_isub C dX2_advanceGreen_104 ?_
          refine j_put C kf_2 (23 + r) (pl_rg hr) 9 (by decide) lk_2_31 rfl rfl rfl (Nat.le_of_ble_eq_true rfl) (pu_rg_clearingLeft hr) dX2_advanceGreen_105 ?_
          exact B.2.2 _ _ _ dX2_advanceGreen_108 hE
      · have hE := (if_neg c3).symm.trans hE
        refine j_aload_n C 0 dX2_advanceGreen_78 rfl ?_
        refine j_dup C dX2_advanceGreen_79 rfl ?_
        refine j_get C kf_2 (23 + r) (pl_rg hr) 8 (by decide) lk_2_28 rfl dX2_advanceGreen_80 ?_
        refine j_iconst C 1 dX2_advanceGreen_83 ic_1 ?_
        refine j_isub C dX2_advanceGreen_84 ?_
        refine j_put C kf_2 (23 + r) (pl_rg hr) 8 (by decide) lk_2_28 rfl rfl rfl (Nat.le_of_ble_eq_true rfl) (pu_rg_walkLeft hr) dX2_advanceGreen_85 ?_
        refine j_goto C 108 dX2_advanceGreen_88 (by decide) ?_
        exact B.2.2 _ _ _ dX2_advanceGreen_108 hE
    · have hE := (if_neg c2).symm.trans hE
      refine j_aload_n C 0 dX2_advanceGreen_58 rfl ?_
      refine j_get C kf_2 (23 + r) (pl_rg hr) 6 (by decide) lk_2_44 rfl dX2_advanceGreen_59 ?_
      refine j_iconst C 1 dX2_advanceGreen_62 ic_1 ?_
      refine j_iadd C dX2_advanceGreen_63 ?_
      refine j_goto C 68 dX2_advanceGreen_64 (by decide) ?_
      refine j_put C kf_2 (23 + r) (pl_rg hr) 6 (by decide) lk_2_44 rfl rfl rfl (Nat.le_of_ble_eq_true rfl) (pu_rg_pressure hr) dX2_advanceGreen_68 ?_
      refine j_aload_n C 0 dX2_advanceGreen_71 rfl ?_
      refine j_get C kf_2 (23 + r) (pl_rg hr) 8 (by decide) lk_2_28 rfl dX2_advanceGreen_72 ?_
      refine j_if_le C 91 dX2_advanceGreen_75 (by decide) (fun c5 => ?_) (fun c5 => ?_)
      · have hE := (if_pos c5).symm.trans hE
        refine j_aload_n C 0 dX2_advanceGreen_91 rfl ?_
        refine j_get C kf_2 (23 + r) (pl_rg hr) 9 (by decide) lk_2_31 rfl dX2_advanceGreen_92 ?_
        refine j_if_le C 108 dX2_advanceGreen_95 (by decide) (fun c6 => ?_) (fun c6 => ?_)
        · have hE := (if_pos c6).symm.trans hE
          exact B.2.2 _ _ _ dX2_advanceGreen_108 hE
        · have hE := (if_neg c6).symm.trans hE
          refine j_aload_n C 0 dX2_advanceGreen_98 rfl ?_
          refine j_dup C dX2_advanceGreen_99 rfl ?_
          refine j_get C kf_2 (23 + r) (pl_rg hr) 9 (by decide) lk_2_31 rfl dX2_advanceGreen_100 ?_
          refine j_iconst C 1 dX2_advanceGreen_103 ic_1 ?_
          refine j_isub C dX2_advanceGreen_104 ?_
          refine j_put C kf_2 (23 + r) (pl_rg hr) 9 (by decide) lk_2_31 rfl rfl rfl (Nat.le_of_ble_eq_true rfl) (pu_rg_clearingLeft hr) dX2_advanceGreen_105 ?_
          exact B.2.2 _ _ _ dX2_advanceGreen_108 hE
      · have hE := (if_neg c5).symm.trans hE
        refine j_aload_n C 0 dX2_advanceGreen_78 rfl ?_
        refine j_dup C dX2_advanceGreen_79 rfl ?_
        refine j_get C kf_2 (23 + r) (pl_rg hr) 8 (by decide) lk_2_28 rfl dX2_advanceGreen_80 ?_
        refine j_iconst C 1 dX2_advanceGreen_83 ic_1 ?_
        refine j_isub C dX2_advanceGreen_84 ?_
        refine j_put C kf_2 (23 + r) (pl_rg hr) 8 (by decide) lk_2_28 rfl rfl rfl (Nat.le_of_ble_eq_true rfl) (pu_rg_walkLeft hr) dX2_advanceGreen_85 ?_
        refine j_goto C 108 dX2_advanceGreen_88 (by decide) ?_
        exact B.2.2 _ _ _ dX2_advanceGreen_108 hE
  · have hE := (if_pos c1).symm.trans hE
    refine j_aload_n C 1 dX2_advanceGreen_17 rfl ?_
    refine j_bipush C 8 dX2_advanceGreen_18 bp_8 ?_
    refine j_cIV C B.2.1 (c_M_has l D z a (up2 u 32 r ((u 32 r) + (1 : Int32))) k (8 : Int32) hk) gv_2_65 dd_M_has ⟨⟨rfl, rfl⟩, Nat.le_of_ble_eq_true rfl, Nat.le_of_ble_eq_true rfl⟩ (7 + k) 1 (pl_mv hk) rfl rfl rfl rfl (Nat.le_of_ble_eq_true rfl) dX2_advanceGreen_20 ?_
    refine j_if_eq C 39 dX2_advanceGreen_23 (by decide) (fun c7 => ?_) (fun c7 => ?_)
    · have hE := (if_pos c7).symm.trans hE
      refine j_aload_n C 0 dX2_advanceGreen_39 rfl ?_
      refine j_aload_n C 0 dX2_advanceGreen_40 rfl ?_
      refine j_get C kf_2 (23 + r) (pl_rg hr) 5 (by decide) lk_2_41 rfl dX2_advanceGreen_41 ?_
      refine j_iconst C 1 dX2_advanceGreen_44 ic_1 ?_
      refine j_isub C dX2_advanceGreen_45 ?_
      refine j_iconst C 0 dX2_advanceGreen_46 ic_0 ?_
      refine j_max C B.2.1 (Nat.le_of_ble_eq_true rfl) (Nat.le_of_ble_eq_true rfl) mx_2_69 mx_code dX2_advanceGreen_47 ?_
      refine j_put C kf_2 (23 + r) (pl_rg hr) 5 (by decide) lk_2_41 rfl rfl rfl (Nat.le_of_ble_eq_true rfl) (pu_rg_left hr) dX2_advanceGreen_50 ?_
      refine j_aload_n C 0 dX2_advanceGreen_53 rfl ?_
      refine j_iload_n C 2 dX2_advanceGreen_54 rfl ?_
      refine j_if_eq C 67 dX2_advanceGreen_55 (by decide) (fun c8 => ?_) (fun c8 => ?_)
      · have hE := (if_pos c8).symm.trans hE
        refine j_iconst C 0 dX2_advanceGreen_67 ic_0 ?_
        refine j_put C kf_2 (23 + r) (pl_rg hr) 6 (by decide) lk_2_44 rfl rfl rfl (Nat.le_of_ble_eq_true rfl) (pu_rg_pressure hr) dX2_advanceGreen_68 ?_
        refine j_aload_n C 0 dX2_advanceGreen_71 rfl ?_
        refine j_get C kf_2 (23 + r) (pl_rg hr) 8 (by decide) lk_2_28 rfl dX2_advanceGreen_72 ?_
        refine j_if_le C 91 dX2_advanceGreen_75 (by decide) (fun c9 => ?_) (fun c9 => ?_)
        · have hE := (if_pos c9).symm.trans hE
          refine j_aload_n C 0 dX2_advanceGreen_91 rfl ?_
          refine j_get C kf_2 (23 + r) (pl_rg hr) 9 (by decide) lk_2_31 rfl dX2_advanceGreen_92 ?_
          refine j_if_le C 108 dX2_advanceGreen_95 (by decide) (fun c10 => ?_) (fun c10 => ?_)
          · have hE := (if_pos c10).symm.trans hE
            exact B.2.2 _ _ _ dX2_advanceGreen_108 hE
          · have hE := (if_neg c10).symm.trans hE
            refine j_aload_n C 0 dX2_advanceGreen_98 rfl ?_
            refine j_dup C dX2_advanceGreen_99 rfl ?_
            refine j_get C kf_2 (23 + r) (pl_rg hr) 9 (by decide) lk_2_31 rfl dX2_advanceGreen_100 ?_
            refine j_iconst C 1 dX2_advanceGreen_103 ic_1 ?_
            refine j_isub C dX2_advanceGreen_104 ?_
            refine j_put C kf_2 (23 + r) (pl_rg hr) 9 (by decide) lk_2_31 rfl rfl rfl (Nat.le_of_ble_eq_true rfl) (pu_rg_clearingLeft hr) dX2_advanceGreen_105 ?_
            exact B.2.2 _ _ _ dX2_advanceGreen_108 hE
        · have hE := (if_neg c9).symm.trans hE
          refine j_aload_n C 0 dX2_advanceGreen_78 rfl ?_
          refine j_dup C dX2_advanceGreen_79 rfl ?_
          refine j_get C kf_2 (23 + r) (pl_rg hr) 8 (by decide) lk_2_28 rfl dX2_advanceGreen_80 ?_
          refine j_iconst C 1 dX2_advanceGreen_83 ic_1 ?_
          refine j_isub C dX2_advanceGreen_84 ?_
          refine j_put C kf_2 (23 + r) (pl_rg hr) 8 (by decide) lk_2_28 rfl rfl rfl (Nat.le_of_ble_eq_true rfl) (pu_rg_walkLeft hr) dX2_advanceGreen_85 ?_
          refine j_goto C 108 dX2_advanceGreen_88 (by decide) ?_
          exact B.2.2 _ _ _ dX2_advanceGreen_108 hE
      · have hE := (if_neg c8).symm.trans hE
        refine j_aload_n C 0 dX2_advanceGreen_58 rfl ?_
        refine j_get C kf_2 (23 + r) (pl_rg hr) 6 (by decide) lk_2_44 rfl dX2_advanceGreen_59 ?_
        refine j_iconst C 1 dX2_advanceGreen_62 ic_1 ?_
        refine j_iadd C dX2_advanceGreen_63 ?_
        refine j_goto C 68 dX2_advanceGreen_64 (by decide) ?_
        refine j_put C kf_2 (23 + r) (pl_rg hr) 6 (by decide) lk_2_44 rfl rfl rfl (Nat.le_of_ble_eq_true rfl) (pu_rg_pressure hr) dX2_advanceGreen_68 ?_
        refine j_aload_n C 0 dX2_advanceGreen_71 rfl ?_
        refine j_get C kf_2 (23 + r) (pl_rg hr) 8 (by decide) lk_2_28 rfl dX2_advanceGreen_72 ?_
        refine j_if_le C 91 dX2_advanceGreen_75 (by decide) (fun c11 => ?_) (fun c11 => ?_)
        · have hE := (if_pos c11).symm.trans hE
          refine j_aload_n C 0 dX2_advanceGreen_91 rfl ?_
          refine j_get C kf_2 (23 + r) (pl_rg hr) 9 (by decide) lk_2_31 rfl dX2_advanceGreen_92 ?_
          refine j_if_le C 108 dX2_advanceGreen_95 (by decide) (fun c12 => ?_) (fun c12 => ?_)
          · have hE := (if_pos c12).symm.trans hE
            exact B.2.2 _ _ _ dX2_advanceGreen_108 hE
          · have hE := (if_neg c12).symm.trans hE
            refine j_aload_n C 0 dX2_advanceGreen_98 rfl ?_
            refine j_dup C dX2_advanceGreen_99 rfl ?_
            refine j_get C kf_2 (23 + r) (pl_rg hr) 9 (by decide) lk_2_31 rfl dX2_advanceGreen_100 ?_
            refine j_iconst C 1 dX2_advanceGreen_103 ic_1 ?_
            refine j_isub C dX2_advanceGreen_104 ?_
            refine j_put C kf_2 (23 + r) (pl_rg hr) 9 (by decide) lk_2_31 rfl rfl rfl (Nat.le_of_ble_eq_true rfl) (pu_rg_clearingLeft hr) dX2_advanceGreen_105 ?_
            exact B.2.2 _ _ _ dX2_advanceGreen_108 hE
        · have hE := (if_neg c11).symm.trans hE
          refine j_aload_n C 0 dX2_advanceGreen_78 rfl ?_
          refine j_dup C dX2_advanceGreen_79 rfl ?_
          refine j_get C kf_2 (23 + r) (pl_rg hr) 8 (by decide) lk_2_28 rfl dX2_advanceGreen_80 ?_
          refine j_iconst C 1 dX2_advanceGreen_83 ic_1 ?_
          refine j_isub C dX2_advanceGreen_84 ?_
          refine j_put C kf_2 (23 + r) (pl_rg hr) 8 (by decide) lk_2_28 rfl rfl rfl (Nat.le_of_ble_eq_true rfl) (pu_rg_walkLeft hr) dX2_advanceGreen_85 ?_
          refine j_goto C 108 dX2_advanceGreen_88 (by decide) ?_
          exact B.2.2 _ _ _ dX2_advanceGreen_108 hE
    · have hE := (if_neg c7).symm.trans hE
      refine j_aload_n C 0 dX2_advanceGreen_26 rfl ?_
      refine j_aload_n C 1 dX2_advanceGreen_27 rfl ?_
      refine j_get C kf_1 (7 + k) (pl_mv hk) 0 (by decide) lk_2_51 rfl dX2_advanceGreen_28 ?_
      refine j_iconst C 1 dX2_advanceGreen_31 ic_1 ?_
      refine j_iald C (15 + k) 0 (pl_times hk) rfl 1 ix_1 (by decide) (by decide) dX2_advanceGreen_32 ?_
      refine j_put C kf_2 (23 + r) (pl_rg hr) 5 (by decide) lk_2_41 rfl rfl rfl (Nat.le_of_ble_eq_true rfl) (pu_rg_left hr) dX2_advanceGreen_33 ?_
      refine j_goto C 53 dX2_advanceGreen_36 (by decide) ?_
      refine j_aload_n C 0 dX2_advanceGreen_53 rfl ?_
      refine j_iload_n C 2 dX2_advanceGreen_54 rfl ?_
      refine j_if_eq C 67 dX2_advanceGreen_55 (by decide) (fun c13 => ?_) (fun c13 => ?_)
      · have hE := (if_pos c13).symm.trans hE
        refine j_iconst C 0 dX2_advanceGreen_67 ic_0 ?_
        refine j_put C kf_2 (23 + r) (pl_rg hr) 6 (by decide) lk_2_44 rfl rfl rfl (Nat.le_of_ble_eq_true rfl) (pu_rg_pressure hr) dX2_advanceGreen_68 ?_
        refine j_aload_n C 0 dX2_advanceGreen_71 rfl ?_
        refine j_get C kf_2 (23 + r) (pl_rg hr) 8 (by decide) lk_2_28 rfl dX2_advanceGreen_72 ?_
        refine j_if_le C 91 dX2_advanceGreen_75 (by decide) (fun c14 => ?_) (fun c14 => ?_)
        · have hE := (if_pos c14).symm.trans hE
          refine j_aload_n C 0 dX2_advanceGreen_91 rfl ?_
          refine j_get C kf_2 (23 + r) (pl_rg hr) 9 (by decide) lk_2_31 rfl dX2_advanceGreen_92 ?_
          refine j_if_le C 108 dX2_advanceGreen_95 (by decide) (fun c15 => ?_) (fun c15 => ?_)
          · have hE := (if_pos c15).symm.trans hE
            exact B.2.2 _ _ _ dX2_advanceGreen_108 hE
          · have hE := (if_neg c15).symm.trans hE
            refine j_aload_n C 0 dX2_advanceGreen_98 rfl ?_
            refine j_dup C dX2_advanceGreen_99 rfl ?_
            refine j_get C kf_2 (23 + r) (pl_rg hr) 9 (by decide) lk_2_31 rfl dX2_advanceGreen_100 ?_
            refine j_iconst C 1 dX2_advanceGreen_103 ic_1 ?_
            refine j_isub C dX2_advanceGreen_104 ?_
            refine j_put C kf_2 (23 + r) (pl_rg hr) 9 (by decide) lk_2_31 rfl rfl rfl (Nat.le_of_ble_eq_true rfl) (pu_rg_clearingLeft hr) dX2_advanceGreen_105 ?_
            exact B.2.2 _ _ _ dX2_advanceGreen_108 hE
        · have hE := (if_neg c14).symm.trans hE
          refine j_aload_n C 0 dX2_advanceGreen_78 rfl ?_
          refine j_dup C dX2_advanceGreen_79 rfl ?_
          refine j_get C kf_2 (23 + r) (pl_rg hr) 8 (by decide) lk_2_28 rfl dX2_advanceGreen_80 ?_
          refine j_iconst C 1 dX2_advanceGreen_83 ic_1 ?_
          refine j_isub C dX2_advanceGreen_84 ?_
          refine j_put C kf_2 (23 + r) (pl_rg hr) 8 (by decide) lk_2_28 rfl rfl rfl (Nat.le_of_ble_eq_true rfl) (pu_rg_walkLeft hr) dX2_advanceGreen_85 ?_
          refine j_goto C 108 dX2_advanceGreen_88 (by decide) ?_
          exact B.2.2 _ _ _ dX2_advanceGreen_108 hE
      · have hE := (if_neg c13).symm.trans hE
        refine j_aload_n C 0 dX2_advanceGreen_58 rfl ?_
        refine j_get C kf_2 (23 + r) (pl_rg hr) 6 (by decide) lk_2_44 rfl dX2_advanceGreen_59 ?_
        refine j_iconst C 1 dX2_advanceGreen_62 ic_1 ?_
        refine j_iadd C dX2_advanceGreen_63 ?_
        refine j_goto C 68 dX2_advanceGreen_64 (by decide) ?_
        refine j_put C kf_2 (23 + r) (pl_rg hr) 6 (by decide) lk_2_44 rfl rfl rfl (Nat.le_of_ble_eq_true rfl) (pu_rg_pressure hr) dX2_advanceGreen_68 ?_
        refine j_aload_n C 0 dX2_advanceGreen_71 rfl ?_
        refine j_get C kf_2 (23 + r) (pl_rg hr) 8 (by decide) lk_2_28 rfl dX2_advanceGreen_72 ?_
        refine j_if_le C 91 dX2_advanceGreen_75 (by decide) (fun c16 => ?_) (fun c16 => ?_)
        · have hE := (if_pos c16).symm.trans hE
          refine j_aload_n C 0 dX2_advanceGreen_91 rfl ?_
          refine j_get C kf_2 (23 + r) (pl_rg hr) 9 (by decide) lk_2_31 rfl dX2_advanceGreen_92 ?_
          refine j_if_le C 108 dX2_advanceGreen_95 (by decide) (fun c17 => ?_) (fun c17 => ?_)
          · have hE := (if_pos c17).symm.trans hE
            exact B.2.2 _ _ _ dX2_advanceGreen_108 hE
          · have hE := (if_neg c17).symm.trans hE
            refine j_aload_n C 0 dX2_advanceGreen_98 rfl ?_
            refine j_dup C dX2_advanceGreen_99 rfl ?_
            refine j_get C kf_2 (23 + r) (pl_rg hr) 9 (by decide) lk_2_31 rfl dX2_advanceGreen_100 ?_
            refine j_iconst C 1 dX2_advanceGreen_103 ic_1 ?_
            refine j_isub C dX2_advanceGreen_104 ?_
            refine j_put C kf_2 (23 + r) (pl_rg hr) 9 (by decide) lk_2_31 rfl rfl rfl (Nat.le_of_ble_eq_true rfl) (pu_rg_clearingLeft hr) dX2_advanceGreen_105 ?_
            exact B.2.2 _ _ _ dX2_advanceGreen_108 hE
        · have hE := (if_neg c16).symm.trans hE
          refine j_aload_n C 0 dX2_advanceGreen_78 rfl ?_
          refine j_dup C dX2_advanceGreen_79 rfl ?_
          refine j_get C kf_2 (23 + r) (pl_rg hr) 8 (by decide) lk_2_28 rfl dX2_advanceGreen_80 ?_
          refine j_iconst C 1 dX2_advanceGreen_83 ic_1 ?_
          refine j_isub C dX2_advanceGreen_84 ?_
          refine j_put C kf_2 (23 + r) (pl_rg hr) 8 (by decide) lk_2_28 rfl rfl rfl (Nat.le_of_ble_eq_true rfl) (pu_rg_walkLeft hr) dX2_advanceGreen_85 ?_
          refine j_goto C 108 dX2_advanceGreen_88 (by decide) ?_
          exact B.2.2 _ _ _ dX2_advanceGreen_108 hE
theorem c_R_advanceGreen (l : Launch) (D : va_G) (z : Nat → ClassId) (a : Nat → Nat) (u : St) (r : Nat) (k : Nat) (b0 : Int32) (hr : r < 2) (hk : k < 8) : CtV l yX2_advanceGreen (.code yX2_advanceGreen cX2_advanceGreen 3 none :: TT) rm_R_advanceGreen D clA (tyl z) (cW z a) [.ref (a (23 + r)), .ref (a (7 + k)), .int b0] u (f_R_advanceGreen u r k b0) :=
  jk_metV (own := RX2) (by decide) rfl (Nat.le_of_ble_eq_true rfl) (fun _ _ _ _ _ _ _ _ _ _ _ B => w_R_advanceGreen_0 B hr hk b0 rfl)
end WLK

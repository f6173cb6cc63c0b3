section WLK
variable {p : Program} {l : Launch} {e : Env} {R : Room} {s : State} {m : MethodId} {args : Array Value} {below : List Frame} {meth : Method} {c : Code} {D : va_G} {z : Nat → ClassId} {a : Nat → Nat} {A : Nat → Prop} {Q : State → Prop}
def rm_R_enter : Room := { frames := 0, cells := 0, slots := 0, locals := 0 }
def f_R_enter (u : St) (r : Nat) (x0 : Int32) : St := (up2 (up2 (up2 (up2 (up2 (up2 u 31 r x0) 32 r (0 : Int32)) 33 r (0 : Int32)) 34 r (0 : Int32)) 36 r (0 : Int32)) 37 r (0 : Int32))
set_option maxRecDepth 20000 in
set_option maxHeartbeats 1000000 in
theorem w_R_enter_0 {F : St} {u : St} (B : jk_BV p l e R s m args below meth c cX2_enter 2 RX2 TT D clA (tyl z) (cW z a) A Q rm_R_enter F) {r : Nat} (hr : r < 2) (x0 : Int32) (hE : f_R_enter u r x0 = F) : JJ p l e R s m args below meth c 0 0 2 D clA (cW z a) A Q 0 [(0, .ref (a (23 + r))), (1, .int x0)] u [] := by
  have C := B.1
  unfold f_R_enter at hE
  refine j_aload_n C 0 dX2_enter_0 rfl ?_
  refine j_iload_n C 1 dX2_enter_1 rfl ?_
  refine j_put C kf_2 (23 + r) (pl_rg hr) 3 (by decide) lk_2_22 rfl rfl rfl (Nat.le_of_ble_eq_true rfl) (pu_rg_phase hr) dX2_enter_2 ?_
  refine j_aload_n C 0 dX2_enter_5 rfl ?_
  refine j_iconst C 0 dX2_enter_6 ic_0 ?_
  refine j_put C kf_2 (23 + r) (pl_rg hr) 4 (by decide) lk_2_34 rfl rfl rfl (Nat.le_of_ble_eq_true rfl) (pu_rg_age hr) dX2_enter_7 ?_
  refine j_aload_n C 0 dX2_enter_10 rfl ?_
  refine j_iconst C 0 dX2_enter_11 ic_0 ?_
  refine j_put C kf_2 (23 + r) (pl_rg hr) 5 (by decide) lk_2_41 rfl rfl rfl (Nat.le_of_ble_eq_true rfl) (pu_rg_left hr) dX2_enter_12 ?_
  refine j_aload_n C 0 dX2_enter_15 rfl ?_
  refine j_iconst C 0 dX2_enter_16 ic_0 ?_
  refine j_put C kf_2 (23 + r) (pl_rg hr) 6 (by decide) lk_2_44 rfl rfl rfl (Nat.le_of_ble_eq_true rfl) (pu_rg_pressure hr) dX2_enter_17 ?_
  refine j_aload_n C 0 dX2_enter_20 rfl ?_
  refine j_iconst C 0 dX2_enter_21 ic_0 ?_
  refine j_put C kf_2 (23 + r) (pl_rg hr) 8 (by decide) lk_2_28 rfl rfl rfl (Nat.le_of_ble_eq_true rfl) (pu_rg_walkLeft hr) dX2_enter_22 ?_
  refine j_aload_n C 0 dX2_enter_25 rfl ?_
  refine j_iconst C 0 dX2_enter_26 ic_0 ?_
  refine j_put C kf_2 (23 + r) (pl_rg hr) 9 (by decide) lk_2_31 rfl rfl rfl (Nat.le_of_ble_eq_true rfl) (pu_rg_clearingLeft hr) dX2_enter_27 ?_
  exact B.2.2 _ _ _ dX2_enter_30 hE
theorem c_R_enter (l : Launch) (D : va_G) (z : Nat → ClassId) (a : Nat → Nat) (u : St) (r : Nat) (x0 : Int32) (hr : r < 2) : CtV l yX2_enter (.code yX2_enter cX2_enter 2 none :: TT) rm_R_enter D clA (tyl z) (cW z a) [.ref (a (23 + r)), .int x0] u (f_R_enter u r x0) :=
  jk_metV (own := RX2) (by decide) rfl (Nat.le_of_ble_eq_true rfl) (fun _ _ _ _ _ _ _ _ _ _ _ B => w_R_enter_0 B hr x0 rfl)
def rm_R_beginGreen : Room := { frames := 2, cells := 0, slots := 0, locals := 41 }
def f_R_beginGreen_28 (u : St) (r : Nat) (k : Nat) : St := (if (f_M_wouldWalk u k) = (0 : Int32) then u else (up2 (up2 u 36 r (u (20 + k) 5)) 37 r ((up2 u 36 r (u (20 + k) 5)) (20 + k) 6)))
set_option maxRecDepth 20000 in
set_option maxHeartbeats 1000000 in
theorem w_R_beginGreen_28 {F : St} {u : St} (B : jk_BV p l e R s m args below meth c cX2_beginGreen 2 RX2 TT D clA (tyl z) (cW z a) A Q rm_R_beginGreen F) {r : Nat} (hr : r < 2) {k : Nat} (hk : k < 8) (hE : f_R_beginGreen_28 u r k = F) : JJ p l e R s m args below meth c 0 0 2 D clA (cW z a) A Q 28 [(0, .ref (a (23 + r))), (1, .ref (a (7 + k)))] u [] := by
  have C := B.1
  unfold f_R_beginGreen_28 at hE
  refine j_aload_n C 1 dX2_beginGreen_28 rfl ?_
  refine j_cIV C B.2.1 (c_M_wouldWalk l D z a u k hk) gv_2_57 dd_M_wouldWalk ⟨⟨rfl, rfl⟩, Nat.le_of_ble_eq_true rfl, Nat.le_of_ble_eq_true rfl⟩ (7 + k) 1 (pl_mv hk) rfl rfl rfl rfl (Nat.le_of_ble_eq_true rfl) dX2_beginGreen_29 ?_
  refine j_if_eq C 56 dX2_beginGreen_32 (by decide) (fun c1 => ?_) (fun c1 => ?_)
  · have hE := (if_pos c1).symm.trans hE
    exact B.2.2 _ _ _ dX2_beginGreen_56 hE
  · have hE := (if_neg c1).symm.trans hE
    refine j_aload_n C 0 dX2_beginGreen_35 rfl ?_
    refine j_aload_n C 1 dX2_beginGreen_36 rfl ?_
    refine j_get C kf_1 (7 + k) (pl_mv hk) 0 (by decide) lk_2_51 rfl dX2_beginGreen_37 ?_
    refine j_iconst C 5 dX2_beginGreen_40 ic_5 ?_
    refine j_iald C (15 + k) 0 (pl_times hk) rfl 5 ix_5 (by decide) (by decide) dX2_beginGreen_41 ?_
    refine j_put C kf_2 (23 + r) (pl_rg hr) 8 (by decide) lk_2_28 rfl rfl rfl (Nat.le_of_ble_eq_true rfl) (pu_rg_walkLeft hr) dX2_beginGreen_42 ?_
    refine j_aload_n C 0 dX2_beginGreen_45 rfl ?_
    refine j_aload_n C 1 dX2_beginGreen_46 rfl ?_
    refine j_get C kf_1 (7 + k) (pl_mv hk) 0 (by decide) lk_2_51 rfl dX2_beginGreen_47 ?_
    refine j_bipush C 6 dX2_beginGreen_50 bp_6 ?_
    refine j_iald C (15 + k) 0 (pl_times hk) rfl 6 ix_6 (by decide) (by decide) dX2_beginGreen_52 ?_
    refine j_put C kf_2 (23 + r) (pl_rg hr) 9 (by decide) lk_2_31 rfl rfl rfl (Nat.le_of_ble_eq_true rfl) (pu_rg_clearingLeft hr) dX2_beginGreen_53 ?_
    exact B.2.2 _ _ _ dX2_beginGreen_56 hE
def f_R_beginGreen_18 (u : St) (r : Nat) (k : Nat) : St := (f_R_beginGreen_28 (up2 u 33 r (u (20 + k) 1)) r k)
set_option maxRecDepth 20000 in
set_option maxHeartbeats 1000000 in
theorem w_R_beginGreen_18 {F : St} {u : St} (B : jk_BV p l e R s m args below meth c cX2_beginGreen 2 RX2 TT D clA (tyl z) (cW z a) A Q rm_R_beginGreen F) {r : Nat} (hr : r < 2) {k : Nat} (hk : k < 8) (hE : f_R_beginGreen_18 u r k = F) : JJ p l e R s m args below meth c 0 0 2 D clA (cW z a) A Q 18 [(0, .ref (a (23 + r))), (1, .ref (a (7 + k)))] u [] := by
  have C := B.1
  unfold f_R_beginGreen_18 at hE
  refine j_aload_n C 0 dX2_beginGreen_18 rfl ?_
  refine j_aload_n C 1 dX2_beginGreen_19 rfl ?_
  refine j_get C kf_1 (7 + k) (pl_mv hk) 0 (by decide) lk_2_51 rfl dX2_beginGreen_20 ?_
  refine j_iconst C 1 dX2_beginGreen_23 ic_1 ?_
  refine j_iald C (15 + k) 0 (pl_times hk) rfl 1 ix_1 (by decide) (by decide) dX2_beginGreen_24 ?_
  refine j_put C kf_2 (23 + r) (pl_rg hr) 5 (by decide) lk_2_41 rfl rfl rfl (Nat.le_of_ble_eq_true rfl) (pu_rg_left hr) dX2_beginGreen_25 ?_
  exact w_R_beginGreen_28 B hr hk hE
def f_R_beginGreen_5 (u : St) (r : Nat) (k : Nat) : St := (f_R_beginGreen_18 (up2 (up2 u 30 r (u 35 r)) 35 r (-1 : Int32)) r k)
set_option maxRecDepth 20000 in
set_option maxHeartbeats 1000000 in
theorem w_R_beginGreen_5 {F : St} {u : St} (B : jk_BV p l e R s m args below meth c cX2_beginGreen 2 RX2 TT D clA (tyl z) (cW z a) A Q rm_R_beginGreen F) {r : Nat} (hr : r < 2) {k : Nat} (hk : k < 8) (hE : f_R_beginGreen_5 u r k = F) : JJ p l e R s m args below meth c 0 0 2 D clA (cW z a) A Q 5 [(0, .ref (a (23 + r))), (1, .ref (a (7 + k)))] u [] := by
  have C := B.1
  unfold f_R_beginGreen_5 at hE
  refine j_aload_n C 0 dX2_beginGreen_5 rfl ?_
  refine j_aload_n C 0 dX2_beginGreen_6 rfl ?_
  refine j_get C kf_2 (23 + r) (pl_rg hr) 7 (by decide) lk_2_25 rfl dX2_beginGreen_7 ?_
  refine j_put C kf_2 (23 + r) (pl_rg hr) 2 (by decide) lk_2_19 rfl rfl rfl (Nat.le_of_ble_eq_true rfl) (pu_rg_movement hr) dX2_beginGreen_10 ?_
  refine j_aload_n C 0 dX2_beginGreen_13 rfl ?_
  refine j_iconst C (-1) dX2_beginGreen_14 ic_m1 ?_
  refine j_put C kf_2 (23 + r) (pl_rg hr) 7 (by decide) lk_2_25 rfl rfl rfl (Nat.le_of_ble_eq_true rfl) (pu_rg_next hr) dX2_beginGreen_15 ?_
  exact w_R_beginGreen_18 B hr hk hE
def f_R_beginGreen (u : St) (r : Nat) (k : Nat) : St := (f_R_beginGreen_5 (f_R_enter u r (1 : Int32)) r k)
set_option maxRecDepth 20000 in
set_option maxHeartbeats 1000000 in
theorem w_R_beginGreen_0 {F : St} {u : St} (B : jk_BV p l e R s m args below meth c cX2_beginGreen 2 RX2 TT D clA (tyl z) (cW z a) A Q rm_R_beginGreen F) {r : Nat} (hr : r < 2) {k : Nat} (hk : k < 8) (hE : f_R_beginGreen u r k = F) : JJ p l e R s m args below meth c 0 0 2 D clA (cW z a) A Q 0 [(0, .ref (a (23 + r))), (1, .ref (a (7 + k)))] u [] := by
  have C := B.1
  unfold f_R_beginGreen at hE
  refine j_aload_n C 0 dX2_beginGreen_0 rfl ?_
  refine j_iconst C 1 dX2_beginGreen_1 ic_1 ?_
  refine j_cVV C B.2.1 (c_R_enter l D z a u r (1 : Int32) hr) gv_2_47 dd_R_enter ⟨⟨rfl, rfl⟩, Nat.le_of_ble_eq_true rfl, Nat.le_of_ble_eq_true rfl⟩ (23 + r) 2 (pl_rg hr) rfl rfl rfl rfl (Nat.le_of_ble_eq_true rfl) dX2_beginGreen_2 ?_
  exact w_R_beginGreen_5 B hr hk hE
theorem c_R_beginGreen (l : Launch) (D : va_G) (z : Nat → ClassId) (a : Nat → Nat) (u : St) (r : Nat) (k : Nat) (hr : r < 2) (hk : k < 8) : CtV l yX2_beginGreen (.code yX2_beginGreen cX2_beginGreen 2 none :: TT) rm_R_beginGreen D clA (tyl z) (cW z a) [.ref (a (23 + r)), .ref (a (7 + k))] u (f_R_beginGreen u r k) :=
  jk_metV (own := RX2) (by decide) rfl (Nat.le_of_ble_eq_true rfl) (fun _ _ _ _ _ _ _ _ _ _ _ B => w_R_beginGreen_0 B hr hk rfl)
def rm_R_advanceGreen : Room := { frames := 1, cells := 0, slots := 0, locals := 21 }
def f_R_advanceGreen_71 (u : St) (r : Nat) (k : Nat) (b0 : Int32) : St := (if (u 36 r) ≤ (0 : Int32) then (if (u 37 r) ≤ (0 : Int32) then u else (up2 u 37 r ((u 37 r) - (1 : Int32)))) else (up2 u 36 r ((u 36 r) - (1 : Int32))))
set_option maxRecDepth 20000 in
set_option maxHeartbeats 1000000 in
theorem w_R_advanceGreen_71 {F : St} {u : St} (B : jk_BV p l e R s m args below meth c cX2_advanceGreen 3 RX2 TT D clA (tyl z) (cW z a) A Q rm_R_advanceGreen F) {r : Nat} (hr : r < 2) {k : Nat} (hk : k < 8) (b0 : Int32) (hE : f_R_advanceGreen_71 u r k b0 = F) : JJ p l e R s m args below meth c 0 0 3 D clA (cW z a) A Q 71 [(0, .ref (a (23 + r))), (1, .ref (a (7 + k)))] u [] := by
  have C := B.1
  unfold f_R_advanceGreen_71 at hE
  refine j_aload_n C 0 dX2_advanceGreen_71 rfl ?_
  refine j_get C kf_2 (23 + r) (pl_rg hr) 8 (by decide) lk_2_28 rfl dX2_advanceGreen_72 ?_
  refine j_if_le C 91 dX2_advanceGreen_75 (by decide) (fun c1 => ?_) (fun c1 => ?_)
  · have hE := (if_pos c1).symm.trans hE
    refine j_aload_n C 0 dX2_advanceGreen_91 rfl ?_
    refine j_get C kf_2 (23 + r) (pl_rg hr) 9 (by decide) lk_2_31 rfl dX2_advanceGreen_92 ?_
    refine j_if_le C 108 dX2_advanceGreen_95 (by decide) (fun c2 => ?_) (fun c2 => ?_)
    · have hE := (if_pos c2).symm.trans hE
      exact B.2.2 _ _ _ dX2_advanceGreen_108 hE
    · have hE := (if_neg c2).symm.trans hE
      refine j_aload_n C 0 dX2_advanceGreen_98 rfl ?_
      refine j_dup C dX2_advanceGreen_99 rfl ?_
      refine j_get C kf_2 (23 + r) (pl_rg hr) 9 (by decide) lk_2_31 rfl dX2_advanceGreen_100 ?_
      refine j_iconst C 1 dX2_advanceGreen_103 ic_1 ?_
      refine j_isub C dX2_advanceGreen_104 ?_
      refine j_put C kf_2 (23 + r) (pl_rg hr) 9 (by decide) lk_2_31 rfl rfl rfl (Nat.le_of_ble_eq_true rfl) (pu_rg_clearingLeft hr) dX2_advanceGreen_105 ?_
      exact B.2.2 _ _ _ dX2_advanceGreen_108 hE
  · have hE := (if_neg c1).symm.trans hE
    refine j_aload_n C 0 dX2_advanceGreen_78 rfl ?_
    refine j_dup C dX2_advanceGreen_79 rfl ?_
    refine j_get C kf_2 (23 + r) (pl_rg hr) 8 (by decide) lk_2_28 rfl dX2_advanceGreen_80 ?_
    refine j_iconst C 1 dX2_advanceGreen_83 ic_1 ?_
    refine j_isub C dX2_advanceGreen_84 ?_
    refine j_put C kf_2 (23 + r) (pl_rg hr) 8 (by decide) lk_2_28 rfl rfl rfl (Nat.le_of_ble_eq_true rfl) (pu_rg_walkLeft hr) dX2_advanceGreen_85 ?_
    refine j_goto C 108 dX2_advanceGreen_88 (by decide) ?_
    exact B.2.2 _ _ _ dX2_advanceGreen_108 hE
def f_R_advanceGreen_53 (u : St) (r : Nat) (k : Nat) (b0 : Int32) : St := (if b0 = (0 : Int32) then (f_R_advanceGreen_71 (up2 u 34 r (0 : Int32)) r k b0) else (f_R_advanceGreen_71 (up2 u 34 r ((u 34 r) + (1 : Int32))) r k b0))
set_option maxRecDepth 20000 in
set_option maxHeartbeats 1000000 in
theorem w_R_advanceGreen_53 {F : St} {u : St} (B : jk_BV p l e R s m args below meth c cX2_advanceGreen 3 RX2 TT D clA (tyl z) (cW z a) A Q rm_R_advanceGreen F) {r : Nat} (hr : r < 2) {k : Nat} (hk : k < 8) (b0 : Int32) (hE : f_R_advanceGreen_53 u r k b0 = F) : JJ p l e R s m args below meth c 0 0 3 D clA (cW z a) A Q 53 [(0, .ref (a (23 + r))), (1, .ref (a (7 + k))), (2, .int b0)] u [] := by
  have C := B.1
  unfold f_R_advanceGreen_53 at hE
  refine j_aload_n C 0 dX2_advanceGreen_53 rfl ?_
  refine j_iload_n C 2 dX2_advanceGreen_54 rfl ?_
  refine j_if_eq C 67 dX2_advanceGreen_55 (by decide) (fun c1 => ?_) (fun c1 => ?_)
  · have hE := (if_pos c1).symm.trans hE
    refine j_iconst C 0 dX2_advanceGreen_67 ic_0 ?_
    refine j_put C kf_2 (23 + r) (pl_rg hr) 6 (by decide) lk_2_44 rfl rfl rfl (Nat.le_of_ble_eq_true rfl) (pu_rg_pressure hr) dX2_advanceGreen_68 ?_
    refine j_lv [0, 1] rfl ?_
    exact w_R_advanceGreen_71 B hr hk b0 hE
  · have hE := (if_neg c1).symm.trans hE
    refine j_aload_n C 0 dX2_advanceGreen_58 rfl ?_
    refine j_get C kf_2 (23 + r) (pl_rg hr) 6 (by decide) lk_2_44 rfl dX2_advanceGreen_59 ?_
    refine j_iconst C 1 dX2_advanceGreen_62 ic_1 ?_
    refine j_iadd C dX2_advanceGreen_63 ?_
    refine j_goto C 68 dX2_advanceGreen_64 (by decide) ?_
    refine j_put C kf_2 (23 + r) (pl_rg hr) 6 (by decide) lk_2_44 rfl rfl rfl (Nat.le_of_ble_eq_true rfl) (pu_rg_pressure hr) dX2_advanceGreen_68 ?_
    refine j_lv [0, 1] rfl ?_
    exact w_R_advanceGreen_71 B hr hk b0 hE
def f_R_advanceGreen_10 (u : St) (r : Nat) (k : Nat) (b0 : Int32) : St := (if (u 11 k) = (0 : Int32) then (if (f_M_has u k (8 : Int32)) = (0 : Int32) then (f_R_advanceGreen_53 (up2 u 33 r (if ((u 33 r) - (1 : Int32)) < (0 : Int32) then (0 : Int32) else ((u 33 r) - (1 : Int32)))) r k b0) else (f_R_advanceGreen_53 (up2 u 33 r (u (20 + k) 1)) r k b0)) else (f_R_advanceGreen_53 (up2 u 33 r (u (20 + k) 1)) r k b0))
set_option maxRecDepth 20000 in
set_option maxHeartbeats 1000000 in
theorem w_R_advanceGreen_10 {F : St} {u : St} (B : jk_BV p l e R s m args below meth c cX2_advanceGreen 3 RX2 TT D clA (tyl z) (cW z a) A Q rm_R_advanceGreen F) {r : Nat} (hr : r < 2) {k : Nat} (hk : k < 8) (b0 : Int32) (hE : f_R_advanceGreen_10 u r k b0 = F) : JJ p l e R s m args below meth c 0 0 3 D clA (cW z a) A Q 10 [(0, .ref (a (23 + r))), (1, .ref (a (7 + k))), (2, .int b0)] u [] := by
  have C := B.1
  unfold f_R_advanceGreen_10 at hE
  refine j_aload_n C 1 dX2_advanceGreen_10 rfl ?_
  refine j_get C kf_1 (7 + k) (pl_mv hk) 2 (by decide) lk_2_61 rfl dX2_advanceGreen_11 ?_
  refine j_if_ne C 26 dX2_advanceGreen_14 (by decide) (fun c1 => ?_) (fun c1 => ?_)
  · have hE := (if_neg c1).symm.trans hE
    refine j_aload_n C 0 dX2_advanceGreen_26 rfl ?_
    refine j_aload_n C 1 dX2_advanceGreen_27 rfl ?_
    refine j_get C kf_1 (7 + k) (pl_mv hk) 0 (by decide) lk_2_51 rfl dX2_advanceGreen_28 ?_
    refine j_iconst C 1 dX2_advanceGreen_31 ic_1 ?_
    refine j_iald C (15 + k) 0 (pl_times hk) rfl 1 ix_1 (by decide) (by decide) dX2_advanceGreen_32 ?_
    refine j_put C kf_2 (23 + r) (pl_rg hr) 5 (by decide) lk_2_41 rfl rfl rfl (Nat.le_of_ble_eq_true rfl) (pu_rg_left hr) dX2_advanceGreen_33 ?_
    refine j_goto C 53 dX2_advanceGreen_36 (by decide) ?_
    exact w_R_advanceGreen_53 B hr hk b0 hE
  · have hE := (if_pos c1).symm.trans hE
    refine j_aload_n C 1 dX2_advanceGreen_17 rfl ?_
    refine j_bipush C 8 dX2_advanceGreen_18 bp_8 ?_
    refine j_cIV C B.2.1 (c_M_has l D z a u k (8 : Int32) hk) gv_2_65 dd_M_has ⟨⟨rfl, rfl⟩, Nat.le_of_ble_eq_true rfl, Nat.le_of_ble_eq_true rfl⟩ (7 + k) 1 (pl_mv hk) rfl rfl rfl rfl (Nat.le_of_ble_eq_true rfl) dX2_advanceGreen_20 ?_
    refine j_if_eq C 39 dX2_advanceGreen_23 (by decide) (fun c2 => ?_) (fun c2 => ?_)
    · have hE := (if_pos c2).symm.trans hE
      refine j_aload_n C 0 dX2_advanceGreen_39 rfl ?_
      refine j_aload_n C 0 dX2_advanceGreen_40 rfl ?_
      refine j_get C kf_2 (23 + r) (pl_rg hr) 5 (by decide) lk_2_41 rfl dX2_advanceGreen_41 ?_
      refine j_iconst C 1 dX2_advanceGreen_44 ic_1 ?_
      refine j_isub C dX2_advanceGreen_45 ?_
      refine j_iconst C 0 dX2_advanceGreen_46 ic_0 ?_
      refine j_max C B.2.1 (Nat.le_of_ble_eq_true rfl) (Nat.le_of_ble_eq_true rfl) mx_2_69 mx_code dX2_advanceGreen_47 ?_
      refine j_put C kf_2 (23 + r) (pl_rg hr) 5 (by decide) lk_2_41 rfl rfl rfl (Nat.le_of_ble_eq_true rfl) (pu_rg_left hr) dX2_advanceGreen_50 ?_
      exact w_R_advanceGreen_53 B hr hk b0 hE
    · have hE := (if_neg c2).symm.trans hE
      refine j_aload_n C 0 dX2_advanceGreen_26 rfl ?_
      refine j_aload_n C 1 dX2_advanceGreen_27 rfl ?_
      refine j_get C kf_1 (7 + k) (pl_mv hk) 0 (by decide) lk_2_51 rfl dX2_advanceGreen_28 ?_
      refine j_iconst C 1 dX2_advanceGreen_31 ic_1 ?_
      refine j_iald C (15 + k) 0 (pl_times hk) rfl 1 ix_1 (by decide) (by decide) dX2_advanceGreen_32 ?_
      refine j_put C kf_2 (23 + r) (pl_rg hr) 5 (by decide) lk_2_41 rfl rfl rfl (Nat.le_of_ble_eq_true rfl) (pu_rg_left hr) dX2_advanceGreen_33 ?_
      refine j_goto C 53 dX2_advanceGreen_36 (by decide) ?_
      exact w_R_advanceGreen_53 B hr hk b0 hE
def f_R_advanceGreen (u : St) (r : Nat) (k : Nat) (b0 : Int32) : St := (f_R_advanceGreen_10 (up2 u 32 r ((u 32 r) + (1 : Int32))) r k b0)
set_option maxRecDepth 20000 in
set_option maxHeartbeats 1000000 in
theorem w_R_advanceGreen_0 {F : St} {u : St} (B : jk_BV p l e R s m args below meth c cX2_advanceGreen 3 RX2 TT D clA (tyl z) (cW z a) A Q rm_R_advanceGreen F) {r : Nat} (hr : r < 2) {k : Nat} (hk : k < 8) (b0 : Int32) (hE : f_R_advanceGreen u r k b0 = F) : JJ p l e R s m args below meth c 0 0 3 D clA (cW z a) A Q 0 [(0, .ref (a (23 + r))), (1, .ref (a (7 + k))), (2, .int b0)] u [] := by
  have C := B.1
  unfold f_R_advanceGreen at hE
  refine j_aload_n C 0 dX2_advanceGreen_0 rfl ?_
  refine j_dup C dX2_advanceGreen_1 rfl ?_
  refine j_get C kf_2 (23 + r) (pl_rg hr) 4 (by decide) lk_2_34 rfl dX2_advanceGreen_2 ?_
  refine j_iconst C 1 dX2_advanceGreen_5 ic_1 ?_
  refine j_iadd C dX2_advanceGreen_6 ?_
  refine j_put C kf_2 (23 + r) (pl_rg hr) 4 (by decide) lk_2_34 rfl rfl rfl (Nat.le_of_ble_eq_true rfl) (pu_rg_age hr) dX2_advanceGreen_7 ?_
  exact w_R_advanceGreen_10 B hr hk b0 hE
theorem c_R_advanceGreen (l : Launch) (D : va_G) (z : Nat → ClassId) (a : Nat → Nat) (u : St) (r : Nat) (k : Nat) (b0 : Int32) (hr : r < 2) (hk : k < 8) : CtV l yX2_advanceGreen (.code yX2_advanceGreen cX2_advanceGreen 3 none :: TT) rm_R_advanceGreen D clA (tyl z) (cW z a) [.ref (a (23 + r)), .ref (a (7 + k)), .int b0] u (f_R_advanceGreen u r k b0) :=
  jk_metV (own := RX2) (by decide) rfl (Nat.le_of_ble_eq_true rfl) (fun _ _ _ _ _ _ _ _ _ _ _ B => w_R_advanceGreen_0 B hr hk b0 rfl)
def rm_R_endGreen : Room := { frames := 1, cells := 0, slots := 0, locals := 21 }
def f_R_endGreen (u : St) (r : Nat) (x0 : Int32) : St := (up2 (f_R_enter u r (2 : Int32)) 35 r x0)
set_option maxRecDepth 20000 in
set_option maxHeartbeats 1000000 in
theorem w_R_endGreen_0 {F : St} {u : St} (B : jk_BV p l e R s m args below meth c cX2_endGreen 2 RX2 TT D clA (tyl z) (cW z a) A Q rm_R_endGreen F) {r : Nat} (hr : r < 2) (x0 : Int32) (hE : f_R_endGreen u r x0 = F) : JJ p l e R s m args below meth c 0 0 2 D clA (cW z a) A Q 0 [(0, .ref (a (23 + r))), (1, .int x0)] u [] := by
  have C := B.1
  unfold f_R_endGreen at hE
  refine j_aload_n C 0 dX2_endGreen_0 rfl ?_
  refine j_iconst C 2 dX2_endGreen_1 ic_2 ?_
  refine j_cVV C B.2.1 (c_R_enter l D z a u r (2 : Int32) hr) gv_2_47 dd_R_enter ⟨⟨rfl, rfl⟩, Nat.le_of_ble_eq_true rfl, Nat.le_of_ble_eq_true rfl⟩ (23 + r) 2 (pl_rg hr) rfl rfl rfl rfl (Nat.le_of_ble_eq_true rfl) dX2_endGreen_2 ?_
  refine j_aload_n C 0 dX2_endGreen_5 rfl ?_
  refine j_iload_n C 1 dX2_endGreen_6 rfl ?_
  refine j_put C kf_2 (23 + r) (pl_rg hr) 7 (by decide) lk_2_25 rfl rfl rfl (Nat.le_of_ble_eq_true rfl) (pu_rg_next hr) dX2_endGreen_7 ?_
  exact B.2.2 _ _ _ dX2_endGreen_10 hE
theorem c_R_endGreen (l : Launch) (D : va_G) (z : Nat → ClassId) (a : Nat → Nat) (u : St) (r : Nat) (x0 : Int32) (hr : r < 2) : CtV l yX2_endGreen (.code yX2_endGreen cX2_endGreen 2 none :: TT) rm_R_endGreen D clA (tyl z) (cW z a) [.ref (a (23 + r)), .int x0] u (f_R_endGreen u r x0) :=
  jk_metV (own := RX2) (by decide) rfl (Nat.le_of_ble_eq_true rfl) (fun _ _ _ _ _ _ _ _ _ _ _ B => w_R_endGreen_0 B hr x0 rfl)
def rm_R_goDark : Room := { frames := 1, cells := 0, slots := 0, locals := 21 }
def f_R_goDark (u : St) (r : Nat) : St := (up2 (f_R_enter u r (0 : Int32)) 30 r (-1 : Int32))
set_option maxRecDepth 20000 in
set_option maxHeartbeats 1000000 in
theorem w_R_goDark_0 {F : St} {u : St} (B : jk_BV p l e R s m args below meth c cX2_goDark 1 RX2 TT D clA (tyl z) (cW z a) A Q rm_R_goDark F) {r : Nat} (hr : r < 2) (hE : f_R_goDark u r = F) : JJ p l e R s m args below meth c 0 0 1 D clA (cW z a) A Q 0 [(0, .ref (a (23 + r)))] u [] := by
  have C := B.1
  unfold f_R_goDark at hE
  refine j_aload_n C 0 dX2_goDark_0 rfl ?_
  refine j_iconst C 0 dX2_goDark_1 ic_0 ?_
  refine j_cVV C B.2.1 (c_R_enter l D z a u r (0 : Int32) hr) gv_2_47 dd_R_enter ⟨⟨rfl, rfl⟩, Nat.le_of_ble_eq_true rfl, Nat.le_of_ble_eq_true rfl⟩ (23 + r) 2 (pl_rg hr) rfl rfl rfl rfl (Nat.le_of_ble_eq_true rfl) dX2_goDark_2 ?_
  refine j_aload_n C 0 dX2_goDark_5 rfl ?_
  refine j_iconst C (-1) dX2_goDark_6 ic_m1 ?_
  refine j_put C kf_2 (23 + r) (pl_rg hr) 2 (by decide) lk_2_19 rfl rfl rfl (Nat.le_of_ble_eq_true rfl) (pu_rg_movement hr) dX2_goDark_7 ?_
  exact B.2.2 _ _ _ dX2_goDark_10 hE
theorem c_R_goDark (l : Launch) (D : va_G) (z : Nat → ClassId) (a : Nat → Nat) (u : St) (r : Nat) (hr : r < 2) : CtV l yX2_goDark (.code yX2_goDark cX2_goDark 1 none :: TT) rm_R_goDark D clA (tyl z) (cW z a) [.ref (a (23 + r))] u (f_R_goDark u r) :=
  jk_metV (own := RX2) (by decide) rfl (Nat.le_of_ble_eq_true rfl) (fun _ _ _ _ _ _ _ _ _ _ _ B => w_R_goDark_0 B hr rfl)
def rm_R_advanceEnding : Room := { frames := 2, cells := 0, slots := 0, locals := 41 }
def f_R_advanceEnding_36 (u : St) (r : Nat) (k : Nat) : St := (if (u 31 r) = (3 : Int32) then (if (u 32 r) < (u (20 + k) 4) then u else (f_R_goDark u r)) else u)
set_option maxRecDepth 20000 in
set_option maxHeartbeats 1000000 in
theorem w_R_advanceEnding_36 {F : St} {u : St} (B : jk_BV p l e R s m args below meth c cX2_advanceEnding 2 RX2 TT D clA (tyl z) (cW z a) A Q rm_R_advanceEnding F) {r : Nat} (hr : r < 2) {k : Nat} (hk : k < 8) (hE : f_R_advanceEnding_36 u r k = F) : JJ p l e R s m args below meth c 0 0 2 D clA (cW z a) A Q 36 [(0, .ref (a (23 + r))), (1, .ref (a (7 + k)))] u [] := by
  have C := B.1
  unfold f_R_advanceEnding_36 at hE
  refine j_aload_n C 0 dX2_advanceEnding_36 rfl ?_
  refine j_get C kf_2 (23 + r) (pl_rg hr) 3 (by decide) lk_2_22 rfl dX2_advanceEnding_37 ?_
  refine j_iconst C 3 dX2_advanceEnding_40 ic_3 ?_
  refine j_icmp_ne C 61 dX2_advanceEnding_41 (by decide) (fun c1 => ?_) (fun c1 => ?_)
  · have hE := (if_neg c1).symm.trans hE
    exact B.2.2 _ _ _ dX2_advanceEnding_61 hE
  · have hE := (if_pos c1).symm.trans hE
    refine j_aload_n C 0 dX2_advanceEnding_44 rfl ?_
    refine j_get C kf_2 (23 + r) (pl_rg hr) 4 (by decide) lk_2_34 rfl dX2_advanceEnding_45 ?_
    refine j_aload_n C 1 dX2_advanceEnding_48 rfl ?_
    refine j_get C kf_1 (7 + k) (pl_mv hk) 0 (by decide) lk_2_51 rfl dX2_advanceEnding_49 ?_
    refine j_iconst C 4 dX2_advanceEnding_52 ic_4 ?_
    refine j_iald C (15 + k) 0 (pl_times hk) rfl 4 ix_4 (by decide) (by decide) dX2_advanceEnding_53 ?_
    refine j_icmp_lt C 61 dX2_advanceEnding_54 (by decide) (fun c2 => ?_) (fun c2 => ?_)
    · have hE := (if_pos c2).symm.trans hE
      exact B.2.2 _ _ _ dX2_advanceEnding_61 hE
    · have hE := (if_neg c2).symm.trans hE
      refine j_aload_n C 0 dX2_advanceEnding_57 rfl ?_
      refine j_cVV C B.2.1 (c_R_goDark l D z a u r hr) gv_2_75 dd_R_goDark ⟨⟨rfl, rfl⟩, Nat.le_of_ble_eq_true rfl, Nat.le_of_ble_eq_true rfl⟩ (23 + r) 2 (pl_rg hr) rfl rfl rfl rfl (Nat.le_of_ble_eq_true rfl) dX2_advanceEnding_58 ?_
      exact B.2.2 _ _ _ dX2_advanceEnding_61 hE
def f_R_advanceEnding_10 (u : St) (r : Nat) (k : Nat) : St := (if (u 31 r) = (2 : Int32) then (if (u 32 r) < (u (20 + k) 3) then (f_R_advanceEnding_36 u r k) else (f_R_advanceEnding_36 (f_R_enter u r (3 : Int32)) r k)) else (f_R_advanceEnding_36 u r k))
set_option maxRecDepth 20000 in
set_option maxHeartbeats 1000000 in
theorem w_R_advanceEnding_10 {F : St} {u : St} (B : jk_BV p l e R s m args below meth c cX2_advanceEnding 2 RX2 TT D clA (tyl z) (cW z a) A Q rm_R_advanceEnding F) {r : Nat} (hr : r < 2) {k : Nat} (hk : k < 8) (hE : f_R_advanceEnding_10 u r k = F) : JJ p l e R s m args below meth c 0 0 2 D clA (cW z a) A Q 10 [(0, .ref (a (23 + r))), (1, .ref (a (7 + k)))] u [] := by
  have C := B.1
  unfold f_R_advanceEnding_10 at hE
  refine j_aload_n C 0 dX2_advanceEnding_10 rfl ?_
  refine j_get C kf_2 (23 + r) (pl_rg hr) 3 (by decide) lk_2_22 rfl dX2_advanceEnding_11 ?_
  refine j_iconst C 2 dX2_advanceEnding_14 ic_2 ?_
  refine j_icmp_ne C 36 dX2_advanceEnding_15 (by decide) (fun c1 => ?_) (fun c1 => ?_)
  · have hE := (if_neg c1).symm.trans hE
    exact w_R_advanceEnding_36 B hr hk hE
  · have hE := (if_pos c1).symm.trans hE
    refine j_aload_n C 0 dX2_advanceEnding_18 rfl ?_
    refine j_get C kf_2 (23 + r) (pl_rg hr) 4 (by decide) lk_2_34 rfl dX2_advanceEnding_19 ?_
    refine j_aload_n C 1 dX2_advanceEnding_22 rfl ?_
    refine j_get C kf_1 (7 + k) (pl_mv hk) 0 (by decide) lk_2_51 rfl dX2_advanceEnding_23 ?_
    refine j_iconst C 3 dX2_advanceEnding_26 ic_3 ?_
    refine j_iald C (15 + k) 0 (pl_times hk) rfl 3 ix_3 (by decide) (by decide) dX2_advanceEnding_27 ?_
    refine j_icmp_lt C 36 dX2_advanceEnding_28 (by decide) (fun c2 => ?_) (fun c2 => ?_)
    · have hE := (if_pos c2).symm.trans hE
      exact w_R_advanceEnding_36 B hr hk hE
    · have hE := (if_neg c2).symm.trans hE
      refine j_aload_n C 0 dX2_advanceEnding_31 rfl ?_
      refine j_iconst C 3 dX2_advanceEnding_32 ic_3 ?_
      refine j_cVV C B.2.1 (c_R_enter l D z a u r (3 : Int32) hr) gv_2_47 dd_R_enter ⟨⟨rfl, rfl⟩, Nat.le_of_ble_eq_true rfl, Nat.le_of_ble_eq_true rfl⟩ (23 + r) 2 (pl_rg hr) rfl rfl rfl rfl (Nat.le_of_ble_eq_true rfl) dX2_advanceEnding_33 ?_
      exact w_R_advanceEnding_36 B hr hk hE
def f_R_advanceEnding (u : St) (r : Nat) (k : Nat) : St := (f_R_advanceEnding_10 (up2 u 32 r ((u 32 r) + (1 : Int32))) r k)
set_option maxRecDepth 20000 in
set_option maxHeartbeats 1000000 in
theorem w_R_advanceEnding_0 {F : St} {u : St} (B : jk_BV p l e R s m args below meth c cX2_advanceEnding 2 RX2 TT D clA (tyl z) (cW z a) A Q rm_R_advanceEnding F) {r : Nat} (hr : r < 2) {k : Nat} (hk : k < 8) (hE : f_R_advanceEnding u r k = F) : JJ p l e R s m args below meth c 0 0 2 D clA (cW z a) A Q 0 [(0, .ref (a (23 + r))), (1, .ref (a (7 + k)))] u [] := by
  have C := B.1
  unfold f_R_advanceEnding at hE
  refine j_aload_n C 0 dX2_advanceEnding_0 rfl ?_
  refine j_dup C dX2_advanceEnding_1 rfl ?_
  refine j_get C kf_2 (23 + r) (pl_rg hr) 4 (by decide) lk_2_34 rfl dX2_advanceEnding_2 ?_
  refine j_iconst C 1 dX2_advanceEnding_5 ic_1 ?_
  refine j_iadd C dX2_advanceEnding_6 ?_
  refine j_put C kf_2 (23 + r) (pl_rg hr) 4 (by decide) lk_2_34 rfl rfl rfl (Nat.le_of_ble_eq_true rfl) (pu_rg_age hr) dX2_advanceEnding_7 ?_
  exact w_R_advanceEnding_10 B hr hk hE
theorem c_R_advanceEnding (l : Launch) (D : va_G) (z : Nat → ClassId) (a : Nat → Nat) (u : St) (r : Nat) (k : Nat) (hr : r < 2) (hk : k < 8) : CtV l yX2_advanceEnding (.code yX2_advanceEnding cX2_advanceEnding 2 none :: TT) rm_R_advanceEnding D clA (tyl z) (cW z a) [.ref (a (23 + r)), .ref (a (7 + k))] u (f_R_advanceEnding u r k) :=
  jk_metV (own := RX2) (by decide) rfl (Nat.le_of_ble_eq_true rfl) (fun _ _ _ _ _ _ _ _ _ _ _ B => w_R_advanceEnding_0 B hr hk rfl)
def rm_ringOf : Room := { frames := 0, cells := 0, slots := 0, locals := 0 }
def f_ringOf (k0 : Nat) : Int32 := (nI (k0 / 4))
set_option maxRecDepth 20000 in
set_option maxHeartbeats 1000000 in
theorem w_ringOf_0 {Fr : Int32} {u : St} (B : jk_BI p l e R s m args below meth c cX3_ringOf 1 RX3 TT .int D clA (tyl z) (cW z a) A Q rm_ringOf (Fr, u)) {k0 : Nat} (hk0 : k0 < 8) (hE : f_ringOf k0 = Fr) : JJ p l e R s m args below meth c 0 0 1 D clA (cW z a) A Q 0 [(0, .int (nI k0))] u [] := by
  have C := B.1
  unfold f_ringOf at hE
  refine j_iload_n C 0 dX3_ringOf_0 rfl ?_
  refine j_iconst C 4 dX3_ringOf_1 ic_4 ?_
  refine j_idiv C (nI (k0 / 4)) dX3_ringOf_2 (by decide) (jk_div4 (by omega)) ?_
  exact B.2.2 _ _ _ _ dX3_ringOf_3 rfl (congrArg (fun x => (x, u)) hE)
theorem c_ringOf (l : Launch) (D : va_G) (z : Nat → ClassId) (a : Nat → Nat) (u : St) (k0 : Nat) (hk0 : k0 < 8) : CtI l yX3_ringOf (.code yX3_ringOf cX3_ringOf 1 (some .int) :: TT) rm_ringOf D clA (tyl z) (cW z a) [.int (nI k0)] u (f_ringOf k0) u :=
  jk_metI (own := RX3) (by decide) rfl (Nat.le_of_ble_eq_true rfl) (fun _ _ _ _ _ _ _ _ _ _ _ B => w_ringOf_0 B hk0 rfl)
def rm_sideOf : Room := { frames := 0, cells := 0, slots := 0, locals := 0 }
def f_sideOf (k0 : Nat) : Int32 := (nI ((k0 % 4) / 2))
set_option maxRecDepth 20000 in
set_option maxHeartbeats 1000000 in
theorem w_sideOf_0 {Fr : Int32} {u : St} (B : jk_BI p l e R s m args below meth c cX3_sideOf 1 RX3 TT .int D clA (tyl z) (cW z a) A Q rm_sideOf (Fr, u)) {k0 : Nat} (hk0 : k0 < 8) (hE : f_sideOf k0 = Fr) : JJ p l e R s m args below meth c 0 0 1 D clA (cW z a) A Q 0 [(0, .int (nI k0))] u [] := by
  have C := B.1
  unfold f_sideOf at hE
  refine j_iload_n C 0 dX3_sideOf_0 rfl ?_
  refine j_iconst C 4 dX3_sideOf_1 ic_4 ?_
  refine j_irem C (nI (k0 % 4)) dX3_sideOf_2 (by decide) (jk_rem4 (by omega)) ?_
  refine j_iconst C 2 dX3_sideOf_3 ic_2 ?_
  refine j_idiv C (nI ((k0 % 4) / 2)) dX3_sideOf_4 (by decide) (jk_div2 (by omega)) ?_
  exact B.2.2 _ _ _ _ dX3_sideOf_5 rfl (congrArg (fun x => (x, u)) hE)
theorem c_sideOf (l : Launch) (D : va_G) (z : Nat → ClassId) (a : Nat → Nat) (u : St) (k0 : Nat) (hk0 : k0 < 8) : CtI l yX3_sideOf (.code yX3_sideOf cX3_sideOf 1 (some .int) :: TT) rm_sideOf D clA (tyl z) (cW z a) [.int (nI k0)] u (f_sideOf k0) u :=
  jk_metI (own := RX3) (by decide) rfl (Nat.le_of_ble_eq_true rfl) (fun _ _ _ _ _ _ _ _ _ _ _ B => w_sideOf_0 B hk0 rfl)
def rm_areInWay : Room := { frames := 1, cells := 0, slots := 0, locals := 20 }
def f_areInWay (k0 : Nat) (k1 : Nat) : Int32 := (if (nI k0) = (nI k1) then (if (f_sideOf k0) = (f_sideOf k1) then (0 : Int32) else (1 : Int32)) else (if (f_ringOf k0) = (f_ringOf k1) then (1 : Int32) else (if (f_sideOf k0) = (f_sideOf k1) then (0 : Int32) else (1 : Int32))))
set_option maxRecDepth 20000 in
set_option maxHeartbeats 1000000 in
theorem w_areInWay_0 {Fr : Int32} {u : St} (B : jk_BI p l e R s m args below meth c cX3_areInWay 2 RX3 TT .boolean D clA (tyl z) (cW z a) A Q rm_areInWay (Fr, u)) {k0 : Nat} (hk0 : k0 < 8) {k1 : Nat} (hk1 : k1 < 8) (hE : f_areInWay k0 k1 = Fr) : JJ p l e R s m args below meth c 0 0 2 D clA (cW z a) A Q 0 [(0, .int (nI k0)), (1, .int (nI k1))] u [] := by
  have C := B.1
  unfold f_areInWay at hE
  refine j_iload_n C 0 dX3_areInWay_0 rfl ?_
  refine j_iload_n C 1 dX3_areInWay_1 rfl ?_
  refine j_icmp_eq C 16 dX3_areInWay_2 (by decide) (fun c1 => ?_) (fun c1 => ?_)
  · have hE := (if_pos c1).symm.trans hE
    refine j_iload_n C 0 dX3_areInWay_16 rfl ?_
    refine j_cIS C B.2.1 (c_sideOf l D z a u k0 hk0) gv_3_243 dd_sideOf ⟨⟨rfl, rfl⟩, Nat.le_of_ble_eq_true rfl, Nat.le_of_ble_eq_true rfl⟩ rfl rfl (Nat.le_of_ble_eq_true rfl) dX3_areInWay_17 ?_
    refine j_iload_n C 1 dX3_areInWay_20 rfl ?_
    refine j_cIS C B.2.1 (c_sideOf l D z a u k1 hk1) gv_3_243 dd_sideOf ⟨⟨rfl, rfl⟩, Nat.le_of_ble_eq_true rfl, Nat.le_of_ble_eq_true rfl⟩ rfl rfl (Nat.le_of_ble_eq_true rfl) dX3_areInWay_21 ?_
    refine j_icmp_eq C 31 dX3_areInWay_24 (by decide) (fun c2 => ?_) (fun c2 => ?_)
    · have hE := (if_pos c2).symm.trans hE
      refine j_iconst C 0 dX3_areInWay_31 ic_0 ?_
      exact B.2.2 _ _ _ _ dX3_areInWay_32 rfl (congrArg (fun x => (x, u)) hE)
    · have hE := (if_neg c2).symm.trans hE
      refine j_iconst C 1 dX3_areInWay_27 ic_1 ?_
      refine j_goto C 32 dX3_areInWay_28 (by decide) ?_
      exact B.2.2 _ _ _ _ dX3_areInWay_32 rfl (congrArg (fun x => (x, u)) hE)
  · have hE := (if_neg c1).symm.trans hE
    refine j_iload_n C 0 dX3_areInWay_5 rfl ?_
    refine j_cIS C B.2.1 (c_ringOf l D z a u k0 hk0) gv_3_115 dd_ringOf ⟨⟨rfl, rfl⟩, Nat.le_of_ble_eq_true rfl, Nat.le_of_ble_eq_true rfl⟩ rfl rfl (Nat.le_of_ble_eq_true rfl) dX3_areInWay_6 ?_
    refine j_iload_n C 1 dX3_areInWay_9 rfl ?_
    refine j_cIS C B.2.1 (c_ringOf l D z a u k1 hk1) gv_3_115 dd_ringOf ⟨⟨rfl, rfl⟩, Nat.le_of_ble_eq_true rfl, Nat.le_of_ble_eq_true rfl⟩ rfl rfl (Nat.le_of_ble_eq_true rfl) dX3_areInWay_10 ?_
    refine j_icmp_eq C 27 dX3_areInWay_13 (by decide) (fun c3 => ?_) (fun c3 => ?_)
    · have hE := (if_pos c3).symm.trans hE
      refine j_iconst C 1 dX3_areInWay_27 ic_1 ?_
      refine j_goto C 32 dX3_areInWay_28 (by decide) ?_
      exact B.2.2 _ _ _ _ dX3_areInWay_32 rfl (congrArg (fun x => (x, u)) hE)
    · have hE := (if_neg c3).symm.trans hE
      refine j_iload_n C 0 dX3_areInWay_16 rfl ?_
      refine j_cIS C B.2.1 (c_sideOf l D z a u k0 hk0) gv_3_243 dd_sideOf ⟨⟨rfl, rfl⟩, Nat.le_of_ble_eq_true rfl, Nat.le_of_ble_eq_true rfl⟩ rfl rfl (Nat.le_of_ble_eq_true rfl) dX3_areInWay_17 ?_
      refine j_iload_n C 1 dX3_areInWay_20 rfl ?_
      refine j_cIS C B.2.1 (c_sideOf l D z a u k1 hk1) gv_3_243 dd_sideOf ⟨⟨rfl, rfl⟩, Nat.le_of_ble_eq_true rfl, Nat.le_of_ble_eq_true rfl⟩ rfl rfl (Nat.le_of_ble_eq_true rfl) dX3_areInWay_21 ?_
      refine j_icmp_eq C 31 dX3_areInWay_24 (by decide) (fun c4 => ?_) (fun c4 => ?_)
      · have hE := (if_pos c4).symm.trans hE
        refine j_iconst C 0 dX3_areInWay_31 ic_0 ?_
        exact B.2.2 _ _ _ _ dX3_areInWay_32 rfl (congrArg (fun x => (x, u)) hE)
      · have hE := (if_neg c4).symm.trans hE
        refine j_iconst C 1 dX3_areInWay_27 ic_1 ?_
        refine j_goto C 32 dX3_areInWay_28 (by decide) ?_
        exact B.2.2 _ _ _ _ dX3_areInWay_32 rfl (congrArg (fun x => (x, u)) hE)
theorem c_areInWay (l : Launch) (D : va_G) (z : Nat → ClassId) (a : Nat → Nat) (u : St) (k0 : Nat) (k1 : Nat) (hk0 : k0 < 8) (hk1 : k1 < 8) : CtI l yX3_areInWay (.code yX3_areInWay cX3_areInWay 2 (some .boolean) :: TT) rm_areInWay D clA (tyl z) (cW z a) [.int (nI k0), .int (nI k1)] u (f_areInWay k0 k1) u :=
  jk_metI (own := RX3) (by decide) rfl (Nat.le_of_ble_eq_true rfl) (fun _ _ _ _ _ _ _ _ _ _ _ B => w_areInWay_0 B hk0 hk1 rfl)
end WLK

section WLK
variable {p : Program} {l : Launch} {e : Env} {R : Room} {s : State} {m : MethodId} {args : Array Value} {below : List Frame} {meth : Method} {c : Code} {D : va_G} {z : Nat → ClassId} {a : Nat → Nat} {A : Nat → Prop} {Q : State → Prop}
def rm_R_endGreen : Room := { frames := 1, cells := 0, slots := 0, locals := 21 }
def f_R_endGreen (u : St) (r : Nat) (x0 : Int32) : St := (up2 (f_R_enter u r (2 : Int32)) 35 r x0)
set_option maxRecDepth 20000 in
set_option maxHeartbeats 1000000 in
theorem w_R_endGreen_0 {F : St} {u : St} (B : jk_BV p l e R s m args below meth c cX2_endGreen 2 RX2 TT D clA (tyl z) (cW z a) A Q rm_R_endGreen F) {r : Nat} (hr : r < 2) (x0 : Int32) (hE : f_R_endGreen u r x0 = F) : JJ p l e R s m args below meth c 0 0 2 D clA (cW z a) A Q 0 [(0, .ref (a (23 + r))), (1, .int x0)] u [] := by
  have C := B.1
  unfold f_R_endGreen at hE
  refine j_aload_n C 0 dX2_endGreen_0 rfl ?_
  refine j_iconst C 2 dX2_endGreen_1 ic_2 ?_
  refine j_cVV C B.2.1 (c_R_enter l D z a u r (2 : Int32) hr) gv_2_47 dd_R_enter ⟨⟨rfl, rfl⟩, Nat.le_of_ble_eq_true rfl, Nat.le_of_ble_eq_true rfl⟩ (23 + r) 2 (pl_rg hr) rfl rfl rfl rfl (Nat.le_of_ble_eq_true rfl) dX2_endGreen_2 ?_
  refine j_aload_n C 0 dX2_endGreen_5 rfl ?_
  refine j_iload_n C 1 dX2_endGreen_6 rfl ?_
  refine j_put C kf_2 (23 + r) (pl_rg hr) 7 (by decide) lk_2_25 rfl rfl rfl (Nat.le_of_ble_eq_true rfl) (pu_rg_next hr) dX2_endGreen_7 ?_
  exact B.2.2 _ _ _ dX2_endGreen_10 hE
theorem c_R_endGreen (l : Launch) (D : va_G) (z : Nat → ClassId) (a : Nat → Nat) (u : St) (r : Nat) (x0 : Int32) (hr : r < 2) : CtV l yX2_endGreen (.code yX2_endGreen cX2_endGreen 2 none :: TT) rm_R_endGreen D clA (tyl z) (cW z a) [.ref (a (23 + r)), .int x0] u (f_R_endGreen u r x0) :=
  jk_metV (own := RX2) (by decide) rfl (Nat.le_of_ble_eq_true rfl) (fun _ _ _ _ _ _ _ _ _ _ _ B => w_R_endGreen_0 B hr x0 rfl)
def rm_R_goDark : Room := { frames := 1, cells := 0, slots := 0, locals := 21 }
def f_R_goDark (u : St) (r : Nat) : St := (up2 (f_R_enter u r (0 : Int32)) 30 r (-1 : Int32))
set_option maxRecDepth 20000 in
set_option maxHeartbeats 1000000 in
theorem w_R_goDark_0 {F : St} {u : St} (B : jk_BV p l e R s m args below meth c cX2_goDark 1 RX2 TT D clA (tyl z) (cW z a) A Q rm_R_goDark F) {r : Nat} (hr : r < 2) (hE : f_R_goDark u r = F) : JJ p l e R s m args below meth c 0 0 1 D clA (cW z a) A Q 0 [(0, .ref (a (23 + r)))] u [] := by
  have C := B.1
  unfold f_R_goDark at hE
  refine j_aload_n C 0 dX2_goDark_0 rfl ?_
  refine j_iconst C 0 dX2_goDark_1 ic_0 ?_
  refine j_cVV C B.2.1 (c_R_enter l D z a u r (0 : Int32) hr) gv_2_47 dd_R_enter ⟨⟨rfl, rfl⟩, Nat.le_of_ble_eq_true rfl, Nat.le_of_ble_eq_true rfl⟩ (23 + r) 2 (pl_rg hr) rfl rfl rfl rfl (Nat.le_of_ble_eq_true rfl) dX2_goDark_2 ?_
  refine j_aload_n C 0 dX2_goDark_5 rfl ?_
  refine j_iconst C (-1) dX2_goDark_6 ic_m1 ?_
  refine j_put C kf_2 (23 + r) (pl_rg hr) 2 (by decide) lk_2_19 rfl rfl rfl (Nat.le_of_ble_eq_true rfl) (pu_rg_movement hr) dX2_goDark_7 ?_
  exact B.2.2 _ _ _ dX2_goDark_10 hE
theorem c_R_goDark (l : Launch) (D : va_G) (z : Nat → ClassId) (a : Nat → Nat) (u : St) (r : Nat) (hr : r < 2) : CtV l yX2_goDark (.code yX2_goDark cX2_goDark 1 none :: TT) rm_R_goDark D clA (tyl z) (cW z a) [.ref (a (23 + r))] u (f_R_goDark u r) :=
  jk_metV (own := RX2) (by decide) rfl (Nat.le_of_ble_eq_true rfl) (fun _ _ _ _ _ _ _ _ _ _ _ B => w_R_goDark_0 B hr rfl)
def rm_R_advanceEnding : Room := { frames := 2, cells := 0, slots := 0, locals := 41 }
def f_R_advanceEnding (u : St) (r : Nat) (k : Nat) : St := (if ((up2 u 32 r ((u 32 r) + (1 : Int32))) 31 r) = (2 : Int32) then (if ((up2 u 32 r ((u 32 r) + (1 : Int32))) 32 r) < ((up2 u 32 r ((u 32 r) + (1 : Int32))) (20 + k) 3) then (if ((up2 u 32 r ((u 32 r) + (1 : Int32))) 31 r) = (3 : Int32) then (if ((up2 u 32 r ((u 32 r) + (1 : Int32))) 32 r) < ((up2 u 32 r ((u 32 r) + (1 : Int32))) (20 + k) 4) then (up2 u 32 r ((u 32 r) + (1 : Int32))) else (f_R_goDark (up2 u 32 r ((u 32 r) + (1 : Int32))) r)) else (up2 u 32 r ((u 32 r) + (1 : Int32)))) else (if ((f_R_enter (up2 u 32 r ((u 32 r) + (1 : Int32))) r (3 : Int32)) 31 r) = (3 : Int32) then (if ((f_R_enter (up2 u 32 r ((u 32 r) + (1 : Int32))) r (3 : Int32)) 32 r) < ((f_R_enter (up2 u 32 r ((u 32 r) + (1 : Int32))) r (3 : Int32)) (20 + k) 4) then (f_R_enter (up2 u 32 r ((u 32 r) + (1 : Int32))) r (3 : Int32)) else (f_R_goDark (f_R_enter (up2 u 32 r ((u 32 r) + (1 : Int32))) r (3 : Int32)) r)) else (f_R_enter (up2 u 32 r ((u 32 r) + (1 : Int32))) r (3 : Int32)))) else (if ((up2 u 32 r ((u 32 r) + (1 : Int32))) 31 r) = (3 : Int32) then (if ((up2 u 32 r ((u 32 r) + (1 : Int32))) 32 r) < ((up2 u 32 r ((u 32 r) + (1 : Int32))) (20 + k) 4) then (up2 u 32 r ((u 32 r) + (1 : Int32))) else (f_R_goDark (up2 u 32 r ((u 32 r) + (1 : Int32))) r)) else (up2 u 32 r ((u 32 r) + (1 : Int32)))))
set_option maxRecDepth 20000 in
set_option maxHeartbeats 1000000 in
theorem w_R_advanceEnding_0 {F : St} {u : St} (B : jk_BV p l e R s m args below meth c cX2_advanceEnding 2 RX2 TT D clA (tyl z) (cW z a) A Q rm_R_advanceEnding F) {r : Nat} (hr : r < 2) {k : Nat} (hk : k < 8) (hE : f_R_advanceEnding u r k = F) : JJ p l e R s m args below meth c 0 0 2 D clA (cW z a) A Q 0 [(0, .ref (a (23 + r))), (1, .ref (a (7 + k)))] u [] := by
  have C := B.1
  unfold f_R_advanceEnding at hE
  refine j_aload_n C 0 dX2_advanceEnding_0 rfl ?_
  refine j_dup C dX2_advanceEnding_1 rfl ?_
  refine j_get C kf_2 (23 + r) (pl_rg hr) 4 (by decide) lk_2_34 rfl dX2_advanceEnding_2 ?_
  refine j_iconst C 1 dX2_advanceEnding_5 ic_1 ?_
  refine j_iadd C dX2_advanceEnding_6 ?_
  refine j_put C kf_2 (23 + r) (pl_rg hr) 4 (by decide) lk_2_34 rfl rfl rfl (Nat.le_of_ble_eq_true rfl) (pu_rg_age hr) dX2_advanceEnding_7 ?_
  refine j_aload_n C 0 dX2_advanceEnding_10 rfl ?_
  refine j_get C kf_2 (23 + r) (pl_rg hr) 3 (by decide) lk_2_22 rfl dX2_advanceEnding_11 ?_
  refine j_iconst C 2 dX2_advanceEnding_14 ic_2 ?_
  refine j_icmp_ne C 36 dX2_advanceEnding_15 (by decide) (fun c1 => ?_) (fun c1 => ?_)
  · have hE := (if_neg c1).symm.trans hE
    refine j_aload_n C 0 dX2_advanceEnding_36 rfl ?_
    refine j_get C kf_2 (23 + r) (pl_rg hr) 3 (by decide) lk_2_22 rfl dX2_advanceEnding_37 ?_
    refine j_iconst C 3 dX2_advanceEnding_40 ic_3 ?_
    refine j_icmp_ne C 61 dX2_advanceEnding_41 (by decide) (fun c2 => ?_) (fun c2 => ?_)
    · have hE := (if_neg c2).symm.trans hE
      exact B.2.2 _ _ _ dX2_advanceEnding_61 hE
    · have hE := (if_pos c2).symm.trans hE
      refine j_aload_n C 0 dX2_advanceEnding_44 rfl ?_
      refine j_get C kf_2 (23 + r) (pl_rg hr) 4 (by decide) lk_2_34 rfl dX2_advanceEnding_45 ?_
      refine j_aload_n C 1 dX2_advanceEnding_48 rfl ?_
      refine j_get C kf_1 (7 + k) (pl_mv hk) 0 (by decide) lk_2_51 rfl dX2_advanceEnding_49 ?_
      refine j_iconst C 4 dX2_advanceEnding_52 ic_4 ?_
      refine j_iald C (15 + k) 0 (pl_times hk) rfl 4 ix_4 (by decide) (by decide) dX2_advanceEnding_53 ?_
      refine j_icmp_lt C 61 dX2_advanceEnding_54 (by decide) (fun c3 => ?_) (fun c3 => ?_)
      · have hE := (if_pos c3).symm.trans hE
        exact B.2.2 _ _ _ dX2_advanceEnding_61 hE
      · have hE := (if_neg c3).symm.trans hE
        refine j_aload_n C 0 dX2_advanceEnding_57 rfl ?_
        refine j_cVV C B.2.1 (c_R_goDark l D z a (up2 u 32 r ((u 32 r) + (1 : Int32))) r hr) gv_2_75 dd_R_goDark ⟨⟨rfl, rfl⟩, Nat.le_of_ble_eq_true rfl, Nat.le_of_ble_eq_true rfl⟩ (23 + r) 2 (pl_rg hr) rfl rfl rfl rfl (Nat.le_of_ble_eq_true rfl) dX2_advanceEnding_58 ?_
        exact B.2.2 _ _ _ dX2_advanceEnding_61 hE
  · have hE := (if_pos c1).symm.trans hE
    refine j_aload_n C 0 dX2_advanceEnding_18 rfl ?_
    refine j_get C kf_2 (23 + r) (pl_rg hr) 4 (by decide) lk_2_34 rfl dX2_advanceEnding_19 ?_
    refine j_aload_n C 1 dX2_advanceEnding_22 rfl ?_
    refine j_get C kf_1 (7 + k) (pl_mv hk) 0 (by decide) lk_2_51 rfl dX2_advanceEnding_23 ?_
    refine j_iconst C 3 dX2_advanceEnding_26 ic_3 ?_
    refine j_iald C (15 + k) 0 (pl_times hk) rfl 3 ix_3 (by decide) (by decide) dX2_advanceEnding_27 ?_
    refine j_icmp_lt C 36 dX2_advanceEnding_28 (by decide) (fun c4 => ?_) (fun c4 => ?_)
    · have hE := (if_pos c4).symm.trans hE
      refine j_aload_n C 0 dX2_advanceEnding_36 rfl ?_
      refine j_get C kf_2 (23 + r) (pl_rg hr) 3 (by decide) lk_2_22 rfl dX2_advanceEnding_37 ?_
      refine j_iconst C 3 dX2_advanceEnding_40 ic_3 ?_
      refine j_icmp_ne C 61 dX2_advanceEnding_41 (by decide) (fun c5 => ?_) (fun c5 => ?_)
      · have hE := (if_neg c5).symm.trans hE
        exact B.2.2 _ _ _ dX2_advanceEnding_61 hE
      · have hE := (if_pos c5).symm.trans hE
        refine j_aload_n C 0 dX2_advanceEnding_44 rfl ?_
        refine j_get C kf_2 (23 + r) (pl_rg hr) 4 (by decide) lk_2_34 rfl dX2_advanceEnding_45 ?_
        refine j_aload_n C 1 dX2_advanceEnding_48 rfl ?_
        refine j_get C kf_1 (7 + k) (pl_mv hk) 0 (by decide) lk_2_51 rfl dX2_advanceEnding_49 ?_
        refine j_iconst C 4 dX2_advanceEnding_52 ic_4 ?_
        refine j_iald C (15 + k) 0 (pl_times hk) rfl 4 ix_4 (by decide) (by decide) dX2_advanceEnding_53 ?_
        refine j_icmp_lt C 61 dX2_advanceEnding_54 (by decide) (fun c6 => ?_) (fun c6 => ?_)
        · have hE := (if_pos c6).symm.trans hE
          exact B.2.2 _ _ _ dX2_advanceEnding_61 hE
        · have hE := (if_neg c6).symm.trans hE
          refine j_aload_n C 0 dX2_advanceEnding_57 rfl ?_
          refine j_cVV C B.2.1 (c_R_goDark l D z a (up2 u 32 r ((u 32 r) + (1 : Int32))) r hr) gv_2_75 dd_R_goDark ⟨⟨rfl, rfl⟩, Nat.le_of_ble_eq_true rfl, Nat.le_of_ble_eq_true rfl⟩ (23 + r) 2 (pl_rg hr) rfl rfl rfl rfl (Nat.le_of_ble_eq_true rfl) dX2_advanceEnding_58 ?_
          exact B.2.2 _ _ _ dX2_advanceEnding_61 hE
    · have hE := (if_neg c4).symm.trans hE
      refine j_aload_n C 0 dX2_advanceEnding_31 rfl ?_
      refine j_iconst C 3 dX2_advanceEnding_32 ic_3 ?_
      refine j_cVV C B.2.1 (c_R_enter l D z a (up2 u 32 r ((u 32 r) + (1 : Int32))) r (3 : Int32) hr) gv_2_47 dd_R_enter ⟨⟨rfl, rfl⟩, Nat.le_of_ble_eq_true rfl, Nat.le_of_ble_eq_true rfl⟩ (23 + r) 2 (pl_rg hr) rfl rfl rfl rfl (Nat.le_of_ble_eq_true rfl) dX2_advanceEnding_33 ?_
      refine j_aload_n C 0 dX2_advanceEnding_36 rfl ?_
      refine j_get C kf_2 (23 + r) (pl_rg hr) 3 (by decide) lk_2_22 rfl dX2_advanceEnding_37 ?_
      refine j_iconst C 3 dX2_advanceEnding_40 ic_3 ?_
      refine j_icmp_ne C 61 dX2_advanceEnding_41 (by decide) (fun c7 => ?_) (fun c7 => ?_)
      · have hE := (if_neg c7).symm.trans hE
        exact B.2.2 _ _ _ dX2_advanceEnding_61 hE
      · have hE := (if_pos c7).symm.trans hE
        refine j_aload_n C 0 dX2_advanceEnding_44 rfl ?_
        refine j_get C kf_2 (23 + r) (pl_rg hr) 4 (by decide) lk_2_34 rfl dX2_advanceEnding_45 ?_
        refine j_aload_n C 1 dX2_advanceEnding_48 rfl ?_
        refine j_get C kf_1 (7 + k) (pl_mv hk) 0 (by decide) lk_2_51 rfl dX2_advanceEnding_49 ?_
        refine j_iconst C 4 dX2_advanceEnding_52 ic_4 ?_
        refine j_iald C (15 + k) 0 (pl_times hk) rfl 4 ix_4 (by decide) (by decide) dX2_advanceEnding_53 ?_
        refine j_icmp_lt C 61 dX2_advanceEnding_54 (by decide) (fun c8 => ?_) (fun c8 => ?_)
        · have hE := (if_pos c8).symm.trans hE
          exact B.2.2 _ _ _ dX2_advanceEnding_61 hE
        · have hE := (if_neg c8).symm.trans hE
          refine j_aload_n C 0 dX2_advanceEnding_57 rfl ?_
          refine j_cVV C B.2.1 (c_R_goDark l D z a (f_R_enter (up2 u 32 r ((u 32 r) + (1 : Int32))) r (3 : Int32)) r hr) gv_2_75 dd_R_goDark ⟨⟨rfl, rfl⟩, Nat.le_of_ble_eq_true rfl, Nat.le_of_ble_eq_true rfl⟩ (23 + r) 2 (pl_rg hr) rfl rfl rfl rfl (Nat.le_of_ble_eq_true rfl) dX2_advanceEnding_58 ?_
          exact B.2.2 _ _ _ dX2_advanceEnding_61 hE
theorem c_R_advanceEnding (l : Launch) (D : va_G) (z : Nat → ClassId) (a : Nat → Nat) (u : St) (r : Nat) (k : Nat) (hr : r < 2) (hk : k < 8) : CtV l yX2_advanceEnding (.code yX2_advanceEnding cX2_advanceEnding 2 none :: TT) rm_R_advanceEnding D clA (tyl z) (cW z a) [.ref (a (23 + r)), .ref (a (7 + k))] u (f_R_advanceEnding u r k) :=
  jk_metV (own := RX2) (by decide) rfl (Nat.le_of_ble_eq_true rfl) (fun _ _ _ _ _ _ _ _ _ _ _ B => w_R_advanceEnding_0 B hr hk rfl)
def rm_ringOf : Room := { frames := 0, cells := 0, slots := 0, locals := 0 }
def f_ringOf (k0 : Nat) : Int32 := (nI (k0 / 4))
set_option maxRecDepth 20000 in
set_option maxHeartbeats 1000000 in
theorem w_ringOf_0 {Fr : Int32} {u : St} (B : jk_BI p l e R s m args below meth c cX3_ringOf 1 RX3 TT .int D clA (tyl z) (cW z a) A Q rm_ringOf (Fr, u)) {k0 : Nat} (hk0 : k0 < 8) (hE : f_ringOf k0 = Fr) : JJ p l e R s m args below meth c 0 0 1 D clA (cW z a) A Q 0 [(0, .int (nI k0))] u [] := by
  have C := B.1
  unfold f_ringOf at hE
  refine j_iload_n C 0 dX3_ringOf_0 rfl ?_
  refine j_iconst C 4 dX3_ringOf_1 ic_4 ?_
  refine j_idiv C (nI (k0 / 4)) dX3_ringOf_2 (by decide) (jk_div4 (by omega)) ?_
  exact B.2.2 _ _ _ _ dX3_ringOf_3 rfl (congrArg (fun x => (x, u)) hE)
theorem c_ringOf (l : Launch) (D : va_G) (z : Nat → ClassId) (a : Nat → Nat) (u : St) (k0 : Nat) (hk0 : k0 < 8) : CtI l yX3_ringOf (.code yX3_ringOf cX3_ringOf 1 (some .int) :: TT) rm_ringOf D clA (tyl z) (cW z a) [.int (nI k0)] u (f_ringOf k0) u :=
  jk_metI (own := RX3) (by decide) rfl (Nat.le_of_ble_eq_true rfl) (fun _ _ _ _ _ _ _ _ _ _ _ B => w_ringOf_0 B hk0 rfl)
def rm_sideOf : Room := { frames := 0, cells := 0, slots := 0, locals := 0 }
def f_sideOf (k0 : Nat) : Int32 := (nI ((k0 % 4) / 2))
set_option maxRecDepth 20000 in
set_option maxHeartbeats 1000000 in
theorem w_sideOf_0 {Fr : Int32} {u : St} (B : jk_BI p l e R s m args below meth c cX3_sideOf 1 RX3 TT .int D clA (tyl z) (cW z a) A Q rm_sideOf (Fr, u)) {k0 : Nat} (hk0 : k0 < 8) (hE : f_sideOf k0 = Fr) : JJ p l e R s m args below meth c 0 0 1 D clA (cW z a) A Q 0 [(0, .int (nI k0))] u [] := by
  have C := B.1
  unfold f_sideOf at hE
  refine j_iload_n C 0 dX3_sideOf_0 rfl ?_
  refine j_iconst C 4 dX3_sideOf_1 ic_4 ?_
  refine j_irem C (nI (k0 % 4)) dX3_sideOf_2 (by decide) (jk_rem4 (by omega)) ?_
  refine j_iconst C 2 dX3_sideOf_3 ic_2 ?_
  refine j_idiv C (nI ((k0 % 4) / 2)) dX3_sideOf_4 (by decide) (jk_div2 (by omega)) ?_
  exact B.2.2 _ _ _ _ dX3_sideOf_5 rfl (congrArg (fun x => (x, u)) hE)
theorem c_sideOf (l : Launch) (D : va_G) (z : Nat → ClassId) (a : Nat → Nat) (u : St) (k0 : Nat) (hk0 : k0 < 8) : CtI l yX3_sideOf (.code yX3_sideOf cX3_sideOf 1 (some .int) :: TT) rm_sideOf D clA (tyl z) (cW z a) [.int (nI k0)] u (f_sideOf k0) u :=
  jk_metI (own := RX3) (by decide) rfl (Nat.le_of_ble_eq_true rfl) (fun _ _ _ _ _ _ _ _ _ _ _ B => w_sideOf_0 B hk0 rfl)
def rm_areInWay : Room := { frames := 1, cells := 0, slots := 0, locals := 20 }
def f_areInWay (k0 : Nat) (k1 : Nat) : Int32 := (if (nI k0) = (nI k1) then (if (f_sideOf k0) = (f_sideOf k1) then (0 : Int32) else (1 : Int32)) else (if (f_ringOf k0) = (f_ringOf k1) then (1 : Int32) else (if (f_sideOf k0) = (f_sideOf k1) then (0 : Int32) else (1 : Int32))))
set_option maxRecDepth 20000 in
set_option maxHeartbeats 1000000 in
theorem w_areInWay_0 {Fr : Int32} {u : St} (B : jk_BI p l e R s m args below meth c cX3_areInWay 2 RX3 TT .boolean D clA (tyl z) (cW z a) A Q rm_areInWay (Fr, u)) {k0 : Nat} (hk0 : k0 < 8) {k1 : Nat} (hk1 : k1 < 8) (hE : f_areInWay k0 k1 = Fr) : JJ p l e R s m args below meth c 0 0 2 D clA (cW z a) A Q 0 [(0, .int (nI k0)), (1, .int (nI k1))] u [] := by
  have C := B.1
  unfold f_areInWay at hE
  refine j_iload_n C 0 dX3_areInWay_0 rfl ?_
  refine j_iload_n C 1 dX3_areInWay_1 rfl ?_
  refine j_icmp_eq C 16 dX3_areInWay_2 (by decide) (fun c1 => ?_) (fun c1 => ?_)
  · have hE := (if_pos c1).symm.trans hE
    refine j_iload_n C 0 dX3_areInWay_16 rfl ?_
    refine j_cIS C B.2.1 (c_sideOf l D z a u k0 hk0) gv_3_243 dd_sideOf ⟨⟨rfl, rfl⟩, Nat.le_of_ble_eq_true rfl, Nat.le_of_ble_eq_true rfl⟩ rfl rfl (Nat.le_of_ble_eq_true rfl) dX3_areInWay_17 ?_
    refine j_iload_n C 1 dX3_areInWay_20 rfl ?_
    refine j_cIS C B.2.1 (c_sideOf l D z a u k1 hk1) gv_3_243 dd_sideOf ⟨⟨rfl, rfl⟩, Nat.le_of_ble_eq_true rfl, Nat.le_of_ble_eq_true rfl⟩ rfl rfl (Nat.le_of_ble_eq_true rfl) dX3_areInWay_21 ?_
    refine j_icmp_eq C 31 dX3_areInWay_24 (by decide) (fun c2 => ?_) (fun c2 => ?_)
    · have hE := (if_pos c2).symm.trans hE
      refine j_iconst C 0 dX3_areInWay_31 ic_0 ?_
      exact B.2.2 _ _ _ _ dX3_areInWay_32 rfl (congrArg (fun x => (x, u)) hE)
    · have hE := (if_neg c2).symm.trans hE
      refine j_iconst C 1 dX3_areInWay_27 ic_1 ?_
      refine j_goto C 32 dX3_areInWay_28 (by decide) ?_
      exact B.2.2 _ _ _ _ dX3_areInWay_32 rfl (congrArg (fun x => (x, u)) hE)
  · have hE := (if_neg c1).symm.trans hE
    refine j_iload_n C 0 dX3_areInWay_5 rfl ?_
    refine j_cIS C B.2.1 (c_ringOf l D z a u k0 hk0) gv_3_115 dd_ringOf ⟨⟨rfl, rfl⟩, Nat.le_of_ble_eq_true rfl, Nat.le_of_ble_eq_true rfl⟩ rfl rfl (Nat.le_of_ble_eq_true rfl) dX3_areInWay_6 ?_
    refine j_iload_n C 1 dX3_areInWay_9 rfl ?_
    refine j_cIS C B.2.1 (c_ringOf l D z a u k1 hk1) gv_3_115 dd_ringOf ⟨⟨rfl, rfl⟩, Nat.le_of_ble_eq_true rfl, Nat.le_of_ble_eq_true rfl⟩ rfl rfl (Nat.le_of_ble_eq_true rfl) dX3_areInWay_10 ?_
    refine j_icmp_eq C 27 dX3_areInWay_13 (by decide) (fun c3 => ?_) (fun c3 => ?_)
    · have hE := (if_pos c3).symm.trans hE
      refine j_iconst C 1 dX3_areInWay_27 ic_1 ?_
      refine j_goto C 32 dX3_areInWay_28 (by decide) ?_
      exact B.2.2 _ _ _ _ dX3_areInWay_32 rfl (congrArg (fun x => (x, u)) hE)
    · have hE := (if_neg c3).symm.trans hE
      refine j_iload_n C 0 dX3_areInWay_16 rfl ?_
      refine j_cIS C B.2.1 (c_sideOf l D z a u k0 hk0) gv_3_243 dd_sideOf ⟨⟨rfl, rfl⟩, Nat.le_of_ble_eq_true rfl, Nat.le_of_ble_eq_true rfl⟩ rfl rfl (Nat.le_of_ble_eq_true rfl) dX3_areInWay_17 ?_
      refine j_iload_n C 1 dX3_areInWay_20 rfl ?_
      refine j_cIS C B.2.1 (c_sideOf l D z a u k1 hk1) gv_3_243 dd_sideOf ⟨⟨rfl, rfl⟩, Nat.le_of_ble_eq_true rfl, Nat.le_of_ble_eq_true rfl⟩ rfl rfl (Nat.le_of_ble_eq_true rfl) dX3_areInWay_21 ?_
      refine j_icmp_eq C 31 dX3_areInWay_24 (by decide) (fun c4 => ?_) (fun c4 => ?_)
      · have hE := (if_pos c4).symm.trans hE
        refine j_iconst C 0 dX3_areInWay_31 ic_0 ?_
        exact B.2.2 _ _ _ _ dX3_areInWay_32 rfl (congrArg (fun x => (x, u)) hE)
      · have hE := (if_neg c4).symm.trans hE
        refine j_iconst C 1 dX3_areInWay_27 ic_1 ?_
        refine j_goto C 32 dX3_areInWay_28 (by decide) ?_
        exact B.2.2 _ _ _ _ dX3_areInWay_32 rfl (congrArg (fun x => (x, u)) hE)
theorem c_areInWay (l : Launch) (D : va_G) (z : Nat → ClassId) (a : Nat → Nat) (u : St) (k0 : Nat) (k1 : Nat) (hk0 : k0 < 8) (hk1 : k1 < 8) : CtI l yX3_areInWay (.code yX3_areInWay cX3_areInWay 2 (some .boolean) :: TT) rm_areInWay D clA (tyl z) (cW z a) [.int (nI k0), .int (nI k1)] u (f_areInWay k0 k1) u :=
  jk_metI (own := RX3) (by decide) rfl (Nat.le_of_ble_eq_true rfl) (fun _ _ _ _ _ _ _ _ _ _ _ B => w_areInWay_0 B hk0 hk1 rfl)
def rm_anyInTheWay : Room := { frames := 2, cells := 0, slots := 0, locals := 41 }
def f_anyInTheWay_12 (u : St)  (K : Int32) : Nat → Nat → Nat → Int32
  | 0, i, k1 => (K)
  | n + 1, i, k1 => (if (u 2 k1) = (0 : Int32) then (f_anyInTheWay_12 u K n (i + 1) k1) else (if (u 2 i) = (0 : Int32) then (f_anyInTheWay_12 u K n (i + 1) k1) else (if (f_areInWay k1 i) = (0 : Int32) then (f_anyInTheWay_12 u K n (i + 1) k1) else (1 : Int32))))
set_option maxRecDepth 20000 in
set_option maxHeartbeats 1000000 in
theorem w_anyInTheWay_12 {Fr : Int32} {u : St} (B : jk_BI p l e R s m args below meth c cX3_anyInTheWay 3 RX3 TT .boolean D clA (tyl z) (cW z a) A Q rm_anyInTheWay (Fr, u))  {k1 : Nat} (hk1 : k1 < 8) (K : Int32) (hK : K = Fr → JJ p l e R s m args below meth c 0 0 3 D clA (cW z a) A Q 46 [(1, .int (nI k1)), (0, .ref (a 4))] u []) : ∀ (n i : Nat), i + n = 8 → f_anyInTheWay_12 u K n i k1 = Fr → JJ p l e R s m args below meth c 0 0 3 D clA (cW z a) A Q 12 [(2, .int (nI i)), (1, .int (nI k1)), (0, .ref (a 4))] u [] := by
  have C := B.1
  intro n
  induction n with
  | zero =>
    intro i hin hE
    obtain rfl : i = 8 := by omega
    have hge : (8 : Int32) ≤ nI 8 := by decide
    refine j_iload_n C 0 dX3_anyInTheWay_12 rfl ?_
    refine j_bipush C 8 dX3_anyInTheWay_13 bp_8 ?_
    refine j_icmp_ge C 46 dX3_anyInTheWay_15 (by decide) (fun _ => ?_) (fun hq => absurd hge hq)
    refine j_lv [1, 2] rfl ?_
    exact hK hE
  | succ n ih =>
    intro i hin hE
    have hlt : i < 8 := by omega
    have hnge : ¬ (8 : Int32) ≤ nI i := lt8 i hlt
    refine j_iload_n C 0 dX3_anyInTheWay_12 rfl ?_
    refine j_bipush C 8 dX3_anyInTheWay_13 bp_8 ?_
    refine j_icmp_ge C 46 dX3_anyInTheWay_15 (by decide) (fun hq => absurd hq hnge) (fun _ => ?_)
    refine j_aload_n C 2 dX3_anyInTheWay_18 rfl ?_
    refine j_iload_n C 1 dX3_anyInTheWay_19 rfl ?_
    refine j_iald C 4 0 pl_lights rfl k1 rfl hk1 (by decide) dX3_anyInTheWay_20 ?_
    refine j_if_eq C 40 dX3_anyInTheWay_21 (by decide) (fun c1 => ?_) (fun c1 => ?_)
    · have hE := (if_pos c1).symm.trans hE
      refine j_iinc C 0 (nI (i + 1)) dX3_anyInTheWay_40 rfl (nI_1 _) (by decide) rfl ?_
      refine j_goto C 12 dX3_anyInTheWay_43 (by decide) ?_
      exact ih (i + 1) (by omega) hE
    · have hE := (if_neg c1).symm.trans hE
      refine j_aload_n C 2 dX3_anyInTheWay_24 rfl ?_
      refine j_iload_n C 0 dX3_anyInTheWay_25 rfl ?_
      refine j_iald C 4 0 pl_lights rfl i rfl hlt (by decide) dX3_anyInTheWay_26 ?_
      refine j_if_eq C 40 dX3_anyInTheWay_27 (by decide) (fun c2 => ?_) (fun c2 => ?_)
      · have hE := (if_pos c2).symm.trans hE
        refine j_iinc C 0 (nI (i + 1)) dX3_anyInTheWay_40 rfl (nI_1 _) (by decide) rfl ?_
        refine j_goto C 12 dX3_anyInTheWay_43 (by decide) ?_
        exact ih (i + 1) (by omega) hE
      · have hE := (if_neg c2).symm.trans hE
        refine j_iload_n C 1 dX3_anyInTheWay_30 rfl ?_
        refine j_iload_n C 0 dX3_anyInTheWay_31 rfl ?_
        refine j_cIS C B.2.1 (c_areInWay l D z a u k1 i hk1 hlt) gv_3_252 dd_areInWay ⟨⟨rfl, rfl⟩, Nat.le_of_ble_eq_true rfl, Nat.le_of_ble_eq_true rfl⟩ rfl rfl (Nat.le_of_ble_eq_true rfl) dX3_anyInTheWay_32 ?_
        refine j_if_eq C 40 dX3_anyInTheWay_35 (by decide) (fun c3 => ?_) (fun c3 => ?_)
        · have hE := (if_pos c3).symm.trans hE
          refine j_iinc C 0 (nI (i + 1)) dX3_anyInTheWay_40 rfl (nI_1 _) (by decide) rfl ?_
          refine j_goto C 12 dX3_anyInTheWay_43 (by decide) ?_
          exact ih (i + 1) (by omega) hE
        · have hE := (if_neg c3).symm.trans hE
          refine j_iconst C 1 dX3_anyInTheWay_38 ic_1 ?_
          exact B.2.2 _ _ _ _ dX3_anyInTheWay_39 rfl (congrArg (fun x => (x, u)) hE)
def f_anyInTheWay_2 (u : St)  : Nat → Nat → Int32
  | 0, i => (0 : Int32)
  | n + 1, i => (f_anyInTheWay_12 u (f_anyInTheWay_2 u n (i + 1)) (8 - (i + 1)) (i + 1) i)
set_option maxRecDepth 20000 in
set_option maxHeartbeats 1000000 in
theorem w_anyInTheWay_2 {Fr : Int32} {u : St} (B : jk_BI p l e R s m args below meth c cX3_anyInTheWay 3 RX3 TT .boolean D clA (tyl z) (cW z a) A Q rm_anyInTheWay (Fr, u))  : ∀ (n i : Nat), i + n = 8 → f_anyInTheWay_2 u n i = Fr → JJ p l e R s m args below meth c 0 0 3 D clA (cW z a) A Q 2 [(1, .int (nI i)), (0, .ref (a 4))] u [] := by
  have C := B.1
  intro n
  induction n with
  | zero =>
    intro i hin hE
    obtain rfl : i = 8 := by omega
    have hge : (8 : Int32) ≤ nI 8 := by decide
    refine j_iload_n C 0 dX3_anyInTheWay_2 rfl ?_
    refine j_bipush C 8 dX3_anyInTheWay_3 bp_8 ?_
    refine j_icmp_ge C 52 dX3_anyInTheWay_5 (by decide) (fun _ => ?_) (fun hq => absurd hge hq)
    refine j_iconst C 0 dX3_anyInTheWay_52 ic_0 ?_
    exact B.2.2 _ _ _ _ dX3_anyInTheWay_53 rfl (congrArg (fun x => (x, u)) hE)
  | succ n ih =>
    intro i hin hE
    have hlt : i < 8 := by omega
    have hnge : ¬ (8 : Int32) ≤ nI i := lt8 i hlt
    refine j_iload_n C 0 dX3_anyInTheWay_2 rfl ?_
    refine j_bipush C 8 dX3_anyInTheWay_3 bp_8 ?_
    refine j_icmp_ge C 52 dX3_anyInTheWay_5 (by decide) (fun hq => absurd hq hnge) (fun _ => ?_)
    refine j_iload_n C 0 dX3_anyInTheWay_8 rfl ?_
    refine j_iconst C 1 dX3_anyInTheWay_9 ic_1 ?_
    refine j_iadd C dX3_anyInTheWay_10 ?_
    refine j_st (st' := [.int (nI (i + 1))]) (by rw [show (1 : Int32) = nI 1 from rfl, nI_add]) ?_
    refine j_istore_n C dX3_anyInTheWay_11 (by decide) rfl ?_
    refine w_anyInTheWay_12 B hlt (f_anyInTheWay_2 u n (i + 1)) (fun hE => ?_) (8 - (i + 1)) (i + 1) (by omega) hE
    refine j_iinc C 0 (nI (i + 1)) dX3_anyInTheWay_46 rfl (nI_1 _) (by decide) rfl ?_
    refine j_goto C 2 dX3_anyInTheWay_49 (by decide) ?_
    exact ih (i + 1) (by omega) hE
def f_anyInTheWay (u : St)  : Int32 := (f_anyInTheWay_2 u 8 0)
set_option maxRecDepth 20000 in
set_option maxHeartbeats 1000000 in
theorem w_anyInTheWay_0 {Fr : Int32} {u : St} (B : jk_BI p l e R s m args below meth c cX3_anyInTheWay 3 RX3 TT .boolean D clA (tyl z) (cW z a) A Q rm_anyInTheWay (Fr, u))  (hE : f_anyInTheWay u = Fr) : JJ p l e R s m args below meth c 0 0 3 D clA (cW z a) A Q 0 [(0, .ref (a 4))] u [] := by
  have C := B.1
  unfold f_anyInTheWay at hE
  refine j_iconst C 0 dX3_anyInTheWay_0 ic_0 ?_
  refine j_istore_n C dX3_anyInTheWay_1 (by decide) rfl ?_
  refine j_lq (congrArg (fun x => ([(1, .int x), (0, .ref (a 4))] : List (Nat × Value))) ix_0) ?_
  exact w_anyInTheWay_2 B 8 0 (by omega) hE
theorem c_anyInTheWay (l : Launch) (D : va_G) (z : Nat → ClassId) (a : Nat → Nat) (u : St)  : CtI l yX3_anyInTheWay (.code yX3_anyInTheWay cX3_anyInTheWay 3 (some .boolean) :: TT) rm_anyInTheWay D clA (tyl z) (cW z a) [.ref (a 4)] u (f_anyInTheWay u) u :=
  jk_metI (own := RX3) (by decide) rfl (Nat.le_of_ble_eq_true rfl) (fun _ _ _ _ _ _ _ _ _ _ _ B => w_anyInTheWay_0 B rfl)
def rm_G_hadShortYellow : Room := { frames := 0, cells := 0, slots := 0, locals := 0 }
def f_G_hadShortYellow (u : St) (k0 : Nat) : Int32 := (if (u 3 k0) = (1 : Int32) then (if (3 : Int32) ≤ (u 4 k0) then (0 : Int32) else (1 : Int32)) else (0 : Int32))
set_option maxRecDepth 20000 in
set_option maxHeartbeats 1000000 in
theorem w_G_hadShortYellow_0 {Fr : Int32} {u : St} (B : jk_BI p l e R s m args below meth c cX0_hadShortYellow 2 RX0 TT .boolean D clA (tyl z) (cW z a) A Q rm_G_hadShortYellow (Fr, u)) {k0 : Nat} (hk0 : k0 < 8) (hE : f_G_hadShortYellow u k0 = Fr) : JJ p l e R s m args below meth c 0 0 2 D clA (cW z a) A Q 0 [(0, .ref (a 3)), (1, .int (nI k0))] u [] := by
  have C := B.1
  unfold f_G_hadShortYellow at hE
  refine j_aload_n C 0 dX0_hadShortYellow_0 rfl ?_
  refine j_get C kf_0 3 pl_guard 0 (by decide) lk_0_9 rfl dX0_hadShortYellow_1 ?_
  refine j_iload_n C 1 dX0_hadShortYellow_4 rfl ?_
  refine j_iald C 5 0 pl_last rfl k0 rfl hk0 (by decide) dX0_hadShortYellow_5 ?_
  refine j_iconst C 1 dX0_hadShortYellow_6 ic_1 ?_
  refine j_icmp_ne C 24 dX0_hadShortYellow_7 (by decide) (fun c1 => ?_) (fun c1 => ?_)
  · have hE := (if_neg c1).symm.trans hE
    refine j_iconst C 0 dX0_hadShortYellow_24 ic_0 ?_
    exact B.2.2 _ _ _ _ dX0_hadShortYellow_25 rfl (congrArg (fun x => (x, u)) hE)
  · have hE := (if_pos c1).symm.trans hE
    refine j_aload_n C 0 dX0_hadShortYellow_10 rfl ?_
    refine j_get C kf_0 3 pl_guard 1 (by decide) lk_0_15 rfl dX0_hadShortYellow_11 ?_
    refine j_iload_n C 1 dX0_hadShortYellow_14 rfl ?_
    refine j_iald C 6 0 pl_yel rfl k0 rfl hk0 (by decide) dX0_hadShortYellow_15 ?_
    refine j_iconst C 3 dX0_hadShortYellow_16 ic_3 ?_
    refine j_icmp_ge C 24 dX0_hadShortYellow_17 (by decide) (fun c2 => ?_) (fun c2 => ?_)
    · have hE := (if_pos c2).symm.trans hE
      refine j_iconst C 0 dX0_hadShortYellow_24 ic_0 ?_
      exact B.2.2 _ _ _ _ dX0_hadShortYellow_25 rfl (congrArg (fun x => (x, u)) hE)
    · have hE := (if_neg c2).symm.trans hE
      refine j_iconst C 1 dX0_hadShortYellow_20 ic_1 ?_
      refine j_goto C 25 dX0_hadShortYellow_21 (by decide) ?_
      exact B.2.2 _ _ _ _ dX0_hadShortYellow_25 rfl (congrArg (fun x => (x, u)) hE)
theorem c_G_hadShortYellow (l : Launch) (D : va_G) (z : Nat → ClassId) (a : Nat → Nat) (u : St) (k0 : Nat) (hk0 : k0 < 8) : CtI l yX0_hadShortYellow (.code yX0_hadShortYellow cX0_hadShortYellow 2 (some .boolean) :: TT) rm_G_hadShortYellow D clA (tyl z) (cW z a) [.ref (a 3), .int (nI k0)] u (f_G_hadShortYellow u k0) u :=
  jk_metI (own := RX0) (by decide) rfl (Nat.le_of_ble_eq_true rfl) (fun _ _ _ _ _ _ _ _ _ _ _ B => w_G_hadShortYellow_0 B hk0 rfl)
def rm_G_leastFault : Room := { frames := 1, cells := 0, slots := 0, locals := 21 }
def f_G_leastFault_18 (u : St) (b0 : Int32) : Nat → Nat → Int32 → Int32
  | 0, i, x9 => x9
  | n + 1, i, x9 => (if (u 2 i) = (0 : Int32) then (if (u 3 i) = (2 : Int32) then (2 : Int32) else (if (u 2 i) = (0 : Int32) then (if (f_G_hadShortYellow u i) = (0 : Int32) then (f_G_leastFault_18 u b0 n (i + 1) x9) else (f_G_leastFault_18 u b0 n (i + 1) (3 : Int32))) else (f_G_leastFault_18 u b0 n (i + 1) x9))) else (if (u 2 i) = (0 : Int32) then (if (f_G_hadShortYellow u i) = (0 : Int32) then (f_G_leastFault_18 u b0 n (i + 1) x9) else (f_G_leastFault_18 u b0 n (i + 1) (3 : Int32))) else (f_G_leastFault_18 u b0 n (i + 1) x9)))
set_option maxRecDepth 20000 in
set_option maxHeartbeats 1000000 in
theorem w_G_leastFault_18 {Fr : Int32} {u : St} (B : jk_BI p l e R s m args below meth c cX0_leastFault 5 RX0 TT .int D clA (tyl z) (cW z a) A Q rm_G_leastFault (Fr, u)) (b0 : Int32) : ∀ (n i : Nat) (x9 : Int32), i + n = 8 → f_G_leastFault_18 u b0 n i x9 = Fr → JJ p l e R s m args below meth c 0 0 5 D clA (cW z a) A Q 18 [(4, .int (nI i)), (3, .int x9), (0, .ref (a 3)), (1, .ref (a 4)), (2, .int b0)] u [] := by
  have C := B.1
  intro n
  induction n with
  | zero =>
    intro i x9 hin hE
    obtain rfl : i = 8 := by omega
    have hge : (8 : Int32) ≤ nI 8 := by decide
    refine j_iload C 0 dX0_leastFault_18 rfl ?_
    refine j_bipush C 8 dX0_leastFault_20 bp_8 ?_
    refine j_icmp_ge C 69 dX0_leastFault_22 (by decide) (fun _ => ?_) (fun hq => absurd hge hq)
    refine j_iload_n C 1 dX0_leastFault_69 rfl ?_
    exact B.2.2 _ _ _ _ dX0_leastFault_70 rfl (congrArg (fun x => (x, u)) hE)
  | succ n ih =>
    intro i x9 hin hE
    have hlt : i < 8 := by omega
    have hnge : ¬ (8 : Int32) ≤ nI i := lt8 i hlt
    refine j_iload C 0 dX0_leastFault_18 rfl ?_
    refine j_bipush C 8 dX0_leastFault_20 bp_8 ?_
    refine j_icmp_ge C 69 dX0_leastFault_22 (by decide) (fun hq => absurd hq hnge) (fun _ => ?_)
    refine j_aload_n C 3 dX0_leastFault_25 rfl ?_
    refine j_iload C 0 dX0_leastFault_26 rfl ?_
    refine j_iald C 4 0 pl_lights rfl i rfl hlt (by decide) dX0_leastFault_28 ?_
    refine j_if_ne C 45 dX0_leastFault_29 (by decide) (fun c1 => ?_) (fun c1 => ?_)
    · have hE := (if_neg c1).symm.trans hE
      refine j_aload_n C 3 dX0_leastFault_45 rfl ?_
      refine j_iload C 0 dX0_leastFault_46 rfl ?_
      refine j_iald C 4 0 pl_lights rfl i rfl hlt (by decide) dX0_leastFault_48 ?_
      refine j_if_ne C 63 dX0_leastFault_49 (by decide) (fun c2 => ?_) (fun c2 => ?_)
      · have hE := (if_neg c2).symm.trans hE
        refine j_iinc C 0 (nI (i + 1)) dX0_leastFault_63 rfl (nI_1 _) (by decide) rfl ?_
        refine j_goto C 18 dX0_leastFault_66 (by decide) ?_
        exact ih (i + 1) x9 (by omega) hE
      · have hE := (if_pos c2).symm.trans hE
        refine j_aload_n C 2 dX0_leastFault_52 rfl ?_
        refine j_iload C 0 dX0_leastFault_53 rfl ?_
        refine j_cIV C B.2.1 (c_G_hadShortYellow l D z a u i hlt) gv_0_34 dd_G_hadShortYellow ⟨⟨rfl, rfl⟩, Nat.le_of_ble_eq_true rfl, Nat.le_of_ble_eq_true rfl⟩ 3 0 pl_guard rfl rfl rfl rfl (Nat.le_of_ble_eq_true rfl) dX0_leastFault_55 ?_
        refine j_if_eq C 63 dX0_leastFault_58 (by decide) (fun c3 => ?_) (fun c3 => ?_)
        · have hE := (if_pos c3).symm.trans hE
          refine j_iinc C 0 (nI (i + 1)) dX0_leastFault_63 rfl (nI_1 _) (by decide) rfl ?_
          refine j_goto C 18 dX0_leastFault_66 (by decide) ?_
          exact ih (i + 1) x9 (by omega) hE
        · have hE := (if_neg c3).symm.trans hE
          refine j_iconst C 3 dX0_leastFault_61 ic_3 ?_
          refine j_istore_n C dX0_leastFault_62 (by decide) rfl ?_
          refine j_iinc C 1 (nI (i + 1)) dX0_leastFault_63 rfl (nI_1 _) (by decide) rfl ?_
          refine j_goto C 18 dX0_leastFault_66 (by decide) ?_
          exact ih (i + 1) (3 : Int32) (by omega) hE
    · have hE := (if_pos c1).symm.trans hE
      refine j_aload_n C 2 dX0_leastFault_32 rfl ?_
      refine j_get C kf_0 3 pl_guard 0 (by decide) lk_0_9 rfl dX0_leastFault_33 ?_
      refine j_iload C 0 dX0_leastFault_36 rfl ?_
      refine j_iald C 5 0 pl_last rfl i rfl hlt (by decide) dX0_leastFault_38 ?_
      refine j_iconst C 2 dX0_leastFault_39 ic_2 ?_
      refine j_icmp_ne C 45 dX0_leastFault_40 (by decide) (fun c4 => ?_) (fun c4 => ?_)
      · have hE := (if_neg c4).symm.trans hE
        refine j_aload_n C 3 dX0_leastFault_45 rfl ?_
        refine j_iload C 0 dX0_leastFault_46 rfl ?_
        refine j_iald C 4 0 pl_lights rfl i rfl hlt (by decide) dX0_leastFault_48 ?_
        refine j_if_ne C 63 dX0_leastFault_49 (by decide) (fun c5 => ?_) (fun c5 => ?_)
        · have hE := (if_neg c5).symm.trans hE
          refine j_iinc C 0 (nI (i + 1)) dX0_leastFault_63 rfl (nI_1 _) (by decide) rfl ?_
          refine j_goto C 18 dX0_leastFault_66 (by decide) ?_
          exact ih (i + 1) x9 (by omega) hE
        · have hE := (if_pos c5).symm.trans hE
          refine j_aload_n C 2 dX0_leastFault_52 rfl ?_
          refine j_iload C 0 dX0_leastFault_53 rfl ?_
          refine j_cIV C B.2.1 (c_G_hadShortYellow l D z a u i hlt) gv_0_34 dd_G_hadShortYellow ⟨⟨rfl, rfl⟩, Nat.le_of_ble_eq_true rfl, Nat.le_of_ble_eq_true rfl⟩ 3 0 pl_guard rfl rfl rfl rfl (Nat.le_of_ble_eq_true rfl) dX0_leastFault_55 ?_
          refine j_if_eq C 63 dX0_leastFault_58 (by decide) (fun c6 => ?_) (fun c6 => ?_)
          · have hE := (if_pos c6).symm.trans hE
            refine j_iinc C 0 (nI (i + 1)) dX0_leastFault_63 rfl (nI_1 _) (by decide) rfl ?_
            refine j_goto C 18 dX0_leastFault_66 (by decide) ?_
            exact ih (i + 1) x9 (by omega) hE
          · have hE := (if_neg c6).symm.trans hE
            refine j_iconst C 3 dX0_leastFault_61 ic_3 ?_
            refine j_istore_n C dX0_leastFault_62 (by decide) rfl ?_
            refine j_iinc C 1 (nI (i + 1)) dX0_leastFault_63 rfl (nI_1 _) (by decide) rfl ?_
            refine j_goto C 18 dX0_leastFault_66 (by decide) ?_
            exact ih (i + 1) (3 : Int32) (by omega) hE
      · have hE := (if_pos c4).symm.trans hE
        refine j_iconst C 2 dX0_leastFault_43 ic_2 ?_
        exact B.2.2 _ _ _ _ dX0_leastFault_44 rfl (congrArg (fun x => (x, u)) hE)
def f_G_leastFault (u : St) (b0 : Int32) : Int32 := (if b0 = (0 : Int32) then (f_G_leastFault_18 u b0 8 0 (0 : Int32)) else (if (u 1 1) = (0 : Int32) then (f_G_leastFault_18 u b0 8 0 (0 : Int32)) else (1 : Int32)))
set_option maxRecDepth 20000 in
set_option maxHeartbeats 1000000 in
theorem w_G_leastFault_0 {Fr : Int32} {u : St} (B : jk_BI p l e R s m args below meth c cX0_leastFault 5 RX0 TT .int D clA (tyl z) (cW z a) A Q rm_G_leastFault (Fr, u)) (b0 : Int32) (hE : f_G_leastFault u b0 = Fr) : JJ p l e R s m args below meth c 0 0 5 D clA (cW z a) A Q 0 [(0, .ref (a 3)), (1, .ref (a 4)), (2, .int b0)] u [] := by
  have C := B.1
  unfold f_G_leastFault at hE
  refine j_iload_n C 2 dX0_leastFault_0 rfl ?_
  refine j_if_eq C 13 dX0_leastFault_1 (by decide) (fun c1 => ?_) (fun c1 => ?_)
  · have hE := (if_pos c1).symm.trans hE
    refine j_iconst C 0 dX0_leastFault_13 ic_0 ?_
    refine j_istore_n C dX0_leastFault_14 (by decide) rfl ?_
    refine j_iconst C 0 dX0_leastFault_15 ic_0 ?_
    refine j_istore C dX0_leastFault_16 (by decide) rfl ?_
    refine j_lq (congrArg (fun x => ([(4, .int x), (3, .int 0), (0, .ref (a 3)), (1, .ref (a 4)), (2, .int b0)] : List (Nat × Value))) ix_0) ?_
    exact w_G_leastFault_18 B b0 8 0 (0 : Int32) (by omega) hE
  · have hE := (if_neg c1).symm.trans hE
    refine j_aload_n C 0 dX0_leastFault_4 rfl ?_
    refine j_get C kf_0 3 pl_guard 2 (by decide) lk_0_18 rfl dX0_leastFault_5 ?_
    refine j_if_eq C 13 dX0_leastFault_8 (by decide) (fun c2 => ?_) (fun c2 => ?_)
    · have hE := (if_pos c2).symm.trans hE
      refine j_iconst C 0 dX0_leastFault_13 ic_0 ?_
      refine j_istore_n C dX0_leastFault_14 (by decide) rfl ?_
      refine j_iconst C 0 dX0_leastFault_15 ic_0 ?_
      refine j_istore C dX0_leastFault_16 (by decide) rfl ?_
      refine j_lq (congrArg (fun x => ([(4, .int x), (3, .int 0), (0, .ref (a 3)), (1, .ref (a 4)), (2, .int b0)] : List (Nat × Value))) ix_0) ?_
      exact w_G_leastFault_18 B b0 8 0 (0 : Int32) (by omega) hE
    · have hE := (if_neg c2).symm.trans hE
      refine j_iconst C 1 dX0_leastFault_11 ic_1 ?_
      exact B.2.2 _ _ _ _ dX0_leastFault_12 rfl (congrArg (fun x => (x, u)) hE)
theorem c_G_leastFault (l : Launch) (D : va_G) (z : Nat → ClassId) (a : Nat → Nat) (u : St) (b0 : Int32) : CtI l yX0_leastFault (.code yX0_leastFault cX0_leastFault 5 (some .int) :: TT) rm_G_leastFault D clA (tyl z) (cW z a) [.ref (a 3), .ref (a 4), .int b0] u (f_G_leastFault u b0) u :=
  jk_metI (own := RX0) (by decide) rfl (Nat.le_of_ble_eq_true rfl) (fun _ _ _ _ _ _ _ _ _ _ _ B => w_G_leastFault_0 B b0 rfl)
end WLK

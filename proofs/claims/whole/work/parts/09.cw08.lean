section WLK
variable {p : Program} {l : Launch} {e : Env} {R : Room} {s : State} {m : MethodId} {args : Array Value} {below : List Frame} {meth : Method} {c : Code} {D : va_G} {z : Nat → ClassId} {a : Nat → Nat} {A : Nat → Prop} {Q : State → Prop}
def rm_car : Room := { frames := 2, cells := 0, slots := 0, locals := 42 }
def f_car (u : St) (x0 : Int32) (x1 : Int32) : Int32 × St := (if (f_isMovement x0) = (0 : Int32) then ((0 : Int32), u) else (if x1 < (0 : Int32) then ((0 : Int32), u) else (if x1 ≤ (1 : Int32) then (if x1 = (1 : Int32) then (if (u 11 (x0.toNatClampNeg)) = (1 : Int32) then ((0 : Int32), u) else (if (f_M_has (up2 u 11 (x0.toNatClampNeg) (1 : Int32)) (x0.toNatClampNeg) (2 : Int32)) = (0 : Int32) then ((1 : Int32), (up2 u 11 (x0.toNatClampNeg) (1 : Int32))) else (if (f_isGreen (up2 u 11 (x0.toNatClampNeg) (1 : Int32)) (x0.toNatClampNeg)) = (0 : Int32) then ((1 : Int32), (up2 (up2 u 11 (x0.toNatClampNeg) (1 : Int32)) 12 (x0.toNatClampNeg) (1 : Int32))) else ((1 : Int32), (up2 u 11 (x0.toNatClampNeg) (1 : Int32)))))) else (if (u 11 (x0.toNatClampNeg)) = (0 : Int32) then ((0 : Int32), u) else ((1 : Int32), (up2 u 11 (x0.toNatClampNeg) (0 : Int32))))) else ((0 : Int32), u))))
def g_car (u : St) (x0 : Int32) (x1 : Int32) : Prop := (((f_isMovement x0) = (0 : Int32) → True) ∧ (¬ (f_isMovement x0) = (0 : Int32) → ((x1 < (0 : Int32) → True) ∧ (¬ x1 < (0 : Int32) → ((x1 ≤ (1 : Int32) → (vp_in x0 8)) ∧ (¬ x1 ≤ (1 : Int32) → True))))))
set_option maxRecDepth 20000 in
set_option maxHeartbeats 1000000 in
theorem w_car_0 {F : Int32 × St} {u : St} (B : jk_BI p l e R s m args below meth c cX3_car 5 RX3 TT .int D clA (tyl z) (cW z a) A Q rm_car F) (x0 : Int32) (x1 : Int32) (hE : f_car u x0 x1 = F) (hG : g_car u x0 x1) : JJ p l e R s m args below meth c 0 0 5 D clA (cW z a) A Q 0 [(0, .ref (a 0)), (1, .int x0), (2, .int x1)] u [] := by
  have C := B.1
  unfold f_car at hE
  unfold g_car at hG
  refine j_iload_n C 1 dX3_car_0 rfl ?_
  refine j_cIS C B.2.1 (c_isMovement l D z a u x0) gv_3_36 dd_isMovement ⟨⟨rfl, rfl⟩, Nat.le_of_ble_eq_true rfl, Nat.le_of_ble_eq_true rfl⟩ rfl rfl (Nat.le_of_ble_eq_true rfl) dX3_car_1 ?_
  refine j_if_eq C 16 dX3_car_4 (by decide) (fun c1 => ?_) (fun c1 => ?_)
  · have hE := (if_pos c1).symm.trans hE
    refine j_iconst C 0 dX3_car_16 ic_0 ?_
    exact B.2.2 _ _ _ _ dX3_car_17 rfl hE
  · have hE := (if_neg c1).symm.trans hE
    have hG := hG.2 c1
    refine j_iload_n C 2 dX3_car_7 rfl ?_
    refine j_if_lt C 16 dX3_car_8 (by decide) (fun c2 => ?_) (fun c2 => ?_)
    · have hE := (if_pos c2).symm.trans hE
      refine j_iconst C 0 dX3_car_16 ic_0 ?_
      exact B.2.2 _ _ _ _ dX3_car_17 rfl hE
    · have hE := (if_neg c2).symm.trans hE
      have hG := hG.2 c2
      refine j_iload_n C 2 dX3_car_11 rfl ?_
      refine j_iconst C 1 dX3_car_12 ic_1 ?_
      refine j_icmp_le C 18 dX3_car_13 (by decide) (fun c3 => ?_) (fun c3 => ?_)
      · have hE := (if_pos c3).symm.trans hE
        have hG := hG.1 c3
        refine j_aload_n C 0 dX3_car_18 rfl ?_
        refine j_get C kf_3 0 pl_desk 0 (by decide) lk_3_11 rfl dX3_car_19 ?_
        refine j_iload_n C 1 dX3_car_22 rfl ?_
        have hv4 := hG
        have lhv4 := jk_lt hv4
        refine j_aald C 1 2 pl_mvs rfl (x0.toNatClampNeg) (jk_self hv4 (by decide)) (jk_lt hv4) (by decide) rfl dX3_car_23 ?_
        refine j_astore_n C dX3_car_24 (by decide) rfl ?_
        refine j_iload_n C 3 dX3_car_25 rfl ?_
        refine j_iconst C 1 dX3_car_26 ic_1 ?_
        refine j_icmp_ne C 34 dX3_car_27 (by decide) (fun c5 => ?_) (fun c5 => ?_)
        · have hE := (if_neg c5).symm.trans hE
          refine j_iconst C 0 dX3_car_34 ic_0 ?_
          refine j_istore C dX3_car_35 (by decide) rfl ?_
          refine j_aload_n C 1 dX3_car_37 rfl ?_
          refine j_get C kf_1 (7 + (x0.toNatClampNeg)) (pl_mv (jk_lt hv4)) 2 (by decide) lk_3_70 rfl dX3_car_38 ?_
          refine j_iload C 0 dX3_car_41 rfl ?_
          refine j_icmp_ne C 48 dX3_car_43 (by decide) (fun c6 => ?_) (fun c6 => ?_)
          · have hE := (if_neg c6).symm.trans hE
            refine j_aload_n C 1 dX3_car_48 rfl ?_
            refine j_iload C 0 dX3_car_49 rfl ?_
            refine j_put C kf_1 (7 + (x0.toNatClampNeg)) (pl_mv (jk_lt hv4)) 2 (by decide) lk_3_70 rfl rfl rfl (Nat.le_of_ble_eq_true rfl) (pu_mv_car (jk_lt hv4)) dX3_car_51 ?_
            refine j_iload C 0 dX3_car_54 rfl ?_
            refine j_if_eq C 80 dX3_car_56 (by decide) (fun _ => ?_) (fun hq => False.elim (by revert hq; decide))
            refine j_iconst C 1 dX3_car_80 ic_1 ?_
            exact B.2.2 _ _ _ _ dX3_car_81 rfl hE
          · have hE := (if_pos c6).symm.trans hE
            refine j_iconst C 0 dX3_car_46 ic_0 ?_
            exact B.2.2 _ _ _ _ dX3_car_47 rfl hE
        · have hE := (if_pos c5).symm.trans hE
          refine j_iconst C 1 dX3_car_30 ic_1 ?_
          refine j_goto C 35 dX3_car_31 (by decide) ?_
          refine j_istore C dX3_car_35 (by decide) rfl ?_
          refine j_aload_n C 1 dX3_car_37 rfl ?_
          refine j_get C kf_1 (7 + (x0.toNatClampNeg)) (pl_mv (jk_lt hv4)) 2 (by decide) lk_3_70 rfl dX3_car_38 ?_
          refine j_iload C 0 dX3_car_41 rfl ?_
          refine j_icmp_ne C 48 dX3_car_43 (by decide) (fun c7 => ?_) (fun c7 => ?_)
          · have hE := (if_neg c7).symm.trans hE
            refine j_aload_n C 1 dX3_car_48 rfl ?_
            refine j_iload C 0 dX3_car_49 rfl ?_
            refine j_put C kf_1 (7 + (x0.toNatClampNeg)) (pl_mv (jk_lt hv4)) 2 (by decide) lk_3_70 rfl rfl rfl (Nat.le_of_ble_eq_true rfl) (pu_mv_car (jk_lt hv4)) dX3_car_51 ?_
            refine j_iload C 0 dX3_car_54 rfl ?_
            refine j_if_eq C 80 dX3_car_56 (by decide) (fun hq => False.elim (by revert hq; decide)) (fun _ => ?_)
            refine j_aload_n C 1 dX3_car_59 rfl ?_
            refine j_iconst C 2 dX3_car_60 ic_2 ?_
            refine j_cIV C B.2.1 (c_M_has l D z a (up2 u 11 (x0.toNatClampNeg) (1 : Int32)) (x0.toNatClampNeg) (2 : Int32) (jk_lt hv4)) gv_3_74 dd_M_has ⟨⟨rfl, rfl⟩, Nat.le_of_ble_eq_true rfl, Nat.le_of_ble_eq_true rfl⟩ (7 + (x0.toNatClampNeg)) 1 (pl_mv (jk_lt hv4)) rfl rfl rfl rfl (Nat.le_of_ble_eq_true rfl) dX3_car_61 ?_
            refine j_if_eq C 80 dX3_car_64 (by decide) (fun c8 => ?_) (fun c8 => ?_)
            · have hE := (if_pos c8).symm.trans hE
              refine j_iconst C 1 dX3_car_80 ic_1 ?_
              exact B.2.2 _ _ _ _ dX3_car_81 rfl hE
            · have hE := (if_neg c8).symm.trans hE
              refine j_aload_n C 2 dX3_car_67 rfl ?_
              refine j_iload_n C 3 dX3_car_68 rfl ?_
              refine j_st (st' := [.int (nI (x0.toNatClampNeg)), .ref (a 0)]) (congrArg (fun x => ([.int x, .ref (a 0)] : List Value)) (jk_self hv4 (by decide))) ?_
              refine j_cIV C B.2.1 (c_isGreen l D z a (up2 u 11 (x0.toNatClampNeg) (1 : Int32)) (x0.toNatClampNeg) (jk_lt hv4)) gv_3_77 dd_isGreen ⟨⟨rfl, rfl⟩, Nat.le_of_ble_eq_true rfl, Nat.le_of_ble_eq_true rfl⟩ 0 3 pl_desk rfl rfl rfl rfl (Nat.le_of_ble_eq_true rfl) dX3_car_69 ?_
              refine j_if_ne C 80 dX3_car_72 (by decide) (fun c9 => ?_) (fun c9 => ?_)
              · have hE := (if_neg c9).symm.trans hE
                refine j_iconst C 1 dX3_car_80 ic_1 ?_
                exact B.2.2 _ _ _ _ dX3_car_81 rfl hE
              · have hE := (if_pos c9).symm.trans hE
                refine j_aload_n C 1 dX3_car_75 rfl ?_
                refine j_iconst C 1 dX3_car_76 ic_1 ?_
                refine j_put C kf_1 (7 + (x0.toNatClampNeg)) (pl_mv (jk_lt hv4)) 3 (by decide) lk_3_80 rfl rfl rfl (Nat.le_of_ble_eq_true rfl) (pu_mv_remembered (jk_lt hv4)) dX3_car_77 ?_
                refine j_iconst C 1 dX3_car_80 ic_1 ?_
                exact B.2.2 _ _ _ _ dX3_car_81 rfl hE
          · have hE := (if_pos c7).symm.trans hE
            refine j_iconst C 0 dX3_car_46 ic_0 ?_
            exact B.2.2 _ _ _ _ dX3_car_47 rfl hE
      · have hE := (if_neg c3).symm.trans hE
        refine j_iconst C 0 dX3_car_16 ic_0 ?_
        exact B.2.2 _ _ _ _ dX3_car_17 rfl hE
theorem c_car (l : Launch) (D : va_G) (z : Nat → ClassId) (a : Nat → Nat) (u : St) (x0 : Int32) (x1 : Int32) (hG : g_car u x0 x1) : CtI l yX3_car (.code yX3_car cX3_car 5 (some .int) :: TT) rm_car D clA (tyl z) (cW z a) [.ref (a 0), .int x0, .int x1] u (f_car u x0 x1).1 (f_car u x0 x1).2 :=
  jk_metI (own := RX3) (by decide) rfl (Nat.le_of_ble_eq_true rfl) (fun _ _ _ _ _ _ _ _ _ _ _ B => w_car_0 B x0 x1 rfl hG)
def rm_push : Room := { frames := 1, cells := 0, slots := 0, locals := 20 }
def f_push (u : St) (x0 : Int32) : Int32 × St := (if (f_isMovement x0) = (0 : Int32) then ((0 : Int32), u) else (if (u 13 (x0.toNatClampNeg)) = (0 : Int32) then ((1 : Int32), (up2 u 13 (x0.toNatClampNeg) (1 : Int32))) else ((0 : Int32), u)))
def g_push (u : St) (x0 : Int32) : Prop := (((f_isMovement x0) = (0 : Int32) → True) ∧ (¬ (f_isMovement x0) = (0 : Int32) → (vp_in x0 8)))
set_option maxRecDepth 20000 in
set_option maxHeartbeats 1000000 in
theorem w_push_0 {F : Int32 × St} {u : St} (B : jk_BI p l e R s m args below meth c cX3_push 2 RX3 TT .int D clA (tyl z) (cW z a) A Q rm_push F) (x0 : Int32) (hE : f_push u x0 = F) (hG : g_push u x0) : JJ p l e R s m args below meth c 0 0 2 D clA (cW z a) A Q 0 [(0, .ref (a 0)), (1, .int x0)] u [] := by
  have C := B.1
  unfold f_push at hE
  unfold g_push at hG
  refine j_iload_n C 1 dX3_push_0 rfl ?_
  refine j_cIS C B.2.1 (c_isMovement l D z a u x0) gv_3_36 dd_isMovement ⟨⟨rfl, rfl⟩, Nat.le_of_ble_eq_true rfl, Nat.le_of_ble_eq_true rfl⟩ rfl rfl (Nat.le_of_ble_eq_true rfl) dX3_push_1 ?_
  refine j_if_eq C 19 dX3_push_4 (by decide) (fun c1 => ?_) (fun c1 => ?_)
  · have hE := (if_pos c1).symm.trans hE
    refine j_iconst C 0 dX3_push_19 ic_0 ?_
    exact B.2.2 _ _ _ _ dX3_push_20 rfl hE
  · have hE := (if_neg c1).symm.trans hE
    have hG := hG.2 c1
    refine j_aload_n C 0 dX3_push_7 rfl ?_
    refine j_get C kf_3 0 pl_desk 0 (by decide) lk_3_11 rfl dX3_push_8 ?_
    refine j_iload_n C 1 dX3_push_11 rfl ?_
    have hv2 := hG
    have lhv2 := jk_lt hv2
    refine j_aald C 1 2 pl_mvs rfl (x0.toNatClampNeg) (jk_self hv2 (by decide)) (jk_lt hv2) (by decide) rfl dX3_push_12 ?_
    refine j_get C kf_1 (7 + (x0.toNatClampNeg)) (pl_mv (jk_lt hv2)) 4 (by decide) lk_3_83 rfl dX3_push_13 ?_
    refine j_if_eq C 21 dX3_push_16 (by decide) (fun c3 => ?_) (fun c3 => ?_)
    · have hE := (if_pos c3).symm.trans hE
      refine j_aload_n C 0 dX3_push_21 rfl ?_
      refine j_get C kf_3 0 pl_desk 0 (by decide) lk_3_11 rfl dX3_push_22 ?_
      refine j_iload_n C 1 dX3_push_25 rfl ?_
      refine j_aald C 1 2 pl_mvs rfl (x0.toNatClampNeg) (jk_self hv2 (by decide)) (jk_lt hv2) (by decide) rfl dX3_push_26 ?_
      refine j_iconst C 1 dX3_push_27 ic_1 ?_
      refine j_put C kf_1 (7 + (x0.toNatClampNeg)) (pl_mv (jk_lt hv2)) 4 (by decide) lk_3_83 rfl rfl rfl (Nat.le_of_ble_eq_true rfl) (pu_mv_pushed (jk_lt hv2)) dX3_push_28 ?_
      refine j_iconst C 1 dX3_push_31 ic_1 ?_
      exact B.2.2 _ _ _ _ dX3_push_32 rfl hE
    · have hE := (if_neg c3).symm.trans hE
      refine j_iconst C 0 dX3_push_19 ic_0 ?_
      exact B.2.2 _ _ _ _ dX3_push_20 rfl hE
theorem c_push (l : Launch) (D : va_G) (z : Nat → ClassId) (a : Nat → Nat) (u : St) (x0 : Int32) (hG : g_push u x0) : CtI l yX3_push (.code yX3_push cX3_push 2 (some .int) :: TT) rm_push D clA (tyl z) (cW z a) [.ref (a 0), .int x0] u (f_push u x0).1 (f_push u x0).2 :=
  jk_metI (own := RX3) (by decide) rfl (Nat.le_of_ble_eq_true rfl) (fun _ _ _ _ _ _ _ _ _ _ _ B => w_push_0 B x0 rfl hG)
def rm_stick : Room := { frames := 1, cells := 0, slots := 0, locals := 20 }
def f_stick (u : St) (x0 : Int32) (x1 : Int32) : Int32 × St := (if (f_isMovement x0) = (0 : Int32) then ((0 : Int32), u) else (if x1 < (-1 : Int32) then ((0 : Int32), u) else (if x1 ≤ (2 : Int32) then ((1 : Int32), (up2 u 17 (x0.toNatClampNeg) x1)) else ((0 : Int32), u))))
def g_stick (u : St) (x0 : Int32) (x1 : Int32) : Prop := (((f_isMovement x0) = (0 : Int32) → True) ∧ (¬ (f_isMovement x0) = (0 : Int32) → ((x1 < (-1 : Int32) → True) ∧ (¬ x1 < (-1 : Int32) → ((x1 ≤ (2 : Int32) → (vp_in x0 8)) ∧ (¬ x1 ≤ (2 : Int32) → True))))))
set_option maxRecDepth 20000 in
set_option maxHeartbeats 1000000 in
theorem w_stick_0 {F : Int32 × St} {u : St} (B : jk_BI p l e R s m args below meth c cX3_stick 3 RX3 TT .int D clA (tyl z) (cW z a) A Q rm_stick F) (x0 : Int32) (x1 : Int32) (hE : f_stick u x0 x1 = F) (hG : g_stick u x0 x1) : JJ p l e R s m args below meth c 0 0 3 D clA (cW z a) A Q 0 [(0, .ref (a 0)), (1, .int x0), (2, .int x1)] u [] := by
  have C := B.1
  unfold f_stick at hE
  unfold g_stick at hG
  refine j_iload_n C 1 dX3_stick_0 rfl ?_
  refine j_cIS C B.2.1 (c_isMovement l D z a u x0) gv_3_36 dd_isMovement ⟨⟨rfl, rfl⟩, Nat.le_of_ble_eq_true rfl, Nat.le_of_ble_eq_true rfl⟩ rfl rfl (Nat.le_of_ble_eq_true rfl) dX3_stick_1 ?_
  refine j_if_eq C 17 dX3_stick_4 (by decide) (fun c1 => ?_) (fun c1 => ?_)
  · have hE := (if_pos c1).symm.trans hE
    refine j_iconst C 0 dX3_stick_17 ic_0 ?_
    exact B.2.2 _ _ _ _ dX3_stick_18 rfl hE
  · have hE := (if_neg c1).symm.trans hE
    have hG := hG.2 c1
    refine j_iload_n C 2 dX3_stick_7 rfl ?_
    refine j_iconst C (-1) dX3_stick_8 ic_m1 ?_
    refine j_icmp_lt C 17 dX3_stick_9 (by decide) (fun c2 => ?_) (fun c2 => ?_)
    · have hE := (if_pos c2).symm.trans hE
      refine j_iconst C 0 dX3_stick_17 ic_0 ?_
      exact B.2.2 _ _ _ _ dX3_stick_18 rfl hE
    · have hE := (if_neg c2).symm.trans hE
      have hG := hG.2 c2
      refine j_iload_n C 2 dX3_stick_12 rfl ?_
      refine j_iconst C 2 dX3_stick_13 ic_2 ?_
      refine j_icmp_le C 19 dX3_stick_14 (by decide) (fun c3 => ?_) (fun c3 => ?_)
      · have hE := (if_pos c3).symm.trans hE
        have hG := hG.1 c3
        refine j_aload_n C 0 dX3_stick_19 rfl ?_
        refine j_get C kf_3 0 pl_desk 0 (by decide) lk_3_11 rfl dX3_stick_20 ?_
        refine j_iload_n C 1 dX3_stick_23 rfl ?_
        have hv4 := hG
        have lhv4 := jk_lt hv4
        refine j_aald C 1 2 pl_mvs rfl (x0.toNatClampNeg) (jk_self hv4 (by decide)) (jk_lt hv4) (by decide) rfl dX3_stick_24 ?_
        refine j_iload_n C 2 dX3_stick_25 rfl ?_
        refine j_put C kf_1 (7 + (x0.toNatClampNeg)) (pl_mv (jk_lt hv4)) 8 (by decide) lk_3_86 rfl rfl rfl (Nat.le_of_ble_eq_true rfl) (pu_mv_stuck (jk_lt hv4)) dX3_stick_26 ?_
        refine j_iconst C 1 dX3_stick_29 ic_1 ?_
        exact B.2.2 _ _ _ _ dX3_stick_30 rfl hE
      · have hE := (if_neg c3).symm.trans hE
        refine j_iconst C 0 dX3_stick_17 ic_0 ?_
        exact B.2.2 _ _ _ _ dX3_stick_18 rfl hE
theorem c_stick (l : Launch) (D : va_G) (z : Nat → ClassId) (a : Nat → Nat) (u : St) (x0 : Int32) (x1 : Int32) (hG : g_stick u x0 x1) : CtI l yX3_stick (.code yX3_stick cX3_stick 3 (some .int) :: TT) rm_stick D clA (tyl z) (cW z a) [.ref (a 0), .int x0, .int x1] u (f_stick u x0 x1).1 (f_stick u x0 x1).2 :=
  jk_metI (own := RX3) (by decide) rfl (Nat.le_of_ble_eq_true rfl) (fun _ _ _ _ _ _ _ _ _ _ _ B => w_stick_0 B x0 x1 rfl hG)
def rm_restart : Room := { frames := 2, cells := 0, slots := 0, locals := 41 }
def f_restart_11  : Nat → Nat → St → Int32 × St
  | 0, i, u => ((1 : Int32), (f_G_forget (up2 (up2 u 0 2 (0 : Int32)) 0 1 (0 : Int32))))
  | n + 1, i, u => (f_restart_11 n (i + 1) (up2 (f_R_goDark u i) 35 i (-1 : Int32)))
set_option maxRecDepth 20000 in
set_option maxHeartbeats 1000000 in
theorem w_restart_11 {F : Int32 × St} (B : jk_BI p l e R s m args below meth c cX3_restart 2 RX3 TT .int D clA (tyl z) (cW z a) A Q rm_restart F)  : ∀ (n i : Nat) (u : St), i + n = 2 → f_restart_11 n i u = F → JJ p l e R s m args below meth c 0 0 2 D clA (cW z a) A Q 11 [(1, .int (nI i)), (0, .ref (a 0))] u [] := by
  have C := B.1
  intro n
  induction n with
  | zero =>
    intro i u hin hE
    obtain rfl : i = 2 := by omega
    have hge : (2 : Int32) ≤ nI 2 := by decide
    refine j_iload_n C 0 dX3_restart_11 rfl ?_
    refine j_iconst C 2 dX3_restart_12 ic_2 ?_
    refine j_icmp_ge C 41 dX3_restart_13 (by decide) (fun _ => ?_) (fun hq => absurd hge hq)
    refine j_aload_n C 1 dX3_restart_41 rfl ?_
    refine j_iconst C 0 dX3_restart_42 ic_0 ?_
    refine j_put C kf_3 0 pl_desk 6 (by decide) lk_3_103 rfl rfl rfl (Nat.le_of_ble_eq_true rfl) pu_desk_crossing dX3_restart_43 ?_
    refine j_aload_n C 1 dX3_restart_46 rfl ?_
    refine j_iconst C 0 dX3_restart_47 ic_0 ?_
    refine j_put C kf_3 0 pl_desk 5 (by decide) lk_3_106 rfl rfl rfl (Nat.le_of_ble_eq_true rfl) pu_desk_side dX3_restart_48 ?_
    refine j_aload_n C 1 dX3_restart_51 rfl ?_
    refine j_get C kf_3 0 pl_desk 2 (by decide) lk_3_28 rfl dX3_restart_52 ?_
    refine j_cVV C B.2.1 (c_G_forget l D z a (up2 (up2 u 0 2 (0 : Int32)) 0 1 (0 : Int32))) gv_3_109 dd_G_forget ⟨⟨rfl, rfl⟩, Nat.le_of_ble_eq_true rfl, Nat.le_of_ble_eq_true rfl⟩ 3 0 pl_guard rfl rfl rfl rfl (Nat.le_of_ble_eq_true rfl) dX3_restart_55 ?_
    refine j_iconst C 1 dX3_restart_58 ic_1 ?_
    exact B.2.2 _ _ _ _ dX3_restart_59 rfl hE
  | succ n ih =>
    intro i u hin hE
    have hlt : i < 2 := by omega
    have hnge : ¬ (2 : Int32) ≤ nI i := lt2 i hlt
    refine j_iload_n C 0 dX3_restart_11 rfl ?_
    refine j_iconst C 2 dX3_restart_12 ic_2 ?_
    refine j_icmp_ge C 41 dX3_restart_13 (by decide) (fun hq => absurd hq hnge) (fun _ => ?_)
    refine j_aload_n C 1 dX3_restart_16 rfl ?_
    refine j_get C kf_3 0 pl_desk 1 (by decide) lk_3_18 rfl dX3_restart_17 ?_
    refine j_iload_n C 0 dX3_restart_20 rfl ?_
    refine j_aald C 2 3 pl_rgs rfl i rfl hlt (by decide) rfl dX3_restart_21 ?_
    refine j_cVV C B.2.1 (c_R_goDark l D z a u i hlt) gv_3_97 dd_R_goDark ⟨⟨rfl, rfl⟩, Nat.le_of_ble_eq_true rfl, Nat.le_of_ble_eq_true rfl⟩ (23 + i) 2 (pl_rg hlt) rfl rfl rfl rfl (Nat.le_of_ble_eq_true rfl) dX3_restart_22 ?_
    refine j_aload_n C 1 dX3_restart_25 rfl ?_
    refine j_get C kf_3 0 pl_desk 1 (by decide) lk_3_18 rfl dX3_restart_26 ?_
    refine j_iload_n C 0 dX3_restart_29 rfl ?_
    refine j_aald C 2 3 pl_rgs rfl i rfl hlt (by decide) rfl dX3_restart_30 ?_
    refine j_iconst C (-1) dX3_restart_31 ic_m1 ?_
    refine j_put C kf_2 (23 + i) (pl_rg hlt) 7 (by decide) lk_3_100 rfl rfl rfl (Nat.le_of_ble_eq_true rfl) (pu_rg_next hlt) dX3_restart_32 ?_
    refine j_iinc C 0 (nI (i + 1)) dX3_restart_35 rfl (nI_1 _) (by decide) rfl ?_
    refine j_goto C 11 dX3_restart_38 (by decide) ?_
    exact ih (i + 1) (up2 (f_R_goDark u i) 35 i (-1 : Int32)) (by omega) hE
def f_restart (u : St)  : Int32 × St := (if (f_isFlashing u) = (0 : Int32) then ((0 : Int32), u) else (f_restart_11 2 0 u))
set_option maxRecDepth 20000 in
set_option maxHeartbeats 1000000 in
theorem w_restart_0 {F : Int32 × St} {u : St} (B : jk_BI p l e R s m args below meth c cX3_restart 2 RX3 TT .int D clA (tyl z) (cW z a) A Q rm_restart F)  (hE : f_restart u = F) : JJ p l e R s m args below meth c 0 0 2 D clA (cW z a) A Q 0 [(0, .ref (a 0))] u [] := by
  have C := B.1
  unfold f_restart at hE
  refine j_aload_n C 0 dX3_restart_0 rfl ?_
  refine j_cIV C B.2.1 (c_isFlashing l D z a u) gv_3_93 dd_isFlashing ⟨⟨rfl, rfl⟩, Nat.le_of_ble_eq_true rfl, Nat.le_of_ble_eq_true rfl⟩ 0 3 pl_desk rfl rfl rfl rfl (Nat.le_of_ble_eq_true rfl) dX3_restart_1 ?_
  refine j_if_ne C 9 dX3_restart_4 (by decide) (fun c1 => ?_) (fun c1 => ?_)
  · have hE := (if_neg c1).symm.trans hE
    refine j_iconst C 0 dX3_restart_9 ic_0 ?_
    refine j_istore_n C dX3_restart_10 (by decide) rfl ?_
    refine j_lq (congrArg (fun x => ([(1, .int x), (0, .ref (a 0))] : List (Nat × Value))) ix_0) ?_
    exact w_restart_11 B 2 0 u (by omega) hE
  · have hE := (if_pos c1).symm.trans hE
    refine j_iconst C 0 dX3_restart_7 ic_0 ?_
    exact B.2.2 _ _ _ _ dX3_restart_8 rfl hE
theorem c_restart (l : Launch) (D : va_G) (z : Nat → ClassId) (a : Nat → Nat) (u : St)  : CtI l yX3_restart (.code yX3_restart cX3_restart 2 (some .int) :: TT) rm_restart D clA (tyl z) (cW z a) [.ref (a 0)] u (f_restart u).1 (f_restart u).2 :=
  jk_metI (own := RX3) (by decide) rfl (Nat.le_of_ble_eq_true rfl) (fun _ _ _ _ _ _ _ _ _ _ _ B => w_restart_0 B rfl)
def rm_of : Room := { frames := 3, cells := 0, slots := 0, locals := 64 }
def f_of (u : St) (x0 : Int32) (x1 : Int32) : Int32 := (if (f_isMovement x0) = (0 : Int32) then (-1 : Int32) else (if x1 = (0 : Int32) then (if (f_isFlashing u) = (0 : Int32) then (f_shownLight u (x0.toNatClampNeg)) else (3 : Int32)) else (if x1 = (1 : Int32) then (if (f_isGreen u (x0.toNatClampNeg)) = (0 : Int32) then (0 : Int32) else (f_R_walking u ((x0.toNatClampNeg) / 4))) else (if x1 = (2 : Int32) then (f_number (f_isCalled u (x0.toNatClampNeg))) else (if x1 = (3 : Int32) then (u 14 (x0.toNatClampNeg)) else (if x1 = (4 : Int32) then (u 15 (x0.toNatClampNeg)) else (if x1 = (5 : Int32) then (u 16 (x0.toNatClampNeg)) else (if x1 = (6 : Int32) then (f_number (u 11 (x0.toNatClampNeg))) else (if x1 = (7 : Int32) then (f_number (u 13 (x0.toNatClampNeg))) else (if x1 = (8 : Int32) then (f_number (u 12 (x0.toNatClampNeg))) else (-1 : Int32)))))))))))
def g_of (u : St) (x0 : Int32) (x1 : Int32) : Prop := (((f_isMovement x0) = (0 : Int32) → True) ∧ (¬ (f_isMovement x0) = (0 : Int32) → (vp_in x0 8)))
set_option maxRecDepth 20000 in
set_option maxHeartbeats 1000000 in
theorem w_of_0 {Fr : Int32} {u : St} (B : jk_BI p l e R s m args below meth c cX3_of 4 RX3 TT .int D clA (tyl z) (cW z a) A Q rm_of (Fr, u)) (x0 : Int32) (x1 : Int32) (hE : f_of u x0 x1 = Fr) (hG : g_of u x0 x1) : JJ p l e R s m args below meth c 0 0 4 D clA (cW z a) A Q 0 [(0, .ref (a 0)), (1, .int x0), (2, .int x1)] u [] := by
  have C := B.1
  unfold f_of at hE
  unfold g_of at hG
  refine j_iload_n C 1 dX3_of_0 rfl ?_
  refine j_cIS C B.2.1 (c_isMovement l D z a u x0) gv_3_36 dd_isMovement ⟨⟨rfl, rfl⟩, Nat.le_of_ble_eq_true rfl, Nat.le_of_ble_eq_true rfl⟩ rfl rfl (Nat.le_of_ble_eq_true rfl) dX3_of_1 ?_
  refine j_if_ne C 9 dX3_of_4 (by decide) (fun c1 => ?_) (fun c1 => ?_)
  · have hE := (if_neg c1).symm.trans hE
    have hG := hG.2 c1
    refine j_aload_n C 0 dX3_of_9 rfl ?_
    refine j_get C kf_3 0 pl_desk 0 (by decide) lk_3_11 rfl dX3_of_10 ?_
    refine j_iload_n C 1 dX3_of_13 rfl ?_
    have hv2 := hG
    have lhv2 := jk_lt hv2
    refine j_aald C 1 2 pl_mvs rfl (x0.toNatClampNeg) (jk_self hv2 (by decide)) (jk_lt hv2) (by decide) rfl dX3_of_14 ?_
    refine j_astore_n C dX3_of_15 (by decide) rfl ?_
    refine j_iload_n C 3 dX3_of_16 rfl ?_
    by_cases t0 : x1 = (0 : Int32)
    · have hE := (if_pos t0).symm.trans hE
      refine j_tableIn C 68 dX3_of_17 (by rw [t0]; decide) (by rw [t0]; decide) (by rw [t0]; rfl) (by decide) ?_
      refine j_aload_n C 1 dX3_of_68 rfl ?_
      refine j_cIV C B.2.1 (c_isFlashing l D z a u) gv_3_93 dd_isFlashing ⟨⟨rfl, rfl⟩, Nat.le_of_ble_eq_true rfl, Nat.le_of_ble_eq_true rfl⟩ 0 3 pl_desk rfl rfl rfl rfl (Nat.le_of_ble_eq_true rfl) dX3_of_69 ?_
      refine j_if_eq C 79 dX3_of_72 (by decide) (fun c3 => ?_) (fun c3 => ?_)
      · have hE := (if_pos c3).symm.trans hE
        refine j_aload_n C 1 dX3_of_79 rfl ?_
        refine j_iload_n C 2 dX3_of_80 rfl ?_
        refine j_st (st' := [.int (nI (x0.toNatClampNeg)), .ref (a 0)]) (congrArg (fun x => ([.int x, .ref (a 0)] : List Value)) (jk_self hv2 (by decide))) ?_
        refine j_cIV C B.2.1 (c_shownLight l D z a u (x0.toNatClampNeg) (jk_lt hv2)) gv_3_112 dd_shownLight ⟨⟨rfl, rfl⟩, Nat.le_of_ble_eq_true rfl, Nat.le_of_ble_eq_true rfl⟩ 0 3 pl_desk rfl rfl rfl rfl (Nat.le_of_ble_eq_true rfl) dX3_of_81 ?_
        exact B.2.2 _ _ _ _ dX3_of_84 rfl (congrArg (fun x => (x, u)) hE)
      · have hE := (if_neg c3).symm.trans hE
        refine j_iconst C 3 dX3_of_75 ic_3 ?_
        refine j_goto C 84 dX3_of_76 (by decide) ?_
        exact B.2.2 _ _ _ _ dX3_of_84 rfl (congrArg (fun x => (x, u)) hE)
    · have hE := (if_neg t0).symm.trans hE
      by_cases t1 : x1 = (1 : Int32)
      · have hE := (if_pos t1).symm.trans hE
        refine j_tableIn C 85 dX3_of_17 (by rw [t1]; decide) (by rw [t1]; decide) (by rw [t1]; rfl) (by decide) ?_
        refine j_aload_n C 1 dX3_of_85 rfl ?_
        refine j_iload_n C 2 dX3_of_86 rfl ?_
        refine j_st (st' := [.int (nI (x0.toNatClampNeg)), .ref (a 0)]) (congrArg (fun x => ([.int x, .ref (a 0)] : List Value)) (jk_self hv2 (by decide))) ?_
        refine j_cIV C B.2.1 (c_isGreen l D z a u (x0.toNatClampNeg) (jk_lt hv2)) gv_3_77 dd_isGreen ⟨⟨rfl, rfl⟩, Nat.le_of_ble_eq_true rfl, Nat.le_of_ble_eq_true rfl⟩ 0 3 pl_desk rfl rfl rfl rfl (Nat.le_of_ble_eq_true rfl) dX3_of_87 ?_
        refine j_if_eq C 108 dX3_of_90 (by decide) (fun c4 => ?_) (fun c4 => ?_)
        · have hE := (if_pos c4).symm.trans hE
          refine j_iconst C 0 dX3_of_108 ic_0 ?_
          exact B.2.2 _ _ _ _ dX3_of_109 rfl (congrArg (fun x => (x, u)) hE)
        · have hE := (if_neg c4).symm.trans hE
          refine j_aload_n C 1 dX3_of_93 rfl ?_
          refine j_get C kf_3 0 pl_desk 1 (by decide) lk_3_18 rfl dX3_of_94 ?_
          refine j_iload_n C 2 dX3_of_97 rfl ?_
          refine j_st (st' := [.int (nI (x0.toNatClampNeg)), .ref (a 2)]) (congrArg (fun x => ([.int x, .ref (a 2)] : List Value)) (jk_self hv2 (by decide))) ?_
          refine j_cIS C B.2.1 (c_ringOf l D z a u (x0.toNatClampNeg) (jk_lt hv2)) gv_3_115 dd_ringOf ⟨⟨rfl, rfl⟩, Nat.le_of_ble_eq_true rfl, Nat.le_of_ble_eq_true rfl⟩ rfl rfl (Nat.le_of_ble_eq_true rfl) dX3_of_98 ?_
          refine j_aald C 2 3 pl_rgs rfl ((x0.toNatClampNeg) / 4) rfl (by omega) (by decide) rfl dX3_of_101 ?_
          refine j_cIV C B.2.1 (c_R_walking l D z a u ((x0.toNatClampNeg) / 4) (by omega)) gv_3_118 dd_R_walking ⟨⟨rfl, rfl⟩, Nat.le_of_ble_eq_true rfl, Nat.le_of_ble_eq_true rfl⟩ (23 + ((x0.toNatClampNeg) / 4)) 2 (pl_rg (by omega)) rfl rfl rfl rfl (Nat.le_of_ble_eq_true rfl) dX3_of_102 ?_
          refine j_goto C 109 dX3_of_105 (by decide) ?_
          exact B.2.2 _ _ _ _ dX3_of_109 rfl (congrArg (fun x => (x, u)) hE)
      · have hE := (if_neg t1).symm.trans hE
        by_cases t2 : x1 = (2 : Int32)
        · have hE := (if_pos t2).symm.trans hE
          refine j_tableIn C 110 dX3_of_17 (by rw [t2]; decide) (by rw [t2]; decide) (by rw [t2]; rfl) (by decide) ?_
          refine j_aload_n C 1 dX3_of_110 rfl ?_
          refine j_iload_n C 2 dX3_of_111 rfl ?_
          refine j_st (st' := [.int (nI (x0.toNatClampNeg)), .ref (a 0)]) (congrArg (fun x => ([.int x, .ref (a 0)] : List Value)) (jk_self hv2 (by decide))) ?_
          refine j_cIV C B.2.1 (c_isCalled l D z a u (x0.toNatClampNeg) (jk_lt hv2)) gv_3_121 dd_isCalled ⟨⟨rfl, rfl⟩, Nat.le_of_ble_eq_true rfl, Nat.le_of_ble_eq_true rfl⟩ 0 3 pl_desk rfl rfl rfl rfl (Nat.le_of_ble_eq_true rfl) dX3_of_112 ?_
          refine j_cIS C B.2.1 (c_number l D z a u (f_isCalled u (x0.toNatClampNeg))) gv_3_124 dd_number ⟨⟨rfl, rfl⟩, Nat.le_of_ble_eq_true rfl, Nat.le_of_ble_eq_true rfl⟩ rfl rfl (Nat.le_of_ble_eq_true rfl) dX3_of_115 ?_
          exact B.2.2 _ _ _ _ dX3_of_118 rfl (congrArg (fun x => (x, u)) hE)
        · have hE := (if_neg t2).symm.trans hE
          by_cases t3 : x1 = (3 : Int32)
          · have hE := (if_pos t3).symm.trans hE
            refine j_tableIn C 119 dX3_of_17 (by rw [t3]; decide) (by rw [t3]; decide) (by rw [t3]; rfl) (by decide) ?_
            refine j_aload_n C 0 dX3_of_119 rfl ?_
            refine j_get C kf_1 (7 + (x0.toNatClampNeg)) (pl_mv (jk_lt hv2)) 5 (by decide) lk_3_128 rfl dX3_of_120 ?_
            exact B.2.2 _ _ _ _ dX3_of_123 rfl (congrArg (fun x => (x, u)) hE)
          · have hE := (if_neg t3).symm.trans hE
            by_cases t4 : x1 = (4 : Int32)
            · have hE := (if_pos t4).symm.trans hE
              refine j_tableIn C 124 dX3_of_17 (by rw [t4]; decide) (by rw [t4]; decide) (by rw [t4]; rfl) (by decide) ?_
              refine j_aload_n C 0 dX3_of_124 rfl ?_
              refine j_get C kf_1 (7 + (x0.toNatClampNeg)) (pl_mv (jk_lt hv2)) 6 (by decide) lk_3_131 rfl dX3_of_125 ?_
              exact B.2.2 _ _ _ _ dX3_of_128 rfl (congrArg (fun x => (x, u)) hE)
            · have hE := (if_neg t4).symm.trans hE
              by_cases t5 : x1 = (5 : Int32)
              · have hE := (if_pos t5).symm.trans hE
                refine j_tableIn C 129 dX3_of_17 (by rw [t5]; decide) (by rw [t5]; decide) (by rw [t5]; rfl) (by decide) ?_
                refine j_aload_n C 0 dX3_of_129 rfl ?_
                refine j_get C kf_1 (7 + (x0.toNatClampNeg)) (pl_mv (jk_lt hv2)) 7 (by decide) lk_3_134 rfl dX3_of_130 ?_
                exact B.2.2 _ _ _ _ dX3_of_133 rfl (congrArg (fun x => (x, u)) hE)
              · have hE := (if_neg t5).symm.trans hE
                by_cases t6 : x1 = (6 : Int32)
                · have hE := (if_pos t6).symm.trans hE
                  refine j_tableIn C 134 dX3_of_17 (by rw [t6]; decide) (by rw [t6]; decide) (by rw [t6]; rfl) (by decide) ?_
                  refine j_aload_n C 0 dX3_of_134 rfl ?_
                  refine j_get C kf_1 (7 + (x0.toNatClampNeg)) (pl_mv (jk_lt hv2)) 2 (by decide) lk_3_70 rfl dX3_of_135 ?_
                  refine j_cIS C B.2.1 (c_number l D z a u (u 11 (x0.toNatClampNeg))) gv_3_124 dd_number ⟨⟨rfl, rfl⟩, Nat.le_of_ble_eq_true rfl, Nat.le_of_ble_eq_true rfl⟩ rfl rfl (Nat.le_of_ble_eq_true rfl) dX3_of_138 ?_
                  exact B.2.2 _ _ _ _ dX3_of_141 rfl (congrArg (fun x => (x, u)) hE)
                · have hE := (if_neg t6).symm.trans hE
                  by_cases t7 : x1 = (7 : Int32)
                  · have hE := (if_pos t7).symm.trans hE
                    refine j_tableIn C 142 dX3_of_17 (by rw [t7]; decide) (by rw [t7]; decide) (by rw [t7]; rfl) (by decide) ?_
                    refine j_aload_n C 0 dX3_of_142 rfl ?_
                    refine j_get C kf_1 (7 + (x0.toNatClampNeg)) (pl_mv (jk_lt hv2)) 4 (by decide) lk_3_83 rfl dX3_of_143 ?_
                    refine j_cIS C B.2.1 (c_number l D z a u (u 13 (x0.toNatClampNeg))) gv_3_124 dd_number ⟨⟨rfl, rfl⟩, Nat.le_of_ble_eq_true rfl, Nat.le_of_ble_eq_true rfl⟩ rfl rfl (Nat.le_of_ble_eq_true rfl) dX3_of_146 ?_
                    exact B.2.2 _ _ _ _ dX3_of_149 rfl (congrArg (fun x => (x, u)) hE)
                  · have hE := (if_neg t7).symm.trans hE
                    by_cases t8 : x1 = (8 : Int32)
                    · have hE := (if_pos t8).symm.trans hE
                      refine j_tableIn C 150 dX3_of_17 (by rw [t8]; decide) (by rw [t8]; decide) (by rw [t8]; rfl) (by decide) ?_
                      refine j_aload_n C 0 dX3_of_150 rfl ?_
                      refine j_get C kf_1 (7 + (x0.toNatClampNeg)) (pl_mv (jk_lt hv2)) 3 (by decide) lk_3_80 rfl dX3_of_151 ?_
                      refine j_cIS C B.2.1 (c_number l D z a u (u 12 (x0.toNatClampNeg))) gv_3_124 dd_number ⟨⟨rfl, rfl⟩, Nat.le_of_ble_eq_true rfl, Nat.le_of_ble_eq_true rfl⟩ rfl rfl (Nat.le_of_ble_eq_true rfl) dX3_of_154 ?_
                      exact B.2.2 _ _ _ _ dX3_of_157 rfl (congrArg (fun x => (x, u)) hE)
                    · have hE := (if_neg t8).symm.trans hE
                      refine j_tableOut C 158 dX3_of_17 (jk_out8 t0 t1 t2 t3 t4 t5 t6 t7 t8) (by decide) ?_
                      refine j_iconst C (-1) dX3_of_158 ic_m1 ?_
                      exact B.2.2 _ _ _ _ dX3_of_159 rfl (congrArg (fun x => (x, u)) hE)
  · have hE := (if_pos c1).symm.trans hE
    refine j_iconst C (-1) dX3_of_7 ic_m1 ?_
    exact B.2.2 _ _ _ _ dX3_of_8 rfl (congrArg (fun x => (x, u)) hE)
theorem c_of (l : Launch) (D : va_G) (z : Nat → ClassId) (a : Nat → Nat) (u : St) (x0 : Int32) (x1 : Int32) (hG : g_of u x0 x1) : CtI l yX3_of (.code yX3_of cX3_of 4 (some .int) :: TT) rm_of D clA (tyl z) (cW z a) [.ref (a 0), .int x0, .int x1] u (f_of u x0 x1) u :=
  jk_metI (own := RX3) (by decide) rfl (Nat.le_of_ble_eq_true rfl) (fun _ _ _ _ _ _ _ _ _ _ _ B => w_of_0 B x0 x1 rfl hG)
end WLK

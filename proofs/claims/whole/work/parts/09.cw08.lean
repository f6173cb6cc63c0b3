section WLK
variable {p : Program} {l : Launch} {e : Env} {R : Room} {s : State} {m : MethodId} {args : Array Value} {below : List Frame} {meth : Method} {c : Code} {D : va_G} {z : Nat → ClassId} {a : Nat → Nat} {A : Nat → Prop} {Q : State → Prop}
def rm_mode : Room := { frames := 1, cells := 0, slots := 0, locals := 20 }
def f_mode (u : St) (x0 : Int32) (x1 : Int32) : Int32 × St := (if (f_isMovement x0) = (0 : Int32) then ((0 : Int32), u) else (if x1 < (0 : Int32) then ((0 : Int32), u) else (if x1 ≤ (63 : Int32) then ((1 : Int32), (up2 u 10 (x0.toNatClampNeg) x1)) else ((0 : Int32), u))))
def g_mode (u : St) (x0 : Int32) (x1 : Int32) : Prop := (((f_isMovement x0) = (0 : Int32) → True) ∧ (¬ (f_isMovement x0) = (0 : Int32) → ((x1 < (0 : Int32) → True) ∧ (¬ x1 < (0 : Int32) → ((x1 ≤ (63 : Int32) → (vp_in x0 8)) ∧ (¬ x1 ≤ (63 : Int32) → True))))))
set_option maxRecDepth 20000 in
set_option maxHeartbeats 1000000 in
theorem w_mode_0 {F : Int32 × St} {u : St} (B : jk_BI p l e R s m args below meth c cX3_mode 3 RX3 TT .int D clA (tyl z) (cW z a) A Q rm_mode F) (x0 : Int32) (x1 : Int32) (hE : f_mode u x0 x1 = F) (hG : g_mode u x0 x1) : JJ p l e R s m args below meth c 0 0 3 D clA (cW z a) A Q 0 [(0, .ref (a 0)), (1, .int x0), (2, .int x1)] u [] := by
  have C := B.1
  unfold f_mode at hE
  unfold g_mode at hG
  refine j_iload_n C 1 dX3_mode_0 rfl ?_
  refine j_cIS C B.2.1 (c_isMovement l D z a u x0) gv_3_36 dd_isMovement ⟨⟨rfl, rfl⟩, Nat.le_of_ble_eq_true rfl, Nat.le_of_ble_eq_true rfl⟩ rfl rfl (Nat.le_of_ble_eq_true rfl) dX3_mode_1 ?_
  refine j_if_eq C 17 dX3_mode_4 (by decide) (fun c1 => ?_) (fun c1 => ?_)
  · have hE := (if_pos c1).symm.trans hE
    refine j_iconst C 0 dX3_mode_17 ic_0 ?_
    exact B.2.2 _ _ _ _ dX3_mode_18 rfl hE
  · have hE := (if_neg c1).symm.trans hE
    have hG := hG.2 c1
    refine j_iload_n C 2 dX3_mode_7 rfl ?_
    refine j_if_lt C 17 dX3_mode_8 (by decide) (fun c2 => ?_) (fun c2 => ?_)
    · have hE := (if_pos c2).symm.trans hE
      refine j_iconst C 0 dX3_mode_17 ic_0 ?_
      exact B.2.2 _ _ _ _ dX3_mode_18 rfl hE
    · have hE := (if_neg c2).symm.trans hE
      have hG := hG.2 c2
      refine j_iload_n C 2 dX3_mode_11 rfl ?_
      refine j_bipush C 63 dX3_mode_12 bp_63 ?_
      refine j_icmp_le C 19 dX3_mode_14 (by decide) (fun c3 => ?_) (fun c3 => ?_)
      · have hE := (if_pos c3).symm.trans hE
        have hG := hG.1 c3
        refine j_aload_n C 0 dX3_mode_19 rfl ?_
        refine j_get C kf_3 0 pl_desk 0 (by decide) lk_3_11 rfl dX3_mode_20 ?_
        refine j_iload_n C 1 dX3_mode_23 rfl ?_
        have hv4 := hG
        have lhv4 := jk_lt hv4
        refine j_aald C 1 2 pl_mvs rfl (x0.toNatClampNeg) (jk_self hv4 (by decide)) (jk_lt hv4) (by decide) rfl dX3_mode_24 ?_
        refine j_iload_n C 2 dX3_mode_25 rfl ?_
        refine j_put C kf_1 (7 + (x0.toNatClampNeg)) (pl_mv (jk_lt hv4)) 1 (by decide) lk_3_49 rfl rfl rfl (Nat.le_of_ble_eq_true rfl) (pu_mv_modes (jk_lt hv4)) dX3_mode_26 ?_
        refine j_iconst C 1 dX3_mode_29 ic_1 ?_
        exact B.2.2 _ _ _ _ dX3_mode_30 rfl hE
      · have hE := (if_neg c3).symm.trans hE
        refine j_iconst C 0 dX3_mode_17 ic_0 ?_
        exact B.2.2 _ _ _ _ dX3_mode_18 rfl hE
theorem c_mode (l : Launch) (D : va_G) (z : Nat → ClassId) (a : Nat → Nat) (u : St) (x0 : Int32) (x1 : Int32) (hG : g_mode u x0 x1) : CtI l yX3_mode (.code yX3_mode cX3_mode 3 (some .int) :: TT) rm_mode D clA (tyl z) (cW z a) [.ref (a 0), .int x0, .int x1] u (f_mode u x0 x1).1 (f_mode u x0 x1).2 :=
  jk_metI (own := RX3) (by decide) rfl (Nat.le_of_ble_eq_true rfl) (fun _ _ _ _ _ _ _ _ _ _ _ B => w_mode_0 B x0 x1 rfl hG)
def rm_exchange : Room := { frames := 1, cells := 0, slots := 0, locals := 21 }
def f_exchange (u : St) (x0 : Int32) (x1 : Int32) : Int32 × St := (if (f_isRing x0) = (0 : Int32) then ((0 : Int32), u) else (if x1 < (0 : Int32) then ((0 : Int32), u) else (if x1 < (2 : Int32) then (if (f_R_isBusyWith u (x0.toNatClampNeg) (f_R_first u (x0.toNatClampNeg) x1)) = (0 : Int32) then (if (f_R_isBusyWith u (x0.toNatClampNeg) (f_R_second u (x0.toNatClampNeg) x1)) = (0 : Int32) then (if (u (40 + (x0.toNatClampNeg)) (x1.toNatClampNeg)) = (0 : Int32) then ((1 : Int32), (up2 u (40 + (x0.toNatClampNeg)) (x1.toNatClampNeg) (1 : Int32))) else ((1 : Int32), (up2 u (40 + (x0.toNatClampNeg)) (x1.toNatClampNeg) (0 : Int32)))) else ((0 : Int32), u)) else ((0 : Int32), u)) else ((0 : Int32), u))))
def g_exchange (u : St) (x0 : Int32) (x1 : Int32) : Prop := (((f_isRing x0) = (0 : Int32) → True) ∧ (¬ (f_isRing x0) = (0 : Int32) → ((x1 < (0 : Int32) → True) ∧ (¬ x1 < (0 : Int32) → ((x1 < (2 : Int32) → ((vp_in x0 2) ∧ ((g_R_first u (x0.toNatClampNeg) x1) ∧ (((f_R_isBusyWith u (x0.toNatClampNeg) (f_R_first u (x0.toNatClampNeg) x1)) = (0 : Int32) → ((g_R_second u (x0.toNatClampNeg) x1) ∧ (((f_R_isBusyWith u (x0.toNatClampNeg) (f_R_second u (x0.toNatClampNeg) x1)) = (0 : Int32) → (vp_in x1 2)) ∧ (¬ (f_R_isBusyWith u (x0.toNatClampNeg) (f_R_second u (x0.toNatClampNeg) x1)) = (0 : Int32) → True)))) ∧ (¬ (f_R_isBusyWith u (x0.toNatClampNeg) (f_R_first u (x0.toNatClampNeg) x1)) = (0 : Int32) → True))))) ∧ (¬ x1 < (2 : Int32) → True))))))
set_option maxRecDepth 20000 in
set_option maxHeartbeats 1000000 in
theorem w_exchange_0 {F : Int32 × St} {u : St} (B : jk_BI p l e R s m args below meth c cX3_exchange 4 RX3 TT .int D clA (tyl z) (cW z a) A Q rm_exchange F) (x0 : Int32) (x1 : Int32) (hE : f_exchange u x0 x1 = F) (hG : g_exchange u x0 x1) : JJ p l e R s m args below meth c 0 0 4 D clA (cW z a) A Q 0 [(0, .ref (a 0)), (1, .int x0), (2, .int x1)] u [] := by
  have C := B.1
  unfold f_exchange at hE
  unfold g_exchange at hG
  refine j_iload_n C 1 dX3_exchange_0 rfl ?_
  refine j_cIS C B.2.1 (c_isRing l D z a u x0) gv_3_53 dd_isRing ⟨⟨rfl, rfl⟩, Nat.le_of_ble_eq_true rfl, Nat.le_of_ble_eq_true rfl⟩ rfl rfl (Nat.le_of_ble_eq_true rfl) dX3_exchange_1 ?_
  refine j_if_eq C 16 dX3_exchange_4 (by decide) (fun c1 => ?_) (fun c1 => ?_)
  · have hE := (if_pos c1).symm.trans hE
    refine j_iconst C 0 dX3_exchange_16 ic_0 ?_
    exact B.2.2 _ _ _ _ dX3_exchange_17 rfl hE
  · have hE := (if_neg c1).symm.trans hE
    have hG := hG.2 c1
    refine j_iload_n C 2 dX3_exchange_7 rfl ?_
    refine j_if_lt C 16 dX3_exchange_8 (by decide) (fun c2 => ?_) (fun c2 => ?_)
    · have hE := (if_pos c2).symm.trans hE
      refine j_iconst C 0 dX3_exchange_16 ic_0 ?_
      exact B.2.2 _ _ _ _ dX3_exchange_17 rfl hE
    · have hE := (if_neg c2).symm.trans hE
      have hG := hG.2 c2
      refine j_iload_n C 2 dX3_exchange_11 rfl ?_
      refine j_iconst C 2 dX3_exchange_12 ic_2 ?_
      refine j_icmp_lt C 18 dX3_exchange_13 (by decide) (fun c3 => ?_) (fun c3 => ?_)
      · have hE := (if_pos c3).symm.trans hE
        have hG := hG.1 c3
        refine j_aload_n C 0 dX3_exchange_18 rfl ?_
        refine j_get C kf_3 0 pl_desk 1 (by decide) lk_3_18 rfl dX3_exchange_19 ?_
        refine j_iload_n C 1 dX3_exchange_22 rfl ?_
        obtain ⟨hv4, hG⟩ := hG
        have lhv4 := jk_lt hv4
        refine j_aald C 2 3 pl_rgs rfl (x0.toNatClampNeg) (jk_self hv4 (by decide)) (jk_lt hv4) (by decide) rfl dX3_exchange_23 ?_
        refine j_astore_n C dX3_exchange_24 (by decide) rfl ?_
        refine j_aload_n C 0 dX3_exchange_25 rfl ?_
        refine j_aload_n C 0 dX3_exchange_26 rfl ?_
        refine j_iload_n C 3 dX3_exchange_27 rfl ?_
        obtain ⟨hg5, hG⟩ := hG
        refine j_cIV C B.2.1 (c_R_first l D z a u (x0.toNatClampNeg) x1 (jk_lt hv4) hg5) gv_3_56 dd_R_first ⟨⟨rfl, rfl⟩, Nat.le_of_ble_eq_true rfl, Nat.le_of_ble_eq_true rfl⟩ (23 + (x0.toNatClampNeg)) 2 (pl_rg (jk_lt hv4)) rfl rfl rfl rfl (Nat.le_of_ble_eq_true rfl) dX3_exchange_28 ?_
        refine j_cIV C B.2.1 (c_R_isBusyWith l D z a u (x0.toNatClampNeg) (f_R_first u (x0.toNatClampNeg) x1) (jk_lt hv4)) gv_3_60 dd_R_isBusyWith ⟨⟨rfl, rfl⟩, Nat.le_of_ble_eq_true rfl, Nat.le_of_ble_eq_true rfl⟩ (23 + (x0.toNatClampNeg)) 2 (pl_rg (jk_lt hv4)) rfl rfl rfl rfl (Nat.le_of_ble_eq_true rfl) dX3_exchange_31 ?_
        refine j_if_ne C 49 dX3_exchange_34 (by decide) (fun c6 => ?_) (fun c6 => ?_)
        · have hE := (if_neg c6).symm.trans hE
          refine j_iconst C 0 dX3_exchange_49 ic_0 ?_
          exact B.2.2 _ _ _ _ dX3_exchange_50 rfl hE
        · have hE := (if_pos c6).symm.trans hE
          have hG := hG.1 c6
          refine j_aload_n C 0 dX3_exchange_37 rfl ?_
          refine j_aload_n C 0 dX3_exchange_38 rfl ?_
          refine j_iload_n C 3 dX3_exchange_39 rfl ?_
          obtain ⟨hg7, hG⟩ := hG
          refine j_cIV C B.2.1 (c_R_second l D z a u (x0.toNatClampNeg) x1 (jk_lt hv4) hg7) gv_3_63 dd_R_second ⟨⟨rfl, rfl⟩, Nat.le_of_ble_eq_true rfl, Nat.le_of_ble_eq_true rfl⟩ (23 + (x0.toNatClampNeg)) 2 (pl_rg (jk_lt hv4)) rfl rfl rfl rfl (Nat.le_of_ble_eq_true rfl) dX3_exchange_40 ?_
          refine j_cIV C B.2.1 (c_R_isBusyWith l D z a u (x0.toNatClampNeg) (f_R_second u (x0.toNatClampNeg) x1) (jk_lt hv4)) gv_3_60 dd_R_isBusyWith ⟨⟨rfl, rfl⟩, Nat.le_of_ble_eq_true rfl, Nat.le_of_ble_eq_true rfl⟩ (23 + (x0.toNatClampNeg)) 2 (pl_rg (jk_lt hv4)) rfl rfl rfl rfl (Nat.le_of_ble_eq_true rfl) dX3_exchange_43 ?_
          refine j_if_eq C 51 dX3_exchange_46 (by decide) (fun c8 => ?_) (fun c8 => ?_)
          · have hE := (if_pos c8).symm.trans hE
            have hG := hG.1 c8
            refine j_aload_n C 0 dX3_exchange_51 rfl ?_
            refine j_get C kf_2 (23 + (x0.toNatClampNeg)) (pl_rg (jk_lt hv4)) 1 (by decide) lk_3_66 rfl dX3_exchange_52 ?_
            refine j_iload_n C 3 dX3_exchange_55 rfl ?_
            refine j_aload_n C 0 dX3_exchange_56 rfl ?_
            refine j_get C kf_2 (23 + (x0.toNatClampNeg)) (pl_rg (jk_lt hv4)) 1 (by decide) lk_3_66 rfl dX3_exchange_57 ?_
            refine j_iload_n C 3 dX3_exchange_60 rfl ?_
            have hv9 := hG
            have lhv9 := jk_lt hv9
            refine j_zald C (25 + (x0.toNatClampNeg)) 1 (pl_ex (jk_lt hv4)) rfl (x1.toNatClampNeg) (jk_self hv9 (by decide)) (jk_lt hv9) (by decide) dX3_exchange_61 ?_
            refine j_if_ne C 69 dX3_exchange_62 (by decide) (fun c10 => ?_) (fun c10 => ?_)
            · have hE := (if_neg c10).symm.trans hE
              refine j_iconst C 0 dX3_exchange_69 ic_0 ?_
              refine j_zast C (25 + (x0.toNatClampNeg)) 1 (pl_ex (jk_lt hv4)) rfl (x1.toNatClampNeg) (jk_self hv9 (by decide)) (jk_lt hv9) (by decide) rfl (pu_ex (jk_lt hv4)) dX3_exchange_70 ?_
              refine j_iconst C 1 dX3_exchange_71 ic_1 ?_
              exact B.2.2 _ _ _ _ dX3_exchange_72 rfl hE
            · have hE := (if_pos c10).symm.trans hE
              refine j_iconst C 1 dX3_exchange_65 ic_1 ?_
              refine j_goto C 70 dX3_exchange_66 (by decide) ?_
              refine j_zast C (25 + (x0.toNatClampNeg)) 1 (pl_ex (jk_lt hv4)) rfl (x1.toNatClampNeg) (jk_self hv9 (by decide)) (jk_lt hv9) (by decide) rfl (pu_ex (jk_lt hv4)) dX3_exchange_70 ?_
              refine j_iconst C 1 dX3_exchange_71 ic_1 ?_
              exact B.2.2 _ _ _ _ dX3_exchange_72 rfl hE
          · have hE := (if_neg c8).symm.trans hE
            refine j_iconst C 0 dX3_exchange_49 ic_0 ?_
            exact B.2.2 _ _ _ _ dX3_exchange_50 rfl hE
      · have hE := (if_neg c3).symm.trans hE
        refine j_iconst C 0 dX3_exchange_16 ic_0 ?_
        exact B.2.2 _ _ _ _ dX3_exchange_17 rfl hE
theorem c_exchange (l : Launch) (D : va_G) (z : Nat → ClassId) (a : Nat → Nat) (u : St) (x0 : Int32) (x1 : Int32) (hG : g_exchange u x0 x1) : CtI l yX3_exchange (.code yX3_exchange cX3_exchange 4 (some .int) :: TT) rm_exchange D clA (tyl z) (cW z a) [.ref (a 0), .int x0, .int x1] u (f_exchange u x0 x1).1 (f_exchange u x0 x1).2 :=
  jk_metI (own := RX3) (by decide) rfl (Nat.le_of_ble_eq_true rfl) (fun _ _ _ _ _ _ _ _ _ _ _ B => w_exchange_0 B x0 x1 rfl hG)
def rm_car : Room := { frames := 2, cells := 0, slots := 0, locals := 42 }
def f_car (u : St) (x0 : Int32) (x1 : Int32) : Int32 × St := (if (f_isMovement x0) = (0 : Int32) then ((0 : Int32), u) else (if x1 < (0 : Int32) then ((0 : Int32), u) else (if x1 ≤ (1 : Int32) then (if x1 = (1 : Int32) then (if (u 11 (x0.toNatClampNeg)) = (1 : Int32) then ((0 : Int32), u) else (if (f_M_has (up2 u 11 (x0.toNatClampNeg) (1 : Int32)) (x0.toNatClampNeg) (2 : Int32)) = (0 : Int32) then ((1 : Int32), (up2 u 11 (x0.toNatClampNeg) (1 : Int32))) else (if (f_isGreen (up2 u 11 (x0.toNatClampNeg) (1 : Int32)) (x0.toNatClampNeg)) = (0 : Int32) then ((1 : Int32), (up2 (up2 u 11 (x0.toNatClampNeg) (1 : Int32)) 12 (x0.toNatClampNeg) (1 : Int32))) else ((1 : Int32), (up2 u 11 (x0.toNatClampNeg) (1 : Int32)))))) else (if (u 11 (x0.toNatClampNeg)) = (0 : Int32) then ((0 : Int32), u) else ((1 : Int32), (up2 u 11 (x0.toNatClampNeg) (0 : Int32))))) else ((0 : Int32), u))))
def g_car (u : St) (x0 : Int32) (x1 : Int32) : Prop := (((f_isMovement x0) = (0 : Int32) → True) ∧ (¬ (f_isMovement x0) = (0 : Int32) → ((x1 < (0 : Int32) → True) ∧ (¬ x1 < (0 : Int32) → ((x1 ≤ (1 : Int32) → (vp_in x0 8)) ∧ (¬ x1 ≤ (1 : Int32) → True))))))
set_option maxRecDepth 20000 in
set_option maxHeartbeats 1000000 in
theorem w_car_0 {F : Int32 × St} {u : St} (B : jk_BI p l e R s m args below meth c cX3_car 5 RX3 TT .int D clA (tyl z) (cW z a) A Q rm_car F) (x0 : Int32) (x1 : Int32) (hE : f_car u x0 x1 = F) (hG : g_car u x0 x1) : JJ p l e R s m args below meth c 0 0 5 D clA (cW z a) A Q 0 [(0, .ref (a 0)), (1, .int x0), (2, .int x1)] u [] := by
  have C := B.1
  unfold f_car at hE
  unfold g_car at hG
  refine j_iload_n C 1 dX3_car_0 rfl ?_
  refine j_cIS C B.2.1 (c_isMovement l D z a u x0) gv_3_36 dd_isMovement ⟨⟨rfl, rfl⟩, Nat.le_of_ble_eq_true rfl, Nat.le_of_ble_eq_true rfl⟩ rfl rfl (Nat.le_of_ble_eq_true rfl) dX3_car_1 ?_
  refine j_if_eq C 16 dX3_car_4 (by decide) (fun c1 => ?_) (fun c1 => ?_)
  · have hE := (if_pos c1).symm.trans hE
    refine j_iconst C 0 dX3_car_16 ic_0 ?_
    exact B.2.2 _ _ _ _ dX3_car_17 rfl hE
  · have hE := (if_neg c1).symm.trans hE
    have hG := hG.2 c1
    refine j_iload_n C 2 dX3_car_7 rfl ?_
    refine j_if_lt C 16 dX3_car_8 (by decide) (fun c2 => ?_) (fun c2 => ?_)
    · have hE := (if_pos c2).symm.trans hE
      refine j_iconst C 0 dX3_car_16 ic_0 ?_
      exact B.2.2 _ _ _ _ dX3_car_17 rfl hE
    · have hE := (if_neg c2).symm.trans hE
      have hG := hG.2 c2
      refine j_iload_n C 2 dX3_car_11 rfl ?_
      refine j_iconst C 1 dX3_car_12 ic_1 ?_
      refine j_icmp_le C 18 dX3_car_13 (by decide) (fun c3 => ?_) (fun c3 => ?_)
      · have hE := (if_pos c3).symm.trans hE
        have hG := hG.1 c3
        refine j_aload_n C 0 dX3_car_18 rfl ?_
        refine j_get C kf_3 0 pl_desk 0 (by decide) lk_3_11 rfl dX3_car_19 ?_
        refine j_iload_n C 1 dX3_car_22 rfl ?_
        have hv4 := hG
        have lhv4 := jk_lt hv4
        refine j_aald C 1 2 pl_mvs rfl (x0.toNatClampNeg) (jk_self hv4 (by decide)) (jk_lt hv4) (by decide) rfl dX3_car_23 ?_
        refine j_astore_n C dX3_car_24 (by decide) rfl ?_
        refine j_iload_n C 3 dX3_car_25 rfl ?_
        refine j_iconst C 1 dX3_car_26 ic_1 ?_
        refine j_icmp_ne C 34 dX3_car_27 (by decide) (fun c5 => ?_) (fun c5 => ?_)
        · have hE := (if_neg c5).symm.trans hE
          refine j_iconst C 0 dX3_car_34 ic_0 ?_
          refine j_istore C dX3_car_35 (by decide) rfl ?_
          refine j_aload_n C 1 dX3_car_37 rfl ?_
          refine j_get C kf_1 (7 + (x0.toNatClampNeg)) (pl_mv (jk_lt hv4)) 2 (by decide) lk_3_70 rfl dX3_car_38 ?_
          refine j_iload C 0 dX3_car_41 rfl ?_
          refine j_icmp_ne C 48 dX3_car_43 (by decide) (fun c6 => ?_) (fun c6 => ?_)
          · have hE := (if_neg c6).symm.trans hE
            refine j_aload_n C 1 dX3_car_48 rfl ?_
            refine j_iload C 0 dX3_car_49 rfl ?_
            refine j_put C kf_1 (7 + (x0.toNatClampNeg)) (pl_mv (jk_lt hv4)) 2 (by decide) lk_3_70 rfl rfl rfl (Nat.le_of_ble_eq_true rfl) (pu_mv_car (jk_lt hv4)) dX3_car_51 ?_
            refine j_iload C 0 dX3_car_54 rfl ?_
            refine j_if_eq C 80 dX3_car_56 (by decide) (fun _ => ?_) (fun hq => False.elim (by revert hq; decide))
            refine j_iconst C 1 dX3_car_80 ic_1 ?_
            exact B.2.2 _ _ _ _ dX3_car_81 rfl hE
          · have hE := (if_pos c6).symm.trans hE
            refine j_iconst C 0 dX3_car_46 ic_0 ?_
            exact B.2.2 _ _ _ _ dX3_car_47 rfl hE
        · have hE := (if_pos c5).symm.trans hE
          refine j_iconst C 1 dX3_car_30 ic_1 ?_
          refine j_goto C 35 dX3_car_31 (by decide) ?_
          refine j_istore C dX3_car_35 (by decide) rfl ?_
          refine j_aload_n C 1 dX3_car_37 rfl ?_
          refine j_get C kf_1 (7 + (x0.toNatClampNeg)) (pl_mv (jk_lt hv4)) 2 (by decide) lk_3_70 rfl dX3_car_38 ?_
          refine j_iload C 0 dX3_car_41 rfl ?_
          refine j_icmp_ne C 48 dX3_car_43 (by decide) (fun c7 => ?_) (fun c7 => ?_)
          · have hE := (if_neg c7).symm.trans hE
            refine j_aload_n C 1 dX3_car_48 rfl ?_
            refine j_iload C 0 dX3_car_49 rfl ?_
            refine j_put C kf_1 (7 + (x0.toNatClampNeg)) (pl_mv (jk_lt hv4)) 2 (by decide) lk_3_70 rfl rfl rfl (Nat.le_of_ble_eq_true rfl) (pu_mv_car (jk_lt hv4)) dX3_car_51 ?_
            refine j_iload C 0 dX3_car_54 rfl ?_
            refine j_if_eq C 80 dX3_car_56 (by decide) (fun hq => False.elim (by revert hq; decide)) (fun _ => ?_)
            refine j_aload_n C 1 dX3_car_59 rfl ?_
            refine j_iconst C 2 dX3_car_60 ic_2 ?_
            refine j_cIV C B.2.1 (c_M_has l D z a (up2 u 11 (x0.toNatClampNeg) (1 : Int32)) (x0.toNatClampNeg) (2 : Int32) (jk_lt hv4)) gv_3_74 dd_M_has ⟨⟨rfl, rfl⟩, Nat.le_of_ble_eq_true rfl, Nat.le_of_ble_eq_true rfl⟩ (7 + (x0.toNatClampNeg)) 1 (pl_mv (jk_lt hv4)) rfl rfl rfl rfl (Nat.le_of_ble_eq_true rfl) dX3_car_61 ?_
            refine j_if_eq C 80 dX3_car_64 (by decide) (fun c8 => ?_) (fun c8 => ?_)
            · have hE := (if_pos c8).symm.trans hE
              refine j_iconst C 1 dX3_car_80 ic_1 ?_
              exact B.2.2 _ _ _ _ dX3_car_81 rfl hE
            · have hE := (if_neg c8).symm.trans hE
              refine j_aload_n C 2 dX3_car_67 rfl ?_
              refine j_iload_n C 3 dX3_car_68 rfl ?_
              refine j_st (st' := [.int (nI (x0.toNatClampNeg)), .ref (a 0)]) (congrArg (fun x => ([.int x, .ref (a 0)] : List Value)) (jk_self hv4 (by decide))) ?_
              refine j_cIV C B.2.1 (c_isGreen l D z a (up2 u 11 (x0.toNatClampNeg) (1 : Int32)) (x0.toNatClampNeg) (jk_lt hv4)) gv_3_77 dd_isGreen ⟨⟨rfl, rfl⟩, Nat.le_of_ble_eq_true rfl, Nat.le_of_ble_eq_true rfl⟩ 0 3 pl_desk rfl rfl rfl rfl (Nat.le_of_ble_eq_true rfl) dX3_car_69 ?_
              refine j_if_ne C 80 dX3_car_72 (by decide) (fun c9 => ?_) (fun c9 => ?_)
              · have hE := (if_neg c9).symm.trans hE
                refine j_iconst C 1 dX3_car_80 ic_1 ?_
                exact B.2.2 _ _ _ _ dX3_car_81 rfl hE
              · have hE := (if_pos c9).symm.trans hE
                refine j_aload_n C 1 dX3_car_75 rfl ?_
                refine j_iconst C 1 dX3_car_76 ic_1 ?_
                refine j_put C kf_1 (7 + (x0.toNatClampNeg)) (pl_mv (jk_lt hv4)) 3 (by decide) lk_3_80 rfl rfl rfl (Nat.le_of_ble_eq_true rfl) (pu_mv_remembered (jk_lt hv4)) dX3_car_77 ?_
                refine j_iconst C 1 dX3_car_80 ic_1 ?_
                exact B.2.2 _ _ _ _ dX3_car_81 rfl hE
          · have hE := (if_pos c7).symm.trans hE
            refine j_iconst C 0 dX3_car_46 ic_0 ?_
            exact B.2.2 _ _ _ _ dX3_car_47 rfl hE
      · have hE := (if_neg c3).symm.trans hE
        refine j_iconst C 0 dX3_car_16 ic_0 ?_
        exact B.2.2 _ _ _ _ dX3_car_17 rfl hE
theorem c_car (l : Launch) (D : va_G) (z : Nat → ClassId) (a : Nat → Nat) (u : St) (x0 : Int32) (x1 : Int32) (hG : g_car u x0 x1) : CtI l yX3_car (.code yX3_car cX3_car 5 (some .int) :: TT) rm_car D clA (tyl z) (cW z a) [.ref (a 0), .int x0, .int x1] u (f_car u x0 x1).1 (f_car u x0 x1).2 :=
  jk_metI (own := RX3) (by decide) rfl (Nat.le_of_ble_eq_true rfl) (fun _ _ _ _ _ _ _ _ _ _ _ B => w_car_0 B x0 x1 rfl hG)
def rm_push : Room := { frames := 1, cells := 0, slots := 0, locals := 20 }
def f_push (u : St) (x0 : Int32) : Int32 × St := (if (f_isMovement x0) = (0 : Int32) then ((0 : Int32), u) else (if (u 13 (x0.toNatClampNeg)) = (0 : Int32) then ((1 : Int32), (up2 u 13 (x0.toNatClampNeg) (1 : Int32))) else ((0 : Int32), u)))
def g_push (u : St) (x0 : Int32) : Prop := (((f_isMovement x0) = (0 : Int32) → True) ∧ (¬ (f_isMovement x0) = (0 : Int32) → (vp_in x0 8)))
set_option maxRecDepth 20000 in
set_option maxHeartbeats 1000000 in
theorem w_push_0 {F : Int32 × St} {u : St} (B : jk_BI p l e R s m args below meth c cX3_push 2 RX3 TT .int D clA (tyl z) (cW z a) A Q rm_push F) (x0 : Int32) (hE : f_push u x0 = F) (hG : g_push u x0) : JJ p l e R s m args below meth c 0 0 2 D clA (cW z a) A Q 0 [(0, .ref (a 0)), (1, .int x0)] u [] := by
  have C := B.1
  unfold f_push at hE
  unfold g_push at hG
  refine j_iload_n C 1 dX3_push_0 rfl ?_
  refine j_cIS C B.2.1 (c_isMovement l D z a u x0) gv_3_36 dd_isMovement ⟨⟨rfl, rfl⟩, Nat.le_of_ble_eq_true rfl, Nat.le_of_ble_eq_true rfl⟩ rfl rfl (Nat.le_of_ble_eq_true rfl) dX3_push_1 ?_
  refine j_if_eq C 19 dX3_push_4 (by decide) (fun c1 => ?_) (fun c1 => ?_)
  · have hE := (if_pos c1).symm.trans hE
    refine j_iconst C 0 dX3_push_19 ic_0 ?_
    exact B.2.2 _ _ _ _ dX3_push_20 rfl hE
  · have hE := (if_neg c1).symm.trans hE
    have hG := hG.2 c1
    refine j_aload_n C 0 dX3_push_7 rfl ?_
    refine j_get C kf_3 0 pl_desk 0 (by decide) lk_3_11 rfl dX3_push_8 ?_
    refine j_iload_n C 1 dX3_push_11 rfl ?_
    have hv2 := hG
    have lhv2 := jk_lt hv2
    refine j_aald C 1 2 pl_mvs rfl (x0.toNatClampNeg) (jk_self hv2 (by decide)) (jk_lt hv2) (by decide) rfl dX3_push_12 ?_
    refine j_get C kf_1 (7 + (x0.toNatClampNeg)) (pl_mv (jk_lt hv2)) 4 (by decide) lk_3_83 rfl dX3_push_13 ?_
    refine j_if_eq C 21 dX3_push_16 (by decide) (fun c3 => ?_) (fun c3 => ?_)
    · have hE := (if_pos c3).symm.trans hE
      refine j_aload_n C 0 dX3_push_21 rfl ?_
      refine j_get C kf_3 0 pl_desk 0 (by decide) lk_3_11 rfl dX3_push_22 ?_
      refine j_iload_n C 1 dX3_push_25 rfl ?_
      refine j_aald C 1 2 pl_mvs rfl (x0.toNatClampNeg) (jk_self hv2 (by decide)) (jk_lt hv2) (by decide) rfl dX3_push_26 ?_
      refine j_iconst C 1 dX3_push_27 ic_1 ?_
      refine j_put C kf_1 (7 + (x0.toNatClampNeg)) (pl_mv (jk_lt hv2)) 4 (by decide) lk_3_83 rfl rfl rfl (Nat.le_of_ble_eq_true rfl) (pu_mv_pushed (jk_lt hv2)) dX3_push_28 ?_
      refine j_iconst C 1 dX3_push_31 ic_1 ?_
      exact B.2.2 _ _ _ _ dX3_push_32 rfl hE
    · have hE := (if_neg c3).symm.trans hE
      refine j_iconst C 0 dX3_push_19 ic_0 ?_
      exact B.2.2 _ _ _ _ dX3_push_20 rfl hE
theorem c_push (l : Launch) (D : va_G) (z : Nat → ClassId) (a : Nat → Nat) (u : St) (x0 : Int32) (hG : g_push u x0) : CtI l yX3_push (.code yX3_push cX3_push 2 (some .int) :: TT) rm_push D clA (tyl z) (cW z a) [.ref (a 0), .int x0] u (f_push u x0).1 (f_push u x0).2 :=
  jk_metI (own := RX3) (by decide) rfl (Nat.le_of_ble_eq_true rfl) (fun _ _ _ _ _ _ _ _ _ _ _ B => w_push_0 B x0 rfl hG)
def rm_stick : Room := { frames := 1, cells := 0, slots := 0, locals := 20 }
def f_stick (u : St) (x0 : Int32) (x1 : Int32) : Int32 × St := (if (f_isMovement x0) = (0 : Int32) then ((0 : Int32), u) else (if x1 < (-1 : Int32) then ((0 : Int32), u) else (if x1 ≤ (2 : Int32) then ((1 : Int32), (up2 u 17 (x0.toNatClampNeg) x1)) else ((0 : Int32), u))))
def g_stick (u : St) (x0 : Int32) (x1 : Int32) : Prop := (((f_isMovement x0) = (0 : Int32) → True) ∧ (¬ (f_isMovement x0) = (0 : Int32) → ((x1 < (-1 : Int32) → True) ∧ (¬ x1 < (-1 : Int32) → ((x1 ≤ (2 : Int32) → (vp_in x0 8)) ∧ (¬ x1 ≤ (2 : Int32) → True))))))
set_option maxRecDepth 20000 in
set_option maxHeartbeats 1000000 in
theorem w_stick_0 {F : Int32 × St} {u : St} (B : jk_BI p l e R s m args below meth c cX3_stick 3 RX3 TT .int D clA (tyl z) (cW z a) A Q rm_stick F) (x0 : Int32) (x1 : Int32) (hE : f_stick u x0 x1 = F) (hG : g_stick u x0 x1) : JJ p l e R s m args below meth c 0 0 3 D clA (cW z a) A Q 0 [(0, .ref (a 0)), (1, .int x0), (2, .int x1)] u [] := by
  have C := B.1
  unfold f_stick at hE
  unfold g_stick at hG
  refine j_iload_n C 1 dX3_stick_0 rfl ?_
  refine j_cIS C B.2.1 (c_isMovement l D z a u x0) gv_3_36 dd_isMovement ⟨⟨rfl, rfl⟩, Nat.le_of_ble_eq_true rfl, Nat.le_of_ble_eq_true rfl⟩ rfl rfl (Nat.le_of_ble_eq_true rfl) dX3_stick_1 ?_
  refine j_if_eq C 17 dX3_stick_4 (by decide) (fun c1 => ?_) (fun c1 => ?_)
  · have hE := (if_pos c1).symm.trans hE
    refine j_iconst C 0 dX3_stick_17 ic_0 ?_
    exact B.2.2 _ _ _ _ dX3_stick_18 rfl hE
  · have hE := (if_neg c1).symm.trans hE
    have hG := hG.2 c1
    refine j_iload_n C 2 dX3_stick_7 rfl ?_
    refine j_iconst C (-1) dX3_stick_8 ic_m1 ?_
    refine j_icmp_lt C 17 dX3_stick_9 (by decide) (fun c2 => ?_) (fun c2 => ?_)
    · have hE := (if_pos c2).symm.trans hE
      refine j_iconst C 0 dX3_stick_17 ic_0 ?_
      exact B.2.2 _ _ _ _ dX3_stick_18 rfl hE
    · have hE := (if_neg c2).symm.trans hE
      have hG := hG.2 c2
      refine j_iload_n C 2 dX3_stick_12 rfl ?_
      refine j_iconst C 2 dX3_stick_13 ic_2 ?_
      refine j_icmp_le C 19 dX3_stick_14 (by decide) (fun c3 => ?_) (fun c3 => ?_)
      · have hE := (if_pos c3).symm.trans hE
        have hG := hG.1 c3
        refine j_aload_n C 0 dX3_stick_19 rfl ?_
        refine j_get C kf_3 0 pl_desk 0 (by decide) lk_3_11 rfl dX3_stick_20 ?_
        refine j_iload_n C 1 dX3_stick_23 rfl ?_
        have hv4 := hG
        have lhv4 := jk_lt hv4
        refine j_aald C 1 2 pl_mvs rfl (x0.toNatClampNeg) (jk_self hv4 (by decide)) (jk_lt hv4) (by decide) rfl dX3_stick_24 ?_
        refine j_iload_n C 2 dX3_stick_25 rfl ?_
        refine j_put C kf_1 (7 + (x0.toNatClampNeg)) (pl_mv (jk_lt hv4)) 8 (by decide) lk_3_86 rfl rfl rfl (Nat.le_of_ble_eq_true rfl) (pu_mv_stuck (jk_lt hv4)) dX3_stick_26 ?_
        refine j_iconst C 1 dX3_stick_29 ic_1 ?_
        exact B.2.2 _ _ _ _ dX3_stick_30 rfl hE
      · have hE := (if_neg c3).symm.trans hE
        refine j_iconst C 0 dX3_stick_17 ic_0 ?_
        exact B.2.2 _ _ _ _ dX3_stick_18 rfl hE
theorem c_stick (l : Launch) (D : va_G) (z : Nat → ClassId) (a : Nat → Nat) (u : St) (x0 : Int32) (x1 : Int32) (hG : g_stick u x0 x1) : CtI l yX3_stick (.code yX3_stick cX3_stick 3 (some .int) :: TT) rm_stick D clA (tyl z) (cW z a) [.ref (a 0), .int x0, .int x1] u (f_stick u x0 x1).1 (f_stick u x0 x1).2 :=
  jk_metI (own := RX3) (by decide) rfl (Nat.le_of_ble_eq_true rfl) (fun _ _ _ _ _ _ _ _ _ _ _ B => w_stick_0 B x0 x1 rfl hG)
def rm_restart : Room := { frames := 2, cells := 0, slots := 0, locals := 41 }
def f_restart_11  : Nat → Nat → St → Int32 × St
  | 0, i, u => ((1 : Int32), (f_G_forget (up2 (up2 u 0 2 (0 : Int32)) 0 1 (0 : Int32))))
  | n + 1, i, u => (f_restart_11 n (i + 1) (up2 (f_R_goDark u i) 35 i (-1 : Int32)))
set_option maxRecDepth 20000 in
set_option maxHeartbeats 1000000 in
theorem w_restart_11 {F : Int32 × St} (B : jk_BI p l e R s m args below meth c cX3_restart 2 RX3 TT .int D clA (tyl z) (cW z a) A Q rm_restart F)  : ∀ (n i : Nat) (u : St), i + n = 2 → f_restart_11 n i u = F → JJ p l e R s m args below meth c 0 0 2 D clA (cW z a) A Q 11 [(1, .int (nI i)), (0, .ref (a 0))] u [] := by
  have C := B.1
  intro n
  induction n with
  | zero =>
    intro i u hin hE
    obtain rfl : i = 2 := by omega
    have hge : (2 : Int32) ≤ nI 2 := by decide
    refine j_iload_n C 0 dX3_restart_11 rfl ?_
    refine j_iconst C 2 dX3_restart_12 ic_2 ?_
    refine j_icmp_ge C 41 dX3_restart_13 (by decide) (fun _ => ?_) (fun hq => absurd hge hq)
    refine j_aload_n C 1 dX3_restart_41 rfl ?_
    refine j_iconst C 0 dX3_restart_42 ic_0 ?_
    refine j_put C kf_3 0 pl_desk 6 (by decide) lk_3_103 rfl rfl rfl (Nat.le_of_ble_eq_true rfl) pu_desk_crossing dX3_restart_43 ?_
    refine j_aload_n C 1 dX3_restart_46 rfl ?_
    refine j_iconst C 0 dX3_restart_47 ic_0 ?_
    refine j_put C kf_3 0 pl_desk 5 (by decide) lk_3_106 rfl rfl rfl (Nat.le_of_ble_eq_true rfl) pu_desk_side dX3_restart_48 ?_
    refine j_aload_n C 1 dX3_restart_51 rfl ?_
    refine j_get C kf_3 0 pl_desk 2 (by decide) lk_3_28 rfl dX3_restart_52 ?_
    refine j_cVV C B.2.1 (c_G_forget l D z a (up2 (up2 u 0 2 (0 : Int32)) 0 1 (0 : Int32))) gv_3_109 dd_G_forget ⟨⟨rfl, rfl⟩, Nat.le_of_ble_eq_true rfl, Nat.le_of_ble_eq_true rfl⟩ 3 0 pl_guard rfl rfl rfl rfl (Nat.le_of_ble_eq_true rfl) dX3_restart_55 ?_
    refine j_iconst C 1 dX3_restart_58 ic_1 ?_
    exact B.2.2 _ _ _ _ dX3_restart_59 rfl hE
  | succ n ih =>
    intro i u hin hE
    have hlt : i < 2 := by omega
    have hnge : ¬ (2 : Int32) ≤ nI i := lt2 i hlt
    refine j_iload_n C 0 dX3_restart_11 rfl ?_
    refine j_iconst C 2 dX3_restart_12 ic_2 ?_
    refine j_icmp_ge C 41 dX3_restart_13 (by decide) (fun hq => absurd hq hnge) (fun _ => ?_)
    refine j_aload_n C 1 dX3_restart_16 rfl ?_
    refine j_get C kf_3 0 pl_desk 1 (by decide) lk_3_18 rfl dX3_restart_17 ?_
    refine j_iload_n C 0 dX3_restart_20 rfl ?_
    refine j_aald C 2 3 pl_rgs rfl i rfl hlt (by decide) rfl dX3_restart_21 ?_
    refine j_cVV C B.2.1 (c_R_goDark l D z a u i hlt) gv_3_97 dd_R_goDark ⟨⟨rfl, rfl⟩, Nat.le_of_ble_eq_true rfl, Nat.le_of_ble_eq_true rfl⟩ (23 + i) 2 (pl_rg hlt) rfl rfl rfl rfl (Nat.le_of_ble_eq_true rfl) dX3_restart_22 ?_
    refine j_aload_n C 1 dX3_restart_25 rfl ?_
    refine j_get C kf_3 0 pl_desk 1 (by decide) lk_3_18 rfl dX3_restart_26 ?_
    refine j_iload_n C 0 dX3_restart_29 rfl ?_
    refine j_aald C 2 3 pl_rgs rfl i rfl hlt (by decide) rfl dX3_restart_30 ?_
    refine j_iconst C (-1) dX3_restart_31 ic_m1 ?_
    refine j_put C kf_2 (23 + i) (pl_rg hlt) 7 (by decide) lk_3_100 rfl rfl rfl (Nat.le_of_ble_eq_true rfl) (pu_rg_next hlt) dX3_restart_32 ?_
    refine j_iinc C 0 (nI (i + 1)) dX3_restart_35 rfl (nI_1 _) (by decide) rfl ?_
    refine j_goto C 11 dX3_restart_38 (by decide) ?_
    exact ih (i + 1) (up2 (f_R_goDark u i) 35 i (-1 : Int32)) (by omega) hE
def f_restart (u : St)  : Int32 × St := (if (f_isFlashing u) = (0 : Int32) then ((0 : Int32), u) else (f_restart_11 2 0 u))
set_option maxRecDepth 20000 in
set_option maxHeartbeats 1000000 in
theorem w_restart_0 {F : Int32 × St} {u : St} (B : jk_BI p l e R s m args below meth c cX3_restart 2 RX3 TT .int D clA (tyl z) (cW z a) A Q rm_restart F)  (hE : f_restart u = F) : JJ p l e R s m args below meth c 0 0 2 D clA (cW z a) A Q 0 [(0, .ref (a 0))] u [] := by
  have C := B.1
  unfold f_restart at hE
  refine j_aload_n C 0 dX3_restart_0 rfl ?_
  refine j_cIV C B.2.1 (c_isFlashing l D z a u) gv_3_93 dd_isFlashing ⟨⟨rfl, rfl⟩, Nat.le_of_ble_eq_true rfl, Nat.le_of_ble_eq_true rfl⟩ 0 3 pl_desk rfl rfl rfl rfl (Nat.le_of_ble_eq_true rfl) dX3_restart_1 ?_
  refine j_if_ne C 9 dX3_restart_4 (by decide) (fun c1 => ?_) (fun c1 => ?_)
  · have hE := (if_neg c1).symm.trans hE
    refine j_iconst C 0 dX3_restart_9 ic_0 ?_
    refine j_istore_n C dX3_restart_10 (by decide) rfl ?_
    refine j_lq (congrArg (fun x => ([(1, .int x), (0, .ref (a 0))] : List (Nat × Value))) ix_0) ?_
    exact w_restart_11 B 2 0 u (by omega) hE
  · have hE := (if_pos c1).symm.trans hE
    refine j_iconst C 0 dX3_restart_7 ic_0 ?_
    exact B.2.2 _ _ _ _ dX3_restart_8 rfl hE
theorem c_restart (l : Launch) (D : va_G) (z : Nat → ClassId) (a : Nat → Nat) (u : St)  : CtI l yX3_restart (.code yX3_restart cX3_restart 2 (some .int) :: TT) rm_restart D clA (tyl z) (cW z a) [.ref (a 0)] u (f_restart u).1 (f_restart u).2 :=
  jk_metI (own := RX3) (by decide) rfl (Nat.le_of_ble_eq_true rfl) (fun _ _ _ _ _ _ _ _ _ _ _ B => w_restart_0 B rfl)
end WLK

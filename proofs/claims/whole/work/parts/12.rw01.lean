section WLK
variable {p : Program} {l : Launch} {e : Env} {R : Room} {s : State} {m : MethodId} {args : Array Value} {below : List Frame} {meth : Method} {c : Code} {D : va_G} {z : Nat → ClassId} {a : Nat → Nat} {A : Nat → Prop} {Q : State → Prop}
def rm_m_isMovement : Room := { frames := 0, cells := 0, slots := 0, locals := 0 }
def f_m_isMovement (x0 : Int32) : Int32 := (if x0 < (0 : Int32) then (0 : Int32) else (if (8 : Int32) ≤ x0 then (0 : Int32) else (1 : Int32)))
set_option maxRecDepth 20000 in
set_option maxHeartbeats 1000000 in
theorem w_m_isMovement_0 {Fr : Int32} {u : St} (B : jk_BI p l e R s m args below meth c cX4_isMovement 1 RX4 TT .boolean D clA (tyl z) (rW z a) A Q rm_m_isMovement (Fr, u)) (x0 : Int32) (hE : f_m_isMovement x0 = Fr) : JJ p l e R s m args below meth c 0 0 1 D clA (rW z a) A Q 0 [(0, .int x0)] u [] := by
  have C := B.1
  unfold f_m_isMovement at hE
  refine j_iload_n C 0 dX4_isMovement_0 rfl ?_
  refine j_if_lt C 14 dX4_isMovement_1 (by decide) (fun c1 => ?_) (fun c1 => ?_)
  · have hE := (if_pos c1).symm.trans hE
    refine j_iconst C 0 dX4_isMovement_14 ic_0 ?_
    exact B.2.2 _ _ _ _ dX4_isMovement_15 rfl (congrArg (fun x => (x, u)) hE)
  · have hE := (if_neg c1).symm.trans hE
    refine j_iload_n C 0 dX4_isMovement_4 rfl ?_
    refine j_bipush C 8 dX4_isMovement_5 bp_8 ?_
    refine j_icmp_ge C 14 dX4_isMovement_7 (by decide) (fun c2 => ?_) (fun c2 => ?_)
    · have hE := (if_pos c2).symm.trans hE
      refine j_iconst C 0 dX4_isMovement_14 ic_0 ?_
      exact B.2.2 _ _ _ _ dX4_isMovement_15 rfl (congrArg (fun x => (x, u)) hE)
    · have hE := (if_neg c2).symm.trans hE
      refine j_iconst C 1 dX4_isMovement_10 ic_1 ?_
      refine j_goto C 15 dX4_isMovement_11 (by decide) ?_
      exact B.2.2 _ _ _ _ dX4_isMovement_15 rfl (congrArg (fun x => (x, u)) hE)
theorem c_m_isMovement (l : Launch) (D : va_G) (z : Nat → ClassId) (a : Nat → Nat) (u : St) (x0 : Int32) : CtI l yX4_isMovement (.code yX4_isMovement cX4_isMovement 1 (some .boolean) :: TT) rm_m_isMovement D clA (tyl z) (rW z a) [.int x0] u (f_m_isMovement x0) u :=
  jk_metI (own := RX4) (by decide) rfl (Nat.le_of_ble_eq_true rfl) (fun _ _ _ _ _ _ _ _ _ _ _ B => w_m_isMovement_0 B x0 rfl)
def rm_m_timeOf : Room := { frames := 0, cells := 0, slots := 0, locals := 0 }
def f_m_timeOf (u : St) (k0 : Nat) (k1 : Nat) : Int32 := (u 1 ((7 * k0) + k1))
set_option maxRecDepth 20000 in
set_option maxHeartbeats 1000000 in
theorem w_m_timeOf_0 {Fr : Int32} {u : St} (B : jk_BI p l e R s m args below meth c cX4_timeOf 3 RX4 TT .int D clA (tyl z) (rW z a) A Q rm_m_timeOf (Fr, u)) {k0 : Nat} (hk0 : k0 < 8) {k1 : Nat} (hk1 : k1 < 7) (hE : f_m_timeOf u k0 k1 = Fr) : JJ p l e R s m args below meth c 0 0 3 D clA (rW z a) A Q 0 [(0, .ref (a 0)), (1, .int (nI k0)), (2, .int (nI k1))] u [] := by
  have C := B.1
  unfold f_m_timeOf at hE
  refine j_aload_n C 0 dX4_timeOf_0 rfl ?_
  refine j_get C kf_4 0 pl_md 1 (by decide) lk_4_7 rfl dX4_timeOf_1 ?_
  refine j_bipush C 7 dX4_timeOf_4 bp_7 ?_
  refine j_iload_n C 1 dX4_timeOf_6 rfl ?_
  refine j_imul C dX4_timeOf_7 ?_
  refine j_st (st' := [.int (nI (7 * k0)), .ref (a 1)]) (by rw [show (7 : Int32) = nI 7 from rfl, pk_mul]) ?_
  refine j_iload_n C 2 dX4_timeOf_8 rfl ?_
  refine j_iadd C dX4_timeOf_9 ?_
  refine j_st (st' := [.int (nI ((7 * k0) + k1)), .ref (a 1)]) (by rw [nI_add]) ?_
  refine j_iald C 1 0 pl_a_times rfl ((7 * k0) + k1) rfl (by omega) (by decide) dX4_timeOf_10 ?_
  exact B.2.2 _ _ _ _ dX4_timeOf_11 rfl (congrArg (fun x => (x, u)) hE)
theorem c_m_timeOf (l : Launch) (D : va_G) (z : Nat → ClassId) (a : Nat → Nat) (u : St) (k0 : Nat) (k1 : Nat) (hk0 : k0 < 8) (hk1 : k1 < 7) : CtI l yX4_timeOf (.code yX4_timeOf cX4_timeOf 3 (some .int) :: TT) rm_m_timeOf D clA (tyl z) (rW z a) [.ref (a 0), .int (nI k0), .int (nI k1)] u (f_m_timeOf u k0 k1) u :=
  jk_metI (own := RX4) (by decide) rfl (Nat.le_of_ble_eq_true rfl) (fun _ _ _ _ _ _ _ _ _ _ _ B => w_m_timeOf_0 B hk0 hk1 rfl)
def rm_m_has : Room := { frames := 0, cells := 0, slots := 0, locals := 0 }
def f_m_has (u : St) (k0 : Nat) (x0 : Int32) : Int32 := (if ((u 2 k0) &&& x0) = (0 : Int32) then (0 : Int32) else (1 : Int32))
set_option maxRecDepth 20000 in
set_option maxHeartbeats 1000000 in
theorem w_m_has_0 {Fr : Int32} {u : St} (B : jk_BI p l e R s m args below meth c cX4_has 3 RX4 TT .boolean D clA (tyl z) (rW z a) A Q rm_m_has (Fr, u)) {k0 : Nat} (hk0 : k0 < 8) (x0 : Int32) (hE : f_m_has u k0 x0 = Fr) : JJ p l e R s m args below meth c 0 0 3 D clA (rW z a) A Q 0 [(0, .ref (a 0)), (1, .int (nI k0)), (2, .int x0)] u [] := by
  have C := B.1
  unfold f_m_has at hE
  refine j_aload_n C 0 dX4_has_0 rfl ?_
  refine j_get C kf_4 0 pl_md 2 (by decide) lk_4_13 rfl dX4_has_1 ?_
  refine j_iload_n C 1 dX4_has_4 rfl ?_
  refine j_iald C 2 0 pl_a_modes rfl k0 rfl hk0 (by decide) dX4_has_5 ?_
  refine j_iload_n C 2 dX4_has_6 rfl ?_
  refine j_iand C dX4_has_7 ?_
  refine j_if_eq C 15 dX4_has_8 (by decide) (fun c1 => ?_) (fun c1 => ?_)
  · have hE := (if_pos c1).symm.trans hE
    refine j_iconst C 0 dX4_has_15 ic_0 ?_
    exact B.2.2 _ _ _ _ dX4_has_16 rfl (congrArg (fun x => (x, u)) hE)
  · have hE := (if_neg c1).symm.trans hE
    refine j_iconst C 1 dX4_has_11 ic_1 ?_
    refine j_goto C 16 dX4_has_12 (by decide) ?_
    exact B.2.2 _ _ _ _ dX4_has_16 rfl (congrArg (fun x => (x, u)) hE)
theorem c_m_has (l : Launch) (D : va_G) (z : Nat → ClassId) (a : Nat → Nat) (u : St) (k0 : Nat) (x0 : Int32) (hk0 : k0 < 8) : CtI l yX4_has (.code yX4_has cX4_has 3 (some .boolean) :: TT) rm_m_has D clA (tyl z) (rW z a) [.ref (a 0), .int (nI k0), .int x0] u (f_m_has u k0 x0) u :=
  jk_metI (own := RX4) (by decide) rfl (Nat.le_of_ble_eq_true rfl) (fun _ _ _ _ _ _ _ _ _ _ _ B => w_m_has_0 B hk0 x0 rfl)
def rm_m_isGreen : Room := { frames := 0, cells := 0, slots := 0, locals := 0 }
def f_m_isGreen (u : St) (k0 : Nat) : Int32 := (if (u 11 (k0 / 4)) = (nI k0) then (if (u 13 (k0 / 4)) = (1 : Int32) then (1 : Int32) else (0 : Int32)) else (0 : Int32))
set_option maxRecDepth 20000 in
set_option maxHeartbeats 1000000 in
theorem w_m_isGreen_0 {Fr : Int32} {u : St} (B : jk_BI p l e R s m args below meth c cX4_isGreen 2 RX4 TT .boolean D clA (tyl z) (rW z a) A Q rm_m_isGreen (Fr, u)) {k0 : Nat} (hk0 : k0 < 8) (hE : f_m_isGreen u k0 = Fr) : JJ p l e R s m args below meth c 0 0 2 D clA (rW z a) A Q 0 [(0, .ref (a 0)), (1, .int (nI k0))] u [] := by
  have C := B.1
  unfold f_m_isGreen at hE
  refine j_aload_n C 0 dX4_isGreen_0 rfl ?_
  refine j_get C kf_4 0 pl_md 11 (by decide) lk_4_41 rfl dX4_isGreen_1 ?_
  refine j_iload_n C 1 dX4_isGreen_4 rfl ?_
  refine j_iconst C 4 dX4_isGreen_5 ic_4 ?_
  refine j_idiv C (nI (k0 / 4)) dX4_isGreen_6 (by decide) (jk_div4 (by omega)) ?_
  refine j_iald C 11 0 pl_a_now rfl (k0 / 4) rfl (by omega) (by decide) dX4_isGreen_7 ?_
  refine j_iload_n C 1 dX4_isGreen_8 rfl ?_
  refine j_icmp_ne C 28 dX4_isGreen_9 (by decide) (fun c1 => ?_) (fun c1 => ?_)
  · have hE := (if_neg c1).symm.trans hE
    refine j_iconst C 0 dX4_isGreen_28 ic_0 ?_
    exact B.2.2 _ _ _ _ dX4_isGreen_29 rfl (congrArg (fun x => (x, u)) hE)
  · have hE := (if_pos c1).symm.trans hE
    refine j_aload_n C 0 dX4_isGreen_12 rfl ?_
    refine j_get C kf_4 0 pl_md 13 (by decide) lk_4_47 rfl dX4_isGreen_13 ?_
    refine j_iload_n C 1 dX4_isGreen_16 rfl ?_
    refine j_iconst C 4 dX4_isGreen_17 ic_4 ?_
    refine j_idiv C (nI (k0 / 4)) dX4_isGreen_18 (by decide) (jk_div4 (by omega)) ?_
    refine j_iald C 13 0 pl_a_phase rfl (k0 / 4) rfl (by omega) (by decide) dX4_isGreen_19 ?_
    refine j_iconst C 1 dX4_isGreen_20 ic_1 ?_
    refine j_icmp_ne C 28 dX4_isGreen_21 (by decide) (fun c2 => ?_) (fun c2 => ?_)
    · have hE := (if_neg c2).symm.trans hE
      refine j_iconst C 0 dX4_isGreen_28 ic_0 ?_
      exact B.2.2 _ _ _ _ dX4_isGreen_29 rfl (congrArg (fun x => (x, u)) hE)
    · have hE := (if_pos c2).symm.trans hE
      refine j_iconst C 1 dX4_isGreen_24 ic_1 ?_
      refine j_goto C 29 dX4_isGreen_25 (by decide) ?_
      exact B.2.2 _ _ _ _ dX4_isGreen_29 rfl (congrArg (fun x => (x, u)) hE)
theorem c_m_isGreen (l : Launch) (D : va_G) (z : Nat → ClassId) (a : Nat → Nat) (u : St) (k0 : Nat) (hk0 : k0 < 8) : CtI l yX4_isGreen (.code yX4_isGreen cX4_isGreen 2 (some .boolean) :: TT) rm_m_isGreen D clA (tyl z) (rW z a) [.ref (a 0), .int (nI k0)] u (f_m_isGreen u k0) u :=
  jk_metI (own := RX4) (by decide) rfl (Nat.le_of_ble_eq_true rfl) (fun _ _ _ _ _ _ _ _ _ _ _ B => w_m_isGreen_0 B hk0 rfl)
def rm_m_isCalled : Room := { frames := 1, cells := 0, slots := 0, locals := 22 }
def f_m_isCalled (u : St) (k0 : Nat) : Int32 := (if (f_m_has u k0 (1 : Int32)) = (0 : Int32) then (0 : Int32) else (if (f_m_isGreen u k0) = (0 : Int32) then (if (u 3 k0) = (0 : Int32) then (if (u 5 k0) = (0 : Int32) then (if (u 4 k0) = (0 : Int32) then (if (f_m_has u k0 (4 : Int32)) = (0 : Int32) then (if (f_m_has u k0 (8 : Int32)) = (0 : Int32) then (if (f_m_has u k0 (16 : Int32)) = (0 : Int32) then (0 : Int32) else (1 : Int32)) else (1 : Int32)) else (1 : Int32)) else (1 : Int32)) else (1 : Int32)) else (1 : Int32)) else (0 : Int32)))
set_option maxRecDepth 20000 in
set_option maxHeartbeats 1000000 in
theorem w_m_isCalled_0 {Fr : Int32} {u : St} (B : jk_BI p l e R s m args below meth c cX4_isCalled 2 RX4 TT .boolean D clA (tyl z) (rW z a) A Q rm_m_isCalled (Fr, u)) {k0 : Nat} (hk0 : k0 < 8) (hE : f_m_isCalled u k0 = Fr) : JJ p l e R s m args below meth c 0 0 2 D clA (rW z a) A Q 0 [(0, .ref (a 0)), (1, .int (nI k0))] u [] := by
  have C := B.1
  unfold f_m_isCalled at hE
  refine j_aload_n C 0 dX4_isCalled_0 rfl ?_
  refine j_iload_n C 1 dX4_isCalled_1 rfl ?_
  refine j_iconst C 1 dX4_isCalled_2 ic_1 ?_
  refine j_cIV C B.2.1 (c_m_has l D z a u k0 (1 : Int32) hk0) gv_4_75 dd_m_has ⟨⟨rfl, rfl⟩, Nat.le_of_ble_eq_true rfl, Nat.le_of_ble_eq_true rfl⟩ 0 4 pl_md rfl rfl rfl rfl (Nat.le_of_ble_eq_true rfl) dX4_isCalled_3 ?_
  refine j_if_eq C 77 dX4_isCalled_6 (by decide) (fun c1 => ?_) (fun c1 => ?_)
  · have hE := (if_pos c1).symm.trans hE
    refine j_iconst C 0 dX4_isCalled_77 ic_0 ?_
    exact B.2.2 _ _ _ _ dX4_isCalled_78 rfl (congrArg (fun x => (x, u)) hE)
  · have hE := (if_neg c1).symm.trans hE
    refine j_aload_n C 0 dX4_isCalled_9 rfl ?_
    refine j_iload_n C 1 dX4_isCalled_10 rfl ?_
    refine j_cIV C B.2.1 (c_m_isGreen l D z a u k0 hk0) gv_4_79 dd_m_isGreen ⟨⟨rfl, rfl⟩, Nat.le_of_ble_eq_true rfl, Nat.le_of_ble_eq_true rfl⟩ 0 4 pl_md rfl rfl rfl rfl (Nat.le_of_ble_eq_true rfl) dX4_isCalled_11 ?_
    refine j_if_ne C 77 dX4_isCalled_14 (by decide) (fun c2 => ?_) (fun c2 => ?_)
    · have hE := (if_neg c2).symm.trans hE
      refine j_iconst C 0 dX4_isCalled_77 ic_0 ?_
      exact B.2.2 _ _ _ _ dX4_isCalled_78 rfl (congrArg (fun x => (x, u)) hE)
    · have hE := (if_pos c2).symm.trans hE
      refine j_aload_n C 0 dX4_isCalled_17 rfl ?_
      refine j_get C kf_4 0 pl_md 3 (by decide) lk_4_16 rfl dX4_isCalled_18 ?_
      refine j_iload_n C 1 dX4_isCalled_21 rfl ?_
      refine j_zald C 3 1 pl_a_cars rfl k0 rfl hk0 (by decide) dX4_isCalled_22 ?_
      refine j_if_ne C 73 dX4_isCalled_23 (by decide) (fun c3 => ?_) (fun c3 => ?_)
      · have hE := (if_neg c3).symm.trans hE
        refine j_iconst C 1 dX4_isCalled_73 ic_1 ?_
        refine j_goto C 78 dX4_isCalled_74 (by decide) ?_
        exact B.2.2 _ _ _ _ dX4_isCalled_78 rfl (congrArg (fun x => (x, u)) hE)
      · have hE := (if_pos c3).symm.trans hE
        refine j_aload_n C 0 dX4_isCalled_26 rfl ?_
        refine j_get C kf_4 0 pl_md 5 (by decide) lk_4_23 rfl dX4_isCalled_27 ?_
        refine j_iload_n C 1 dX4_isCalled_30 rfl ?_
        refine j_zald C 5 1 pl_a_remembered rfl k0 rfl hk0 (by decide) dX4_isCalled_31 ?_
        refine j_if_ne C 73 dX4_isCalled_32 (by decide) (fun c4 => ?_) (fun c4 => ?_)
        · have hE := (if_neg c4).symm.trans hE
          refine j_iconst C 1 dX4_isCalled_73 ic_1 ?_
          refine j_goto C 78 dX4_isCalled_74 (by decide) ?_
          exact B.2.2 _ _ _ _ dX4_isCalled_78 rfl (congrArg (fun x => (x, u)) hE)
        · have hE := (if_pos c4).symm.trans hE
          refine j_aload_n C 0 dX4_isCalled_35 rfl ?_
          refine j_get C kf_4 0 pl_md 4 (by decide) lk_4_20 rfl dX4_isCalled_36 ?_
          refine j_iload_n C 1 dX4_isCalled_39 rfl ?_
          refine j_zald C 4 1 pl_a_pushes rfl k0 rfl hk0 (by decide) dX4_isCalled_40 ?_
          refine j_if_ne C 73 dX4_isCalled_41 (by decide) (fun c5 => ?_) (fun c5 => ?_)
          · have hE := (if_neg c5).symm.trans hE
            refine j_iconst C 1 dX4_isCalled_73 ic_1 ?_
            refine j_goto C 78 dX4_isCalled_74 (by decide) ?_
            exact B.2.2 _ _ _ _ dX4_isCalled_78 rfl (congrArg (fun x => (x, u)) hE)
          · have hE := (if_pos c5).symm.trans hE
            refine j_aload_n C 0 dX4_isCalled_44 rfl ?_
            refine j_iload_n C 1 dX4_isCalled_45 rfl ?_
            refine j_iconst C 4 dX4_isCalled_46 ic_4 ?_
            refine j_cIV C B.2.1 (c_m_has l D z a u k0 (4 : Int32) hk0) gv_4_75 dd_m_has ⟨⟨rfl, rfl⟩, Nat.le_of_ble_eq_true rfl, Nat.le_of_ble_eq_true rfl⟩ 0 4 pl_md rfl rfl rfl rfl (Nat.le_of_ble_eq_true rfl) dX4_isCalled_47 ?_
            refine j_if_ne C 73 dX4_isCalled_50 (by decide) (fun c6 => ?_) (fun c6 => ?_)
            · have hE := (if_neg c6).symm.trans hE
              refine j_iconst C 1 dX4_isCalled_73 ic_1 ?_
              refine j_goto C 78 dX4_isCalled_74 (by decide) ?_
              exact B.2.2 _ _ _ _ dX4_isCalled_78 rfl (congrArg (fun x => (x, u)) hE)
            · have hE := (if_pos c6).symm.trans hE
              refine j_aload_n C 0 dX4_isCalled_53 rfl ?_
              refine j_iload_n C 1 dX4_isCalled_54 rfl ?_
              refine j_bipush C 8 dX4_isCalled_55 bp_8 ?_
              refine j_cIV C B.2.1 (c_m_has l D z a u k0 (8 : Int32) hk0) gv_4_75 dd_m_has ⟨⟨rfl, rfl⟩, Nat.le_of_ble_eq_true rfl, Nat.le_of_ble_eq_true rfl⟩ 0 4 pl_md rfl rfl rfl rfl (Nat.le_of_ble_eq_true rfl) dX4_isCalled_57 ?_
              refine j_if_ne C 73 dX4_isCalled_60 (by decide) (fun c7 => ?_) (fun c7 => ?_)
              · have hE := (if_neg c7).symm.trans hE
                refine j_iconst C 1 dX4_isCalled_73 ic_1 ?_
                refine j_goto C 78 dX4_isCalled_74 (by decide) ?_
                exact B.2.2 _ _ _ _ dX4_isCalled_78 rfl (congrArg (fun x => (x, u)) hE)
              · have hE := (if_pos c7).symm.trans hE
                refine j_aload_n C 0 dX4_isCalled_63 rfl ?_
                refine j_iload_n C 1 dX4_isCalled_64 rfl ?_
                refine j_bipush C 16 dX4_isCalled_65 bp_16 ?_
                refine j_cIV C B.2.1 (c_m_has l D z a u k0 (16 : Int32) hk0) gv_4_75 dd_m_has ⟨⟨rfl, rfl⟩, Nat.le_of_ble_eq_true rfl, Nat.le_of_ble_eq_true rfl⟩ 0 4 pl_md rfl rfl rfl rfl (Nat.le_of_ble_eq_true rfl) dX4_isCalled_67 ?_
                refine j_if_eq C 77 dX4_isCalled_70 (by decide) (fun c8 => ?_) (fun c8 => ?_)
                · have hE := (if_pos c8).symm.trans hE
                  refine j_iconst C 0 dX4_isCalled_77 ic_0 ?_
                  exact B.2.2 _ _ _ _ dX4_isCalled_78 rfl (congrArg (fun x => (x, u)) hE)
                · have hE := (if_neg c8).symm.trans hE
                  refine j_iconst C 1 dX4_isCalled_73 ic_1 ?_
                  refine j_goto C 78 dX4_isCalled_74 (by decide) ?_
                  exact B.2.2 _ _ _ _ dX4_isCalled_78 rfl (congrArg (fun x => (x, u)) hE)
theorem c_m_isCalled (l : Launch) (D : va_G) (z : Nat → ClassId) (a : Nat → Nat) (u : St) (k0 : Nat) (hk0 : k0 < 8) : CtI l yX4_isCalled (.code yX4_isCalled cX4_isCalled 2 (some .boolean) :: TT) rm_m_isCalled D clA (tyl z) (rW z a) [.ref (a 0), .int (nI k0)] u (f_m_isCalled u k0) u :=
  jk_metI (own := RX4) (by decide) rfl (Nat.le_of_ble_eq_true rfl) (fun _ _ _ _ _ _ _ _ _ _ _ B => w_m_isCalled_0 B hk0 rfl)
def rm_m_fits : Room := { frames := 0, cells := 0, slots := 0, locals := 0 }
def f_m_fits (x0 : Int32) (x1 : Int32) : Int32 := (if x0 = (0 : Int32) then (if x1 < (1 : Int32) then (0 : Int32) else (if (200 : Int32) < x1 then (0 : Int32) else (1 : Int32))) else (if x0 = (1 : Int32) then (if x1 < (0 : Int32) then (0 : Int32) else (if (100 : Int32) < x1 then (0 : Int32) else (1 : Int32))) else (if x0 = (2 : Int32) then (if x1 < (1 : Int32) then (0 : Int32) else (if (500 : Int32) < x1 then (0 : Int32) else (1 : Int32))) else (if x0 = (3 : Int32) then (if x1 < (3 : Int32) then (0 : Int32) else (if (50 : Int32) < x1 then (0 : Int32) else (1 : Int32))) else (if x0 = (4 : Int32) then (if x1 < (0 : Int32) then (0 : Int32) else (if (50 : Int32) < x1 then (0 : Int32) else (1 : Int32))) else (if x0 = (5 : Int32) then (if x1 < (0 : Int32) then (0 : Int32) else (if (100 : Int32) < x1 then (0 : Int32) else (1 : Int32))) else (if x0 = (6 : Int32) then (if x1 < (0 : Int32) then (0 : Int32) else (if (200 : Int32) < x1 then (0 : Int32) else (1 : Int32))) else (0 : Int32))))))))
set_option maxRecDepth 20000 in
set_option maxHeartbeats 1000000 in
theorem w_m_fits_0 {Fr : Int32} {u : St} (B : jk_BI p l e R s m args below meth c cX4_fits 2 RX4 TT .boolean D clA (tyl z) (rW z a) A Q rm_m_fits (Fr, u)) (x0 : Int32) (x1 : Int32) (hE : f_m_fits x0 x1 = Fr) : JJ p l e R s m args below meth c 0 0 2 D clA (rW z a) A Q 0 [(0, .int x0), (1, .int x1)] u [] := by
  have C := B.1
  unfold f_m_fits at hE
  refine j_iload_n C 0 dX4_fits_0 rfl ?_
  by_cases t0 : x0 = (0 : Int32)
  · have hE := (if_pos t0).symm.trans hE
    refine j_tableIn C 44 dX4_fits_1 (by rw [t0]; decide) (by rw [t0]; decide) (by rw [t0]; rfl) (by decide) ?_
    refine j_iload_n C 1 dX4_fits_44 rfl ?_
    refine j_iconst C 1 dX4_fits_45 ic_1 ?_
    refine j_icmp_lt C 60 dX4_fits_46 (by decide) (fun c1 => ?_) (fun c1 => ?_)
    · have hE := (if_pos c1).symm.trans hE
      refine j_iconst C 0 dX4_fits_60 ic_0 ?_
      exact B.2.2 _ _ _ _ dX4_fits_61 rfl (congrArg (fun x => (x, u)) hE)
    · have hE := (if_neg c1).symm.trans hE
      refine j_iload_n C 1 dX4_fits_49 rfl ?_
      refine j_sipush C 200 dX4_fits_50 sp_200 ?_
      refine j_icmp_gt C 60 dX4_fits_53 (by decide) (fun c2 => ?_) (fun c2 => ?_)
      · have hE := (if_pos c2).symm.trans hE
        refine j_iconst C 0 dX4_fits_60 ic_0 ?_
        exact B.2.2 _ _ _ _ dX4_fits_61 rfl (congrArg (fun x => (x, u)) hE)
      · have hE := (if_neg c2).symm.trans hE
        refine j_iconst C 1 dX4_fits_56 ic_1 ?_
        refine j_goto C 61 dX4_fits_57 (by decide) ?_
        exact B.2.2 _ _ _ _ dX4_fits_61 rfl (congrArg (fun x => (x, u)) hE)
  · have hE := (if_neg t0).symm.trans hE
    by_cases t1 : x0 = (1 : Int32)
    · have hE := (if_pos t1).symm.trans hE
      refine j_tableIn C 62 dX4_fits_1 (by rw [t1]; decide) (by rw [t1]; decide) (by rw [t1]; rfl) (by decide) ?_
      refine j_iload_n C 1 dX4_fits_62 rfl ?_
      refine j_if_lt C 76 dX4_fits_63 (by decide) (fun c3 => ?_) (fun c3 => ?_)
      · have hE := (if_pos c3).symm.trans hE
        refine j_iconst C 0 dX4_fits_76 ic_0 ?_
        exact B.2.2 _ _ _ _ dX4_fits_77 rfl (congrArg (fun x => (x, u)) hE)
      · have hE := (if_neg c3).symm.trans hE
        refine j_iload_n C 1 dX4_fits_66 rfl ?_
        refine j_bipush C 100 dX4_fits_67 bp_100 ?_
        refine j_icmp_gt C 76 dX4_fits_69 (by decide) (fun c4 => ?_) (fun c4 => ?_)
        · have hE := (if_pos c4).symm.trans hE
          refine j_iconst C 0 dX4_fits_76 ic_0 ?_
          exact B.2.2 _ _ _ _ dX4_fits_77 rfl (congrArg (fun x => (x, u)) hE)
        · have hE := (if_neg c4).symm.trans hE
          refine j_iconst C 1 dX4_fits_72 ic_1 ?_
          refine j_goto C 77 dX4_fits_73 (by decide) ?_
          exact B.2.2 _ _ _ _ dX4_fits_77 rfl (congrArg (fun x => (x, u)) hE)
    · have hE := (if_neg t1).symm.trans hE
      by_cases t2 : x0 = (2 : Int32)
      · have hE := (if_pos t2).symm.trans hE
        refine j_tableIn C 78 dX4_fits_1 (by rw [t2]; decide) (by rw [t2]; decide) (by rw [t2]; rfl) (by decide) ?_
        refine j_iload_n C 1 dX4_fits_78 rfl ?_
        refine j_iconst C 1 dX4_fits_79 ic_1 ?_
        refine j_icmp_lt C 94 dX4_fits_80 (by decide) (fun c5 => ?_) (fun c5 => ?_)
        · have hE := (if_pos c5).symm.trans hE
          refine j_iconst C 0 dX4_fits_94 ic_0 ?_
          exact B.2.2 _ _ _ _ dX4_fits_95 rfl (congrArg (fun x => (x, u)) hE)
        · have hE := (if_neg c5).symm.trans hE
          refine j_iload_n C 1 dX4_fits_83 rfl ?_
          refine j_sipush C 500 dX4_fits_84 sp_500 ?_
          refine j_icmp_gt C 94 dX4_fits_87 (by decide) (fun c6 => ?_) (fun c6 => ?_)
          · have hE := (if_pos c6).symm.trans hE
            refine j_iconst C 0 dX4_fits_94 ic_0 ?_
            exact B.2.2 _ _ _ _ dX4_fits_95 rfl (congrArg (fun x => (x, u)) hE)
          · have hE := (if_neg c6).symm.trans hE
            refine j_iconst C 1 dX4_fits_90 ic_1 ?_
            refine j_goto C 95 dX4_fits_91 (by decide) ?_
            exact B.2.2 _ _ _ _ dX4_fits_95 rfl (congrArg (fun x => (x, u)) hE)
      · have hE := (if_neg t2).symm.trans hE
        by_cases t3 : x0 = (3 : Int32)
        · have hE := (if_pos t3).symm.trans hE
          refine j_tableIn C 96 dX4_fits_1 (by rw [t3]; decide) (by rw [t3]; decide) (by rw [t3]; rfl) (by decide) ?_
          refine j_iload_n C 1 dX4_fits_96 rfl ?_
          refine j_iconst C 3 dX4_fits_97 ic_3 ?_
          refine j_icmp_lt C 111 dX4_fits_98 (by decide) (fun c7 => ?_) (fun c7 => ?_)
          · have hE := (if_pos c7).symm.trans hE
            refine j_iconst C 0 dX4_fits_111 ic_0 ?_
            exact B.2.2 _ _ _ _ dX4_fits_112 rfl (congrArg (fun x => (x, u)) hE)
          · have hE := (if_neg c7).symm.trans hE
            refine j_iload_n C 1 dX4_fits_101 rfl ?_
            refine j_bipush C 50 dX4_fits_102 bp_50 ?_
            refine j_icmp_gt C 111 dX4_fits_104 (by decide) (fun c8 => ?_) (fun c8 => ?_)
            · have hE := (if_pos c8).symm.trans hE
              refine j_iconst C 0 dX4_fits_111 ic_0 ?_
              exact B.2.2 _ _ _ _ dX4_fits_112 rfl (congrArg (fun x => (x, u)) hE)
            · have hE := (if_neg c8).symm.trans hE
              refine j_iconst C 1 dX4_fits_107 ic_1 ?_
              refine j_goto C 112 dX4_fits_108 (by decide) ?_
              exact B.2.2 _ _ _ _ dX4_fits_112 rfl (congrArg (fun x => (x, u)) hE)
        · have hE := (if_neg t3).symm.trans hE
          by_cases t4 : x0 = (4 : Int32)
          · have hE := (if_pos t4).symm.trans hE
            refine j_tableIn C 113 dX4_fits_1 (by rw [t4]; decide) (by rw [t4]; decide) (by rw [t4]; rfl) (by decide) ?_
            refine j_iload_n C 1 dX4_fits_113 rfl ?_
            refine j_if_lt C 127 dX4_fits_114 (by decide) (fun c9 => ?_) (fun c9 => ?_)
            · have hE := (if_pos c9).symm.trans hE
              refine j_iconst C 0 dX4_fits_127 ic_0 ?_
              exact B.2.2 _ _ _ _ dX4_fits_128 rfl (congrArg (fun x => (x, u)) hE)
            · have hE := (if_neg c9).symm.trans hE
              refine j_iload_n C 1 dX4_fits_117 rfl ?_
              refine j_bipush C 50 dX4_fits_118 bp_50 ?_
              refine j_icmp_gt C 127 dX4_fits_120 (by decide) (fun c10 => ?_) (fun c10 => ?_)
              · have hE := (if_pos c10).symm.trans hE
                refine j_iconst C 0 dX4_fits_127 ic_0 ?_
                exact B.2.2 _ _ _ _ dX4_fits_128 rfl (congrArg (fun x => (x, u)) hE)
              · have hE := (if_neg c10).symm.trans hE
                refine j_iconst C 1 dX4_fits_123 ic_1 ?_
                refine j_goto C 128 dX4_fits_124 (by decide) ?_
                exact B.2.2 _ _ _ _ dX4_fits_128 rfl (congrArg (fun x => (x, u)) hE)
          · have hE := (if_neg t4).symm.trans hE
            by_cases t5 : x0 = (5 : Int32)
            · have hE := (if_pos t5).symm.trans hE
              refine j_tableIn C 62 dX4_fits_1 (by rw [t5]; decide) (by rw [t5]; decide) (by rw [t5]; rfl) (by decide) ?_
              refine j_iload_n C 1 dX4_fits_62 rfl ?_
              refine j_if_lt C 76 dX4_fits_63 (by decide) (fun c11 => ?_) (fun c11 => ?_)
              · have hE := (if_pos c11).symm.trans hE
                refine j_iconst C 0 dX4_fits_76 ic_0 ?_
                exact B.2.2 _ _ _ _ dX4_fits_77 rfl (congrArg (fun x => (x, u)) hE)
              · have hE := (if_neg c11).symm.trans hE
                refine j_iload_n C 1 dX4_fits_66 rfl ?_
                refine j_bipush C 100 dX4_fits_67 bp_100 ?_
                refine j_icmp_gt C 76 dX4_fits_69 (by decide) (fun c12 => ?_) (fun c12 => ?_)
                · have hE := (if_pos c12).symm.trans hE
                  refine j_iconst C 0 dX4_fits_76 ic_0 ?_
                  exact B.2.2 _ _ _ _ dX4_fits_77 rfl (congrArg (fun x => (x, u)) hE)
                · have hE := (if_neg c12).symm.trans hE
                  refine j_iconst C 1 dX4_fits_72 ic_1 ?_
                  refine j_goto C 77 dX4_fits_73 (by decide) ?_
                  exact B.2.2 _ _ _ _ dX4_fits_77 rfl (congrArg (fun x => (x, u)) hE)
            · have hE := (if_neg t5).symm.trans hE
              by_cases t6 : x0 = (6 : Int32)
              · have hE := (if_pos t6).symm.trans hE
                refine j_tableIn C 129 dX4_fits_1 (by rw [t6]; decide) (by rw [t6]; decide) (by rw [t6]; rfl) (by decide) ?_
                refine j_iload_n C 1 dX4_fits_129 rfl ?_
                refine j_if_lt C 144 dX4_fits_130 (by decide) (fun c13 => ?_) (fun c13 => ?_)
                · have hE := (if_pos c13).symm.trans hE
                  refine j_iconst C 0 dX4_fits_144 ic_0 ?_
                  exact B.2.2 _ _ _ _ dX4_fits_145 rfl (congrArg (fun x => (x, u)) hE)
                · have hE := (if_neg c13).symm.trans hE
                  refine j_iload_n C 1 dX4_fits_133 rfl ?_
                  refine j_sipush C 200 dX4_fits_134 sp_200 ?_
                  refine j_icmp_gt C 144 dX4_fits_137 (by decide) (fun c14 => ?_) (fun c14 => ?_)
                  · have hE := (if_pos c14).symm.trans hE
                    refine j_iconst C 0 dX4_fits_144 ic_0 ?_
                    exact B.2.2 _ _ _ _ dX4_fits_145 rfl (congrArg (fun x => (x, u)) hE)
                  · have hE := (if_neg c14).symm.trans hE
                    refine j_iconst C 1 dX4_fits_140 ic_1 ?_
                    refine j_goto C 145 dX4_fits_141 (by decide) ?_
                    exact B.2.2 _ _ _ _ dX4_fits_145 rfl (congrArg (fun x => (x, u)) hE)
              · have hE := (if_neg t6).symm.trans hE
                refine j_tableOut C 146 dX4_fits_1 (jk_out6 t0 t1 t2 t3 t4 t5 t6) (by decide) ?_
                refine j_iconst C 0 dX4_fits_146 ic_0 ?_
                exact B.2.2 _ _ _ _ dX4_fits_147 rfl (congrArg (fun x => (x, u)) hE)
theorem c_m_fits (l : Launch) (D : va_G) (z : Nat → ClassId) (a : Nat → Nat) (u : St) (x0 : Int32) (x1 : Int32) : CtI l yX4_fits (.code yX4_fits cX4_fits 2 (some .boolean) :: TT) rm_m_fits D clA (tyl z) (rW z a) [.int x0, .int x1] u (f_m_fits x0 x1) u :=
  jk_metI (own := RX4) (by decide) rfl (Nat.le_of_ble_eq_true rfl) (fun _ _ _ _ _ _ _ _ _ _ _ B => w_m_fits_0 B x0 x1 rfl)
def rm_m_set : Room := { frames := 1, cells := 0, slots := 0, locals := 21 }
def f_m_set (u : St) (x0 : Int32) (x1 : Int32) (x2 : Int32) : Int32 × St := (if (f_m_isMovement x0) = (0 : Int32) then ((0 : Int32), (up2 u 0 0 (0 : Int32))) else (if (f_m_fits x1 x2) = (0 : Int32) then ((0 : Int32), (up2 u 0 0 (0 : Int32))) else ((1 : Int32), (up2 (up2 u 0 0 (0 : Int32)) 1 ((((7 : Int32) * x0) + x1).toNatClampNeg) x2))))
def g_m_set (u : St) (x0 : Int32) (x1 : Int32) (x2 : Int32) : Prop := (((f_m_isMovement x0) = (0 : Int32) → True) ∧ (¬ (f_m_isMovement x0) = (0 : Int32) → (((f_m_fits x1 x2) = (0 : Int32) → True) ∧ (¬ (f_m_fits x1 x2) = (0 : Int32) → (vp_in (((7 : Int32) * x0) + x1) 56)))))
set_option maxRecDepth 20000 in
set_option maxHeartbeats 1000000 in
theorem w_m_set_0 {F : Int32 × St} {u : St} (B : jk_BI p l e R s m args below meth c cX4_set 4 RX4 TT .int D clA (tyl z) (rW z a) A Q rm_m_set F) (x0 : Int32) (x1 : Int32) (x2 : Int32) (hE : f_m_set u x0 x1 x2 = F) (hG : g_m_set u x0 x1 x2) : JJ p l e R s m args below meth c 0 0 4 D clA (rW z a) A Q 0 [(0, .ref (a 0)), (1, .int x0), (2, .int x1), (3, .int x2)] u [] := by
  have C := B.1
  unfold f_m_set at hE
  unfold g_m_set at hG
  refine j_aload_n C 0 dX4_set_0 rfl ?_
  refine j_iconst C 0 dX4_set_1 ic_0 ?_
  refine j_put C kf_4 0 pl_md 0 (by decide) lk_4_71 rfl rfl rfl (Nat.le_of_ble_eq_true rfl) pu_md_thrown dX4_set_2 ?_
  refine j_iload_n C 1 dX4_set_5 rfl ?_
  refine j_cIS C B.2.1 (c_m_isMovement l D z a (up2 u 0 0 (0 : Int32)) x0) gv_4_83 dd_m_isMovement ⟨⟨rfl, rfl⟩, Nat.le_of_ble_eq_true rfl, Nat.le_of_ble_eq_true rfl⟩ rfl rfl (Nat.le_of_ble_eq_true rfl) dX4_set_6 ?_
  refine j_if_eq C 20 dX4_set_9 (by decide) (fun c1 => ?_) (fun c1 => ?_)
  · have hE := (if_pos c1).symm.trans hE
    refine j_iconst C 0 dX4_set_20 ic_0 ?_
    exact B.2.2 _ _ _ _ dX4_set_21 rfl hE
  · have hE := (if_neg c1).symm.trans hE
    have hG := hG.2 c1
    refine j_iload_n C 2 dX4_set_12 rfl ?_
    refine j_iload_n C 3 dX4_set_13 rfl ?_
    refine j_cIS C B.2.1 (c_m_fits l D z a (up2 u 0 0 (0 : Int32)) x1 x2) gv_4_86 dd_m_fits ⟨⟨rfl, rfl⟩, Nat.le_of_ble_eq_true rfl, Nat.le_of_ble_eq_true rfl⟩ rfl rfl (Nat.le_of_ble_eq_true rfl) dX4_set_14 ?_
    refine j_if_ne C 22 dX4_set_17 (by decide) (fun c2 => ?_) (fun c2 => ?_)
    · have hE := (if_neg c2).symm.trans hE
      have hG := hG.2 c2
      refine j_aload_n C 0 dX4_set_22 rfl ?_
      refine j_get C kf_4 0 pl_md 1 (by decide) lk_4_7 rfl dX4_set_23 ?_
      refine j_bipush C 7 dX4_set_26 bp_7 ?_
      refine j_iload_n C 1 dX4_set_28 rfl ?_
      refine j_imul C dX4_set_29 ?_
      refine j_iload_n C 2 dX4_set_30 rfl ?_
      refine j_iadd C dX4_set_31 ?_
      refine j_iload_n C 3 dX4_set_32 rfl ?_
      have hv3 := hG
      have lhv3 := jk_lt hv3
      refine j_iast C 1 0 pl_a_times rfl ((((7 : Int32) * x0) + x1).toNatClampNeg) (jk_self hv3 (by decide)) (jk_lt hv3) (by decide) pu_a_times dX4_set_33 ?_
      refine j_iconst C 1 dX4_set_34 ic_1 ?_
      exact B.2.2 _ _ _ _ dX4_set_35 rfl hE
    · have hE := (if_pos c2).symm.trans hE
      refine j_iconst C 0 dX4_set_20 ic_0 ?_
      exact B.2.2 _ _ _ _ dX4_set_21 rfl hE
theorem c_m_set (l : Launch) (D : va_G) (z : Nat → ClassId) (a : Nat → Nat) (u : St) (x0 : Int32) (x1 : Int32) (x2 : Int32) (hG : g_m_set u x0 x1 x2) : CtI l yX4_set (.code yX4_set cX4_set 4 (some .int) :: TT) rm_m_set D clA (tyl z) (rW z a) [.ref (a 0), .int x0, .int x1, .int x2] u (f_m_set u x0 x1 x2).1 (f_m_set u x0 x1 x2).2 :=
  jk_metI (own := RX4) (by decide) rfl (Nat.le_of_ble_eq_true rfl) (fun _ _ _ _ _ _ _ _ _ _ _ B => w_m_set_0 B x0 x1 x2 rfl hG)
end WLK

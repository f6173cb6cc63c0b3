section WLK
variable {p : Program} {l : Launch} {e : Env} {R : Room} {s : State} {m : MethodId} {args : Array Value} {below : List Frame} {meth : Method} {c : Code} {D : va_G} {z : Nat → ClassId} {a : Nat → Nat} {A : Nat → Prop} {Q : State → Prop}
def rm_m_push : Room := { frames := 1, cells := 0, slots := 0, locals := 20 }
def f_m_push (u : St) (x0 : Int32) : Int32 × St := (if (f_m_isMovement x0) = (0 : Int32) then ((0 : Int32), (up2 u 0 0 (0 : Int32))) else (if ((up2 u 0 0 (0 : Int32)) 4 (x0.toNatClampNeg)) = (0 : Int32) then ((1 : Int32), (up2 (up2 u 0 0 (0 : Int32)) 4 (x0.toNatClampNeg) (1 : Int32))) else ((0 : Int32), (up2 u 0 0 (0 : Int32)))))
def g_m_push (u : St) (x0 : Int32) : Prop := (((f_m_isMovement x0) = (0 : Int32) → True) ∧ (¬ (f_m_isMovement x0) = (0 : Int32) → (vp_in x0 8)))
set_option maxRecDepth 20000 in
set_option maxHeartbeats 1000000 in
theorem w_m_push_0 {F : Int32 × St} {u : St} (B : jk_BI p l e R s m args below meth c cX4_push 2 RX4 TT .int D clA (tyl z) (rW z a) A Q rm_m_push F) (x0 : Int32) (hE : f_m_push u x0 = F) (hG : g_m_push u x0) : JJ p l e R s m args below meth c 0 0 2 D clA (rW z a) A Q 0 [(0, .ref (a 0)), (1, .int x0)] u [] := by
  have C := B.1
  unfold f_m_push at hE
  unfold g_m_push at hG
  refine j_aload_n C 0 dX4_push_0 rfl ?_
  refine j_iconst C 0 dX4_push_1 ic_0 ?_
  refine j_put C kf_4 0 pl_md 0 (by decide) lk_4_71 rfl rfl rfl (Nat.le_of_ble_eq_true rfl) pu_md_thrown dX4_push_2 ?_
  refine j_iload_n C 1 dX4_push_5 rfl ?_
  refine j_cIS C B.2.1 (c_m_isMovement l D z a (up2 u 0 0 (0 : Int32)) x0) gv_4_83 dd_m_isMovement ⟨⟨rfl, rfl⟩, Nat.le_of_ble_eq_true rfl, Nat.le_of_ble_eq_true rfl⟩ rfl rfl (Nat.le_of_ble_eq_true rfl) dX4_push_6 ?_
  refine j_if_eq C 21 dX4_push_9 (by decide) (fun c1 => ?_) (fun c1 => ?_)
  · have hE := (if_pos c1).symm.trans hE
    refine j_iconst C 0 dX4_push_21 ic_0 ?_
    exact B.2.2 _ _ _ _ dX4_push_22 rfl hE
  · have hE := (if_neg c1).symm.trans hE
    have hG := hG.2 c1
    refine j_aload_n C 0 dX4_push_12 rfl ?_
    refine j_get C kf_4 0 pl_md 4 (by decide) lk_4_20 rfl dX4_push_13 ?_
    refine j_iload_n C 1 dX4_push_16 rfl ?_
    have hv2 := hG
    have lhv2 := jk_lt hv2
    refine j_zald C 4 1 pl_a_pushes rfl (x0.toNatClampNeg) (jk_self hv2 (by decide)) (jk_lt hv2) (by decide) dX4_push_17 ?_
    refine j_if_eq C 23 dX4_push_18 (by decide) (fun c3 => ?_) (fun c3 => ?_)
    · have hE := (if_pos c3).symm.trans hE
      refine j_aload_n C 0 dX4_push_23 rfl ?_
      refine j_get C kf_4 0 pl_md 4 (by decide) lk_4_20 rfl dX4_push_24 ?_
      refine j_iload_n C 1 dX4_push_27 rfl ?_
      refine j_iconst C 1 dX4_push_28 ic_1 ?_
      refine j_zast C 4 1 pl_a_pushes rfl (x0.toNatClampNeg) (jk_self hv2 (by decide)) (jk_lt hv2) (by decide) rfl pu_a_pushes dX4_push_29 ?_
      refine j_iconst C 1 dX4_push_30 ic_1 ?_
      exact B.2.2 _ _ _ _ dX4_push_31 rfl hE
    · have hE := (if_neg c3).symm.trans hE
      refine j_iconst C 0 dX4_push_21 ic_0 ?_
      exact B.2.2 _ _ _ _ dX4_push_22 rfl hE
theorem c_m_push (l : Launch) (D : va_G) (z : Nat → ClassId) (a : Nat → Nat) (u : St) (x0 : Int32) (hG : g_m_push u x0) : CtI l yX4_push (.code yX4_push cX4_push 2 (some .int) :: TT) rm_m_push D clA (tyl z) (rW z a) [.ref (a 0), .int x0] u (f_m_push u x0).1 (f_m_push u x0).2 :=
  jk_metI (own := RX4) (by decide) rfl (Nat.le_of_ble_eq_true rfl) (fun _ _ _ _ _ _ _ _ _ _ _ B => w_m_push_0 B x0 rfl hG)
def rm_m_stick : Room := { frames := 1, cells := 0, slots := 0, locals := 20 }
def f_m_stick (u : St) (x0 : Int32) (x1 : Int32) : Int32 × St := (if (f_m_isMovement x0) = (0 : Int32) then ((0 : Int32), (up2 u 0 0 (0 : Int32))) else (if x1 < (-1 : Int32) then ((0 : Int32), (up2 u 0 0 (0 : Int32))) else (if x1 ≤ (2 : Int32) then ((1 : Int32), (up2 (up2 u 0 0 (0 : Int32)) 9 (x0.toNatClampNeg) x1)) else ((0 : Int32), (up2 u 0 0 (0 : Int32))))))
def g_m_stick (u : St) (x0 : Int32) (x1 : Int32) : Prop := (((f_m_isMovement x0) = (0 : Int32) → True) ∧ (¬ (f_m_isMovement x0) = (0 : Int32) → ((x1 < (-1 : Int32) → True) ∧ (¬ x1 < (-1 : Int32) → ((x1 ≤ (2 : Int32) → (vp_in x0 8)) ∧ (¬ x1 ≤ (2 : Int32) → True))))))
set_option maxRecDepth 20000 in
set_option maxHeartbeats 1000000 in
theorem w_m_stick_0 {F : Int32 × St} {u : St} (B : jk_BI p l e R s m args below meth c cX4_stick 3 RX4 TT .int D clA (tyl z) (rW z a) A Q rm_m_stick F) (x0 : Int32) (x1 : Int32) (hE : f_m_stick u x0 x1 = F) (hG : g_m_stick u x0 x1) : JJ p l e R s m args below meth c 0 0 3 D clA (rW z a) A Q 0 [(0, .ref (a 0)), (1, .int x0), (2, .int x1)] u [] := by
  have C := B.1
  unfold f_m_stick at hE
  unfold g_m_stick at hG
  refine j_aload_n C 0 dX4_stick_0 rfl ?_
  refine j_iconst C 0 dX4_stick_1 ic_0 ?_
  refine j_put C kf_4 0 pl_md 0 (by decide) lk_4_71 rfl rfl rfl (Nat.le_of_ble_eq_true rfl) pu_md_thrown dX4_stick_2 ?_
  refine j_iload_n C 1 dX4_stick_5 rfl ?_
  refine j_cIS C B.2.1 (c_m_isMovement l D z a (up2 u 0 0 (0 : Int32)) x0) gv_4_83 dd_m_isMovement ⟨⟨rfl, rfl⟩, Nat.le_of_ble_eq_true rfl, Nat.le_of_ble_eq_true rfl⟩ rfl rfl (Nat.le_of_ble_eq_true rfl) dX4_stick_6 ?_
  refine j_if_eq C 22 dX4_stick_9 (by decide) (fun c1 => ?_) (fun c1 => ?_)
  · have hE := (if_pos c1).symm.trans hE
    refine j_iconst C 0 dX4_stick_22 ic_0 ?_
    exact B.2.2 _ _ _ _ dX4_stick_23 rfl hE
  · have hE := (if_neg c1).symm.trans hE
    have hG := hG.2 c1
    refine j_iload_n C 2 dX4_stick_12 rfl ?_
    refine j_iconst C (-1) dX4_stick_13 ic_m1 ?_
    refine j_icmp_lt C 22 dX4_stick_14 (by decide) (fun c2 => ?_) (fun c2 => ?_)
    · have hE := (if_pos c2).symm.trans hE
      refine j_iconst C 0 dX4_stick_22 ic_0 ?_
      exact B.2.2 _ _ _ _ dX4_stick_23 rfl hE
    · have hE := (if_neg c2).symm.trans hE
      have hG := hG.2 c2
      refine j_iload_n C 2 dX4_stick_17 rfl ?_
      refine j_iconst C 2 dX4_stick_18 ic_2 ?_
      refine j_icmp_le C 24 dX4_stick_19 (by decide) (fun c3 => ?_) (fun c3 => ?_)
      · have hE := (if_pos c3).symm.trans hE
        have hG := hG.1 c3
        refine j_aload_n C 0 dX4_stick_24 rfl ?_
        refine j_get C kf_4 0 pl_md 9 (by decide) lk_4_35 rfl dX4_stick_25 ?_
        refine j_iload_n C 1 dX4_stick_28 rfl ?_
        refine j_iload_n C 2 dX4_stick_29 rfl ?_
        have hv4 := hG
        have lhv4 := jk_lt hv4
        refine j_iast C 9 0 pl_a_stuck rfl (x0.toNatClampNeg) (jk_self hv4 (by decide)) (jk_lt hv4) (by decide) pu_a_stuck dX4_stick_30 ?_
        refine j_iconst C 1 dX4_stick_31 ic_1 ?_
        exact B.2.2 _ _ _ _ dX4_stick_32 rfl hE
      · have hE := (if_neg c3).symm.trans hE
        refine j_iconst C 0 dX4_stick_22 ic_0 ?_
        exact B.2.2 _ _ _ _ dX4_stick_23 rfl hE
theorem c_m_stick (l : Launch) (D : va_G) (z : Nat → ClassId) (a : Nat → Nat) (u : St) (x0 : Int32) (x1 : Int32) (hG : g_m_stick u x0 x1) : CtI l yX4_stick (.code yX4_stick cX4_stick 3 (some .int) :: TT) rm_m_stick D clA (tyl z) (rW z a) [.ref (a 0), .int x0, .int x1] u (f_m_stick u x0 x1).1 (f_m_stick u x0 x1).2 :=
  jk_metI (own := RX4) (by decide) rfl (Nat.le_of_ble_eq_true rfl) (fun _ _ _ _ _ _ _ _ _ _ _ B => w_m_stick_0 B x0 x1 rfl hG)
def rm_m_first : Room := { frames := 0, cells := 0, slots := 0, locals := 0 }
def f_m_first (u : St) (k0 : Nat) (x0 : Int32) : Int32 := (if (u 10 (((nI (2 * k0)) + x0).toNatClampNeg)) = (0 : Int32) then (((nI (4 * k0)) + ((2 : Int32) * x0)) + (0 : Int32)) else (((nI (4 * k0)) + ((2 : Int32) * x0)) + (1 : Int32)))
def g_m_first (u : St) (k0 : Nat) (x0 : Int32) : Prop := (vp_in ((nI (2 * k0)) + x0) 4)
set_option maxRecDepth 20000 in
set_option maxHeartbeats 1000000 in
theorem w_m_first_0 {Fr : Int32} {u : St} (B : jk_BI p l e R s m args below meth c cX4_first 3 RX4 TT .int D clA (tyl z) (rW z a) A Q rm_m_first (Fr, u)) {k0 : Nat} (hk0 : k0 < 2) (x0 : Int32) (hE : f_m_first u k0 x0 = Fr) (hG : g_m_first u k0 x0) : JJ p l e R s m args below meth c 0 0 3 D clA (rW z a) A Q 0 [(0, .ref (a 0)), (1, .int (nI k0)), (2, .int x0)] u [] := by
  have C := B.1
  unfold f_m_first at hE
  unfold g_m_first at hG
  refine j_iconst C 4 dX4_first_0 ic_4 ?_
  refine j_iload_n C 1 dX4_first_1 rfl ?_
  refine j_imul C dX4_first_2 ?_
  refine j_st (st' := [.int (nI (4 * k0))]) (by rw [show (4 : Int32) = nI 4 from rfl, pk_mul]) ?_
  refine j_iconst C 2 dX4_first_3 ic_2 ?_
  refine j_iload_n C 2 dX4_first_4 rfl ?_
  refine j_imul C dX4_first_5 ?_
  refine j_iadd C dX4_first_6 ?_
  refine j_aload_n C 0 dX4_first_7 rfl ?_
  refine j_get C kf_4 0 pl_md 10 (by decide) lk_4_38 rfl dX4_first_8 ?_
  refine j_iconst C 2 dX4_first_11 ic_2 ?_
  refine j_iload_n C 1 dX4_first_12 rfl ?_
  refine j_imul C dX4_first_13 ?_
  refine j_st (st' := [.int (nI (2 * k0)), .ref (a 10), .int ((nI (4 * k0)) + ((2 : Int32) * x0))]) (by rw [show (2 : Int32) = nI 2 from rfl, pk_mul]) ?_
  refine j_iload_n C 2 dX4_first_14 rfl ?_
  refine j_iadd C dX4_first_15 ?_
  have hv1 := hG
  have lhv1 := jk_lt hv1
  refine j_zald C 10 1 pl_a_exchanged rfl (((nI (2 * k0)) + x0).toNatClampNeg) (jk_self hv1 (by decide)) (jk_lt hv1) (by decide) dX4_first_16 ?_
  refine j_if_eq C 24 dX4_first_17 (by decide) (fun c2 => ?_) (fun c2 => ?_)
  · have hE := (if_pos c2).symm.trans hE
    refine j_iconst C 0 dX4_first_24 ic_0 ?_
    refine j_iadd C dX4_first_25 ?_
    exact B.2.2 _ _ _ _ dX4_first_26 rfl (congrArg (fun x => (x, u)) hE)
  · have hE := (if_neg c2).symm.trans hE
    refine j_iconst C 1 dX4_first_20 ic_1 ?_
    refine j_goto C 25 dX4_first_21 (by decide) ?_
    refine j_iadd C dX4_first_25 ?_
    exact B.2.2 _ _ _ _ dX4_first_26 rfl (congrArg (fun x => (x, u)) hE)
theorem c_m_first (l : Launch) (D : va_G) (z : Nat → ClassId) (a : Nat → Nat) (u : St) (k0 : Nat) (x0 : Int32) (hk0 : k0 < 2) (hG : g_m_first u k0 x0) : CtI l yX4_first (.code yX4_first cX4_first 3 (some .int) :: TT) rm_m_first D clA (tyl z) (rW z a) [.ref (a 0), .int (nI k0), .int x0] u (f_m_first u k0 x0) u :=
  jk_metI (own := RX4) (by decide) rfl (Nat.le_of_ble_eq_true rfl) (fun _ _ _ _ _ _ _ _ _ _ _ B => w_m_first_0 B hk0 x0 rfl hG)
def rm_m_second : Room := { frames := 0, cells := 0, slots := 0, locals := 0 }
def f_m_second (u : St) (k0 : Nat) (x0 : Int32) : Int32 := (if (u 10 (((nI (2 * k0)) + x0).toNatClampNeg)) = (0 : Int32) then (((nI (4 * k0)) + ((2 : Int32) * x0)) + (1 : Int32)) else (((nI (4 * k0)) + ((2 : Int32) * x0)) + (0 : Int32)))
def g_m_second (u : St) (k0 : Nat) (x0 : Int32) : Prop := (vp_in ((nI (2 * k0)) + x0) 4)
set_option maxRecDepth 20000 in
set_option maxHeartbeats 1000000 in
theorem w_m_second_0 {Fr : Int32} {u : St} (B : jk_BI p l e R s m args below meth c cX4_second 3 RX4 TT .int D clA (tyl z) (rW z a) A Q rm_m_second (Fr, u)) {k0 : Nat} (hk0 : k0 < 2) (x0 : Int32) (hE : f_m_second u k0 x0 = Fr) (hG : g_m_second u k0 x0) : JJ p l e R s m args below meth c 0 0 3 D clA (rW z a) A Q 0 [(0, .ref (a 0)), (1, .int (nI k0)), (2, .int x0)] u [] := by
  have C := B.1
  unfold f_m_second at hE
  unfold g_m_second at hG
  refine j_iconst C 4 dX4_second_0 ic_4 ?_
  refine j_iload_n C 1 dX4_second_1 rfl ?_
  refine j_imul C dX4_second_2 ?_
  refine j_st (st' := [.int (nI (4 * k0))]) (by rw [show (4 : Int32) = nI 4 from rfl, pk_mul]) ?_
  refine j_iconst C 2 dX4_second_3 ic_2 ?_
  refine j_iload_n C 2 dX4_second_4 rfl ?_
  refine j_imul C dX4_second_5 ?_
  refine j_iadd C dX4_second_6 ?_
  refine j_aload_n C 0 dX4_second_7 rfl ?_
  refine j_get C kf_4 0 pl_md 10 (by decide) lk_4_38 rfl dX4_second_8 ?_
  refine j_iconst C 2 dX4_second_11 ic_2 ?_
  refine j_iload_n C 1 dX4_second_12 rfl ?_
  refine j_imul C dX4_second_13 ?_
  refine j_st (st' := [.int (nI (2 * k0)), .ref (a 10), .int ((nI (4 * k0)) + ((2 : Int32) * x0))]) (by rw [show (2 : Int32) = nI 2 from rfl, pk_mul]) ?_
  refine j_iload_n C 2 dX4_second_14 rfl ?_
  refine j_iadd C dX4_second_15 ?_
  have hv1 := hG
  have lhv1 := jk_lt hv1
  refine j_zald C 10 1 pl_a_exchanged rfl (((nI (2 * k0)) + x0).toNatClampNeg) (jk_self hv1 (by decide)) (jk_lt hv1) (by decide) dX4_second_16 ?_
  refine j_if_eq C 24 dX4_second_17 (by decide) (fun c2 => ?_) (fun c2 => ?_)
  · have hE := (if_pos c2).symm.trans hE
    refine j_iconst C 1 dX4_second_24 ic_1 ?_
    refine j_iadd C dX4_second_25 ?_
    exact B.2.2 _ _ _ _ dX4_second_26 rfl (congrArg (fun x => (x, u)) hE)
  · have hE := (if_neg c2).symm.trans hE
    refine j_iconst C 0 dX4_second_20 ic_0 ?_
    refine j_goto C 25 dX4_second_21 (by decide) ?_
    refine j_iadd C dX4_second_25 ?_
    exact B.2.2 _ _ _ _ dX4_second_26 rfl (congrArg (fun x => (x, u)) hE)
theorem c_m_second (l : Launch) (D : va_G) (z : Nat → ClassId) (a : Nat → Nat) (u : St) (k0 : Nat) (x0 : Int32) (hk0 : k0 < 2) (hG : g_m_second u k0 x0) : CtI l yX4_second (.code yX4_second cX4_second 3 (some .int) :: TT) rm_m_second D clA (tyl z) (rW z a) [.ref (a 0), .int (nI k0), .int x0] u (f_m_second u k0 x0) u :=
  jk_metI (own := RX4) (by decide) rfl (Nat.le_of_ble_eq_true rfl) (fun _ _ _ _ _ _ _ _ _ _ _ B => w_m_second_0 B hk0 x0 rfl hG)
def rm_m_calledOf : Room := { frames := 2, cells := 0, slots := 0, locals := 43 }
def f_m_calledOf (u : St) (k0 : Nat) (x0 : Int32) : Int32 := (if (f_m_isCalled u ((f_m_first u k0 x0).toNatClampNeg)) = (0 : Int32) then (if (f_m_isCalled u ((f_m_second u k0 x0).toNatClampNeg)) = (0 : Int32) then (-1 : Int32) else (f_m_second u k0 x0)) else (f_m_first u k0 x0))
def g_m_calledOf (u : St) (k0 : Nat) (x0 : Int32) : Prop := ((g_m_first u k0 x0) ∧ ((g_m_second u k0 x0) ∧ ((vp_in (f_m_first u k0 x0) 8) ∧ (((f_m_isCalled u ((f_m_first u k0 x0).toNatClampNeg)) = (0 : Int32) → (vp_in (f_m_second u k0 x0) 8)) ∧ (¬ (f_m_isCalled u ((f_m_first u k0 x0).toNatClampNeg)) = (0 : Int32) → True)))))
set_option maxRecDepth 20000 in
set_option maxHeartbeats 1000000 in
theorem w_m_calledOf_0 {Fr : Int32} {u : St} (B : jk_BI p l e R s m args below meth c cX4_calledOf 5 RX4 TT .int D clA (tyl z) (rW z a) A Q rm_m_calledOf (Fr, u)) {k0 : Nat} (hk0 : k0 < 2) (x0 : Int32) (hE : f_m_calledOf u k0 x0 = Fr) (hG : g_m_calledOf u k0 x0) : JJ p l e R s m args below meth c 0 0 5 D clA (rW z a) A Q 0 [(0, .ref (a 0)), (1, .int (nI k0)), (2, .int x0)] u [] := by
  have C := B.1
  unfold f_m_calledOf at hE
  unfold g_m_calledOf at hG
  refine j_aload_n C 0 dX4_calledOf_0 rfl ?_
  refine j_iload_n C 1 dX4_calledOf_1 rfl ?_
  refine j_iload_n C 2 dX4_calledOf_2 rfl ?_
  obtain ⟨hg1, hG⟩ := hG
  refine j_cIV C B.2.1 (c_m_first l D z a u k0 x0 hk0 hg1) gv_4_93 dd_m_first ⟨⟨rfl, rfl⟩, Nat.le_of_ble_eq_true rfl, Nat.le_of_ble_eq_true rfl⟩ 0 4 pl_md rfl rfl rfl rfl (Nat.le_of_ble_eq_true rfl) dX4_calledOf_3 ?_
  refine j_istore_n C dX4_calledOf_6 (by decide) rfl ?_
  refine j_aload_n C 1 dX4_calledOf_7 rfl ?_
  refine j_iload_n C 2 dX4_calledOf_8 rfl ?_
  refine j_iload_n C 3 dX4_calledOf_9 rfl ?_
  obtain ⟨hg2, hG⟩ := hG
  refine j_cIV C B.2.1 (c_m_second l D z a u k0 x0 hk0 hg2) gv_4_97 dd_m_second ⟨⟨rfl, rfl⟩, Nat.le_of_ble_eq_true rfl, Nat.le_of_ble_eq_true rfl⟩ 0 4 pl_md rfl rfl rfl rfl (Nat.le_of_ble_eq_true rfl) dX4_calledOf_10 ?_
  refine j_istore C dX4_calledOf_13 (by decide) rfl ?_
  refine j_aload_n C 2 dX4_calledOf_15 rfl ?_
  refine j_iload_n C 1 dX4_calledOf_16 rfl ?_
  obtain ⟨hv3, hG⟩ := hG
  have lhv3 := jk_lt hv3
  refine j_st (st' := [.int (nI ((f_m_first u k0 x0).toNatClampNeg)), .ref (a 0)]) (congrArg (fun x => ([.int x, .ref (a 0)] : List Value)) (jk_self hv3 (by decide))) ?_
  refine j_cIV C B.2.1 (c_m_isCalled l D z a u ((f_m_first u k0 x0).toNatClampNeg) (jk_lt hv3)) gv_4_100 dd_m_isCalled ⟨⟨rfl, rfl⟩, Nat.le_of_ble_eq_true rfl, Nat.le_of_ble_eq_true rfl⟩ 0 4 pl_md rfl rfl rfl rfl (Nat.le_of_ble_eq_true rfl) dX4_calledOf_17 ?_
  refine j_if_eq C 27 dX4_calledOf_20 (by decide) (fun c4 => ?_) (fun c4 => ?_)
  · have hE := (if_pos c4).symm.trans hE
    have hG := hG.1 c4
    refine j_aload_n C 2 dX4_calledOf_27 rfl ?_
    refine j_iload C 0 dX4_calledOf_28 rfl ?_
    have hv5 := hG
    have lhv5 := jk_lt hv5
    refine j_st (st' := [.int (nI ((f_m_second u k0 x0).toNatClampNeg)), .ref (a 0)]) (congrArg (fun x => ([.int x, .ref (a 0)] : List Value)) (jk_self hv5 (by decide))) ?_
    refine j_cIV C B.2.1 (c_m_isCalled l D z a u ((f_m_second u k0 x0).toNatClampNeg) (jk_lt hv5)) gv_4_100 dd_m_isCalled ⟨⟨rfl, rfl⟩, Nat.le_of_ble_eq_true rfl, Nat.le_of_ble_eq_true rfl⟩ 0 4 pl_md rfl rfl rfl rfl (Nat.le_of_ble_eq_true rfl) dX4_calledOf_30 ?_
    refine j_if_eq C 41 dX4_calledOf_33 (by decide) (fun c6 => ?_) (fun c6 => ?_)
    · have hE := (if_pos c6).symm.trans hE
      refine j_iconst C (-1) dX4_calledOf_41 ic_m1 ?_
      exact B.2.2 _ _ _ _ dX4_calledOf_42 rfl (congrArg (fun x => (x, u)) hE)
    · have hE := (if_neg c6).symm.trans hE
      refine j_iload C 0 dX4_calledOf_36 rfl ?_
      refine j_goto C 42 dX4_calledOf_38 (by decide) ?_
      exact B.2.2 _ _ _ _ dX4_calledOf_42 rfl (congrArg (fun x => (x, u)) hE)
  · have hE := (if_neg c4).symm.trans hE
    refine j_iload_n C 1 dX4_calledOf_23 rfl ?_
    refine j_goto C 42 dX4_calledOf_24 (by decide) ?_
    exact B.2.2 _ _ _ _ dX4_calledOf_42 rfl (congrArg (fun x => (x, u)) hE)
theorem c_m_calledOf (l : Launch) (D : va_G) (z : Nat → ClassId) (a : Nat → Nat) (u : St) (k0 : Nat) (x0 : Int32) (hk0 : k0 < 2) (hG : g_m_calledOf u k0 x0) : CtI l yX4_calledOf (.code yX4_calledOf cX4_calledOf 5 (some .int) :: TT) rm_m_calledOf D clA (tyl z) (rW z a) [.ref (a 0), .int (nI k0), .int x0] u (f_m_calledOf u k0 x0) u :=
  jk_metI (own := RX4) (by decide) rfl (Nat.le_of_ble_eq_true rfl) (fun _ _ _ _ _ _ _ _ _ _ _ B => w_m_calledOf_0 B hk0 x0 rfl hG)
def rm_m_wait0 : Room := { frames := 2, cells := 0, slots := 0, locals := 43 }
def f_m_wait0_2  : Nat → Nat → St → St
  | 0, i, u => u
  | n + 1, i, u => (if (f_m_isCalled u i) = (0 : Int32) then (if ((up2 u 6 i (0 : Int32)) 6 i) ≤ ((up2 u 6 i (0 : Int32)) 7 i) then (f_m_wait0_2 n (i + 1) (up2 (up2 u 6 i (0 : Int32)) 7 i ((up2 u 6 i (0 : Int32)) 7 i))) else (f_m_wait0_2 n (i + 1) (up2 (up2 u 6 i (0 : Int32)) 7 i ((up2 u 6 i (0 : Int32)) 6 i)))) else (if ((up2 u 6 i ((u 6 i) + (1 : Int32))) 6 i) ≤ ((up2 u 6 i ((u 6 i) + (1 : Int32))) 7 i) then (f_m_wait0_2 n (i + 1) (up2 (up2 u 6 i ((u 6 i) + (1 : Int32))) 7 i ((up2 u 6 i ((u 6 i) + (1 : Int32))) 7 i))) else (f_m_wait0_2 n (i + 1) (up2 (up2 u 6 i ((u 6 i) + (1 : Int32))) 7 i ((up2 u 6 i ((u 6 i) + (1 : Int32))) 6 i)))))
set_option maxRecDepth 20000 in
set_option maxHeartbeats 1000000 in
theorem w_m_wait0_2 {F : St} (B : jk_BV p l e R s m args below meth c cX4_wait0 2 RX4 TT D clA (tyl z) (rW z a) A Q rm_m_wait0 F)  : ∀ (n i : Nat) (u : St), i + n = 8 → f_m_wait0_2 n i u = F → JJ p l e R s m args below meth c 0 0 2 D clA (rW z a) A Q 2 [(1, .int (nI i)), (0, .ref (a 0))] u [] := by
  have C := B.1
  intro n
  induction n with
  | zero =>
    intro i u hin hE
    obtain rfl : i = 8 := by omega
    have hge : (8 : Int32) ≤ nI 8 := by decide
    refine j_iload_n C 0 dX4_wait0_2 rfl ?_
    refine j_bipush C 8 dX4_wait0_3 bp_8 ?_
    refine j_icmp_ge C 76 dX4_wait0_5 (by decide) (fun _ => ?_) (fun hq => absurd hge hq)
    exact B.2.2 _ _ _ dX4_wait0_76 hE
  | succ n ih =>
    intro i u hin hE
    have hlt : i < 8 := by omega
    have hnge : ¬ (8 : Int32) ≤ nI i := lt8 i hlt
    refine j_iload_n C 0 dX4_wait0_2 rfl ?_
    refine j_bipush C 8 dX4_wait0_3 bp_8 ?_
    refine j_icmp_ge C 76 dX4_wait0_5 (by decide) (fun hq => absurd hq hnge) (fun _ => ?_)
    refine j_aload_n C 1 dX4_wait0_8 rfl ?_
    refine j_get C kf_4 0 pl_md 6 (by decide) lk_4_26 rfl dX4_wait0_9 ?_
    refine j_iload_n C 0 dX4_wait0_12 rfl ?_
    refine j_aload_n C 1 dX4_wait0_13 rfl ?_
    refine j_iload_n C 0 dX4_wait0_14 rfl ?_
    refine j_cIV C B.2.1 (c_m_isCalled l D z a u i hlt) gv_4_100 dd_m_isCalled ⟨⟨rfl, rfl⟩, Nat.le_of_ble_eq_true rfl, Nat.le_of_ble_eq_true rfl⟩ 0 4 pl_md rfl rfl rfl rfl (Nat.le_of_ble_eq_true rfl) dX4_wait0_15 ?_
    refine j_if_eq C 32 dX4_wait0_18 (by decide) (fun c1 => ?_) (fun c1 => ?_)
    · have hE := (if_pos c1).symm.trans hE
      refine j_iconst C 0 dX4_wait0_32 ic_0 ?_
      refine j_iast C 6 0 pl_a_waited rfl i rfl hlt (by decide) pu_a_waited dX4_wait0_33 ?_
      refine j_aload_n C 1 dX4_wait0_34 rfl ?_
      refine j_get C kf_4 0 pl_md 7 (by decide) lk_4_29 rfl dX4_wait0_35 ?_
      refine j_iload_n C 0 dX4_wait0_38 rfl ?_
      refine j_aload_n C 1 dX4_wait0_39 rfl ?_
      refine j_get C kf_4 0 pl_md 6 (by decide) lk_4_26 rfl dX4_wait0_40 ?_
      refine j_iload_n C 0 dX4_wait0_43 rfl ?_
      refine j_iald C 6 0 pl_a_waited rfl i rfl hlt (by decide) dX4_wait0_44 ?_
      refine j_aload_n C 1 dX4_wait0_45 rfl ?_
      refine j_get C kf_4 0 pl_md 7 (by decide) lk_4_29 rfl dX4_wait0_46 ?_
      refine j_iload_n C 0 dX4_wait0_49 rfl ?_
      refine j_iald C 7 0 pl_a_longest rfl i rfl hlt (by decide) dX4_wait0_50 ?_
      refine j_icmp_le C 63 dX4_wait0_51 (by decide) (fun c2 => ?_) (fun c2 => ?_)
      · have hE := (if_pos c2).symm.trans hE
        refine j_aload_n C 1 dX4_wait0_63 rfl ?_
        refine j_get C kf_4 0 pl_md 7 (by decide) lk_4_29 rfl dX4_wait0_64 ?_
        refine j_iload_n C 0 dX4_wait0_67 rfl ?_
        refine j_iald C 7 0 pl_a_longest rfl i rfl hlt (by decide) dX4_wait0_68 ?_
        refine j_iast C 7 0 pl_a_longest rfl i rfl hlt (by decide) pu_a_longest dX4_wait0_69 ?_
        refine j_iinc C 0 (nI (i + 1)) dX4_wait0_70 rfl (nI_1 _) (by decide) rfl ?_
        refine j_goto C 2 dX4_wait0_73 (by decide) ?_
        exact ih (i + 1) (up2 (up2 u 6 i (0 : Int32)) 7 i ((up2 u 6 i (0 : Int32)) 7 i)) (by omega) hE
      · have hE := (if_neg c2).symm.trans hE
        refine j_aload_n C 1 dX4_wait0_54 rfl ?_
        refine j_get C kf_4 0 pl_md 6 (by decide) lk_4_26 rfl dX4_wait0_55 ?_
        refine j_iload_n C 0 dX4_wait0_58 rfl ?_
        refine j_iald C 6 0 pl_a_waited rfl i rfl hlt (by decide) dX4_wait0_59 ?_
        refine j_goto C 69 dX4_wait0_60 (by decide) ?_
        refine j_iast C 7 0 pl_a_longest rfl i rfl hlt (by decide) pu_a_longest dX4_wait0_69 ?_
        refine j_iinc C 0 (nI (i + 1)) dX4_wait0_70 rfl (nI_1 _) (by decide) rfl ?_
        refine j_goto C 2 dX4_wait0_73 (by decide) ?_
        exact ih (i + 1) (up2 (up2 u 6 i (0 : Int32)) 7 i ((up2 u 6 i (0 : Int32)) 6 i)) (by omega) hE
    · have hE := (if_neg c1).symm.trans hE
      refine j_aload_n C 1 dX4_wait0_21 rfl ?_
      refine j_get C kf_4 0 pl_md 6 (by decide) lk_4_26 rfl dX4_wait0_22 ?_
      refine j_iload_n C 0 dX4_wait0_25 rfl ?_
      refine j_iald C 6 0 pl_a_waited rfl i rfl hlt (by decide) dX4_wait0_26 ?_
      refine j_iconst C 1 dX4_wait0_27 ic_1 ?_
      refine j_iadd C dX4_wait0_28 ?_
      refine j_goto C 33 dX4_wait0_29 (by decide) ?_
      refine j_iast C 6 0 pl_a_waited rfl i rfl hlt (by decide) pu_a_waited dX4_wait0_33 ?_
      refine j_aload_n C 1 dX4_wait0_34 rfl ?_
      refine j_get C kf_4 0 pl_md 7 (by decide) lk_4_29 rfl dX4_wait0_35 ?_
      refine j_iload_n C 0 dX4_wait0_38 rfl ?_
      refine j_aload_n C 1 dX4_wait0_39 rfl ?_
      refine j_get C kf_4 0 pl_md 6 (by decide) lk_4_26 rfl dX4_wait0_40 ?_
      refine j_iload_n C 0 dX4_wait0_43 rfl ?_
      refine j_iald C 6 0 pl_a_waited rfl i rfl hlt (by decide) dX4_wait0_44 ?_
      refine j_aload_n C 1 dX4_wait0_45 rfl ?_
      refine j_get C kf_4 0 pl_md 7 (by decide) lk_4_29 rfl dX4_wait0_46 ?_
      refine j_iload_n C 0 dX4_wait0_49 rfl ?_
      refine j_iald C 7 0 pl_a_longest rfl i rfl hlt (by decide) dX4_wait0_50 ?_
      refine j_icmp_le C 63 dX4_wait0_51 (by decide) (fun c3 => ?_) (fun c3 => ?_)
      · have hE := (if_pos c3).symm.trans hE
        refine j_aload_n C 1 dX4_wait0_63 rfl ?_
        refine j_get C kf_4 0 pl_md 7 (by decide) lk_4_29 rfl dX4_wait0_64 ?_
        refine j_iload_n C 0 dX4_wait0_67 rfl ?_
        refine j_iald C 7 0 pl_a_longest rfl i rfl hlt (by decide) dX4_wait0_68 ?_
        refine j_iast C 7 0 pl_a_longest rfl i rfl hlt (by decide) pu_a_longest dX4_wait0_69 ?_
        refine j_iinc C 0 (nI (i + 1)) dX4_wait0_70 rfl (nI_1 _) (by decide) rfl ?_
        refine j_goto C 2 dX4_wait0_73 (by decide) ?_
        exact ih (i + 1) (up2 (up2 u 6 i ((u 6 i) + (1 : Int32))) 7 i ((up2 u 6 i ((u 6 i) + (1 : Int32))) 7 i)) (by omega) hE
      · have hE := (if_neg c3).symm.trans hE
        refine j_aload_n C 1 dX4_wait0_54 rfl ?_
        refine j_get C kf_4 0 pl_md 6 (by decide) lk_4_26 rfl dX4_wait0_55 ?_
        refine j_iload_n C 0 dX4_wait0_58 rfl ?_
        refine j_iald C 6 0 pl_a_waited rfl i rfl hlt (by decide) dX4_wait0_59 ?_
        refine j_goto C 69 dX4_wait0_60 (by decide) ?_
        refine j_iast C 7 0 pl_a_longest rfl i rfl hlt (by decide) pu_a_longest dX4_wait0_69 ?_
        refine j_iinc C 0 (nI (i + 1)) dX4_wait0_70 rfl (nI_1 _) (by decide) rfl ?_
        refine j_goto C 2 dX4_wait0_73 (by decide) ?_
        exact ih (i + 1) (up2 (up2 u 6 i ((u 6 i) + (1 : Int32))) 7 i ((up2 u 6 i ((u 6 i) + (1 : Int32))) 6 i)) (by omega) hE
def f_m_wait0 (u : St)  : St := (f_m_wait0_2 8 0 u)
set_option maxRecDepth 20000 in
set_option maxHeartbeats 1000000 in
theorem w_m_wait0_0 {F : St} {u : St} (B : jk_BV p l e R s m args below meth c cX4_wait0 2 RX4 TT D clA (tyl z) (rW z a) A Q rm_m_wait0 F)  (hE : f_m_wait0 u = F) : JJ p l e R s m args below meth c 0 0 2 D clA (rW z a) A Q 0 [(0, .ref (a 0))] u [] := by
  have C := B.1
  unfold f_m_wait0 at hE
  refine j_iconst C 0 dX4_wait0_0 ic_0 ?_
  refine j_istore_n C dX4_wait0_1 (by decide) rfl ?_
  refine j_lq (congrArg (fun x => ([(1, .int x), (0, .ref (a 0))] : List (Nat × Value))) ix_0) ?_
  exact w_m_wait0_2 B 8 0 u (by omega) hE
theorem c_m_wait0 (l : Launch) (D : va_G) (z : Nat → ClassId) (a : Nat → Nat) (u : St)  : CtV l yX4_wait0 (.code yX4_wait0 cX4_wait0 2 none :: TT) rm_m_wait0 D clA (tyl z) (rW z a) [.ref (a 0)] u (f_m_wait0 u) :=
  jk_metV (own := RX4) (by decide) rfl (Nat.le_of_ble_eq_true rfl) (fun _ _ _ _ _ _ _ _ _ _ _ B => w_m_wait0_0 B rfl)
def rm_m_goDark : Room := { frames := 0, cells := 0, slots := 0, locals := 0 }
def f_m_goDark (u : St) (k0 : Nat) : St := (up2 (up2 (up2 (up2 (up2 u 11 k0 (-1 : Int32)) 13 k0 (0 : Int32)) 14 k0 (0 : Int32)) 17 k0 (0 : Int32)) 18 k0 (0 : Int32))
set_option maxRecDepth 20000 in
set_option maxHeartbeats 1000000 in
theorem w_m_goDark_0 {F : St} {u : St} (B : jk_BV p l e R s m args below meth c cX4_goDark 2 RX4 TT D clA (tyl z) (rW z a) A Q rm_m_goDark F) {k0 : Nat} (hk0 : k0 < 2) (hE : f_m_goDark u k0 = F) : JJ p l e R s m args below meth c 0 0 2 D clA (rW z a) A Q 0 [(0, .ref (a 0)), (1, .int (nI k0))] u [] := by
  have C := B.1
  unfold f_m_goDark at hE
  refine j_aload_n C 0 dX4_goDark_0 rfl ?_
  refine j_get C kf_4 0 pl_md 11 (by decide) lk_4_41 rfl dX4_goDark_1 ?_
  refine j_iload_n C 1 dX4_goDark_4 rfl ?_
  refine j_iconst C (-1) dX4_goDark_5 ic_m1 ?_
  refine j_iast C 11 0 pl_a_now rfl k0 rfl hk0 (by decide) pu_a_now dX4_goDark_6 ?_
  refine j_aload_n C 0 dX4_goDark_7 rfl ?_
  refine j_get C kf_4 0 pl_md 13 (by decide) lk_4_47 rfl dX4_goDark_8 ?_
  refine j_iload_n C 1 dX4_goDark_11 rfl ?_
  refine j_iconst C 0 dX4_goDark_12 ic_0 ?_
  refine j_iast C 13 0 pl_a_phase rfl k0 rfl hk0 (by decide) pu_a_phase dX4_goDark_13 ?_
  refine j_aload_n C 0 dX4_goDark_14 rfl ?_
  refine j_get C kf_4 0 pl_md 14 (by decide) lk_4_50 rfl dX4_goDark_15 ?_
  refine j_iload_n C 1 dX4_goDark_18 rfl ?_
  refine j_iconst C 0 dX4_goDark_19 ic_0 ?_
  refine j_iast C 14 0 pl_a_age rfl k0 rfl hk0 (by decide) pu_a_age dX4_goDark_20 ?_
  refine j_aload_n C 0 dX4_goDark_21 rfl ?_
  refine j_get C kf_4 0 pl_md 17 (by decide) lk_4_59 rfl dX4_goDark_22 ?_
  refine j_iload_n C 1 dX4_goDark_25 rfl ?_
  refine j_iconst C 0 dX4_goDark_26 ic_0 ?_
  refine j_iast C 17 0 pl_a_walking rfl k0 rfl hk0 (by decide) pu_a_walking dX4_goDark_27 ?_
  refine j_aload_n C 0 dX4_goDark_28 rfl ?_
  refine j_get C kf_4 0 pl_md 18 (by decide) lk_4_62 rfl dX4_goDark_29 ?_
  refine j_iload_n C 1 dX4_goDark_32 rfl ?_
  refine j_iconst C 0 dX4_goDark_33 ic_0 ?_
  refine j_iast C 18 0 pl_a_clearing rfl k0 rfl hk0 (by decide) pu_a_clearing dX4_goDark_34 ?_
  exact B.2.2 _ _ _ dX4_goDark_35 hE
theorem c_m_goDark (l : Launch) (D : va_G) (z : Nat → ClassId) (a : Nat → Nat) (u : St) (k0 : Nat) (hk0 : k0 < 2) : CtV l yX4_goDark (.code yX4_goDark cX4_goDark 2 none :: TT) rm_m_goDark D clA (tyl z) (rW z a) [.ref (a 0), .int (nI k0)] u (f_m_goDark u k0) :=
  jk_metV (own := RX4) (by decide) rfl (Nat.le_of_ble_eq_true rfl) (fun _ _ _ _ _ _ _ _ _ _ _ B => w_m_goDark_0 B hk0 rfl)
def rm_m_ageRing : Room := { frames := 2, cells := 0, slots := 0, locals := 43 }
def f_m_ageRing_237 (u : St) (k0 : Nat) (x9 : Int32) : St := (if (u 13 k0) = (3 : Int32) then (if (u 14 k0) < (f_m_timeOf u (x9.toNatClampNeg) 4) then u else (f_m_goDark u k0)) else u)
def g_m_ageRing_237 (u : St) (k0 : Nat) (x9 : Int32) : Prop := (((u 13 k0) = (3 : Int32) → (vp_in x9 8)) ∧ (¬ (u 13 k0) = (3 : Int32) → True))
set_option maxRecDepth 20000 in
set_option maxHeartbeats 1000000 in
theorem w_m_ageRing_237 {F : St} {u : St} (B : jk_BV p l e R s m args below meth c cX4_ageRing 5 RX4 TT D clA (tyl z) (rW z a) A Q rm_m_ageRing F) {k0 : Nat} (hk0 : k0 < 2) {x9 : Int32} (hE : f_m_ageRing_237 u k0 x9 = F) (hG : g_m_ageRing_237 u k0 x9) : JJ p l e R s m args below meth c 0 0 5 D clA (rW z a) A Q 237 [(0, .ref (a 0)), (1, .int (nI k0)), (2, .int x9)] u [] := by
  have C := B.1
  unfold f_m_ageRing_237 at hE
  unfold g_m_ageRing_237 at hG
  refine j_aload_n C 0 dX4_ageRing_237 rfl ?_
  refine j_get C kf_4 0 pl_md 13 (by decide) lk_4_47 rfl dX4_ageRing_238 ?_
  refine j_iload_n C 1 dX4_ageRing_241 rfl ?_
  refine j_iald C 13 0 pl_a_phase rfl k0 rfl hk0 (by decide) dX4_ageRing_242 ?_
  refine j_iconst C 3 dX4_ageRing_243 ic_3 ?_
  refine j_icmp_ne C 267 dX4_ageRing_244 (by decide) (fun c1 => ?_) (fun c1 => ?_)
  · have hE := (if_neg c1).symm.trans hE
    exact B.2.2 _ _ _ dX4_ageRing_267 hE
  · have hE := (if_pos c1).symm.trans hE
    have hG := hG.1 c1
    refine j_aload_n C 0 dX4_ageRing_247 rfl ?_
    refine j_get C kf_4 0 pl_md 14 (by decide) lk_4_50 rfl dX4_ageRing_248 ?_
    refine j_iload_n C 1 dX4_ageRing_251 rfl ?_
    refine j_iald C 14 0 pl_a_age rfl k0 rfl hk0 (by decide) dX4_ageRing_252 ?_
    refine j_aload_n C 0 dX4_ageRing_253 rfl ?_
    refine j_iload_n C 2 dX4_ageRing_254 rfl ?_
    refine j_iconst C 4 dX4_ageRing_255 ic_4 ?_
    have hv2 := hG
    have lhv2 := jk_lt hv2
    refine j_st (st' := [.int (nI 4), .int (nI (x9.toNatClampNeg)), .ref (a 0), .int (u 14 k0)]) ((congrArg (fun x => ([.int 4, .int x, .ref (a 0), .int (u 14 k0)] : List Value)) (jk_self hv2 (by decide))).trans (congrArg (fun x => ([.int x, .int (nI (x9.toNatClampNeg)), .ref (a 0), .int (u 14 k0)] : List Value)) ix_4)) ?_
    refine j_cIV C B.2.1 (c_m_timeOf l D z a u (x9.toNatClampNeg) 4 (jk_lt hv2) (by decide)) gv_4_103 dd_m_timeOf ⟨⟨rfl, rfl⟩, Nat.le_of_ble_eq_true rfl, Nat.le_of_ble_eq_true rfl⟩ 0 4 pl_md rfl rfl rfl rfl (Nat.le_of_ble_eq_true rfl) dX4_ageRing_256 ?_
    refine j_icmp_lt C 267 dX4_ageRing_259 (by decide) (fun c3 => ?_) (fun c3 => ?_)
    · have hE := (if_pos c3).symm.trans hE
      exact B.2.2 _ _ _ dX4_ageRing_267 hE
    · have hE := (if_neg c3).symm.trans hE
      refine j_aload_n C 0 dX4_ageRing_262 rfl ?_
      refine j_iload_n C 1 dX4_ageRing_263 rfl ?_
      refine j_cVV C B.2.1 (c_m_goDark l D z a u k0 hk0) gv_4_106 dd_m_goDark ⟨⟨rfl, rfl⟩, Nat.le_of_ble_eq_true rfl, Nat.le_of_ble_eq_true rfl⟩ 0 4 pl_md rfl rfl rfl rfl (Nat.le_of_ble_eq_true rfl) dX4_ageRing_264 ?_
      exact B.2.2 _ _ _ dX4_ageRing_267 hE
def f_m_ageRing_198 (u : St) (k0 : Nat) (x9 : Int32) : St := (if (u 13 k0) = (2 : Int32) then (if (u 14 k0) < (f_m_timeOf u (x9.toNatClampNeg) 3) then (f_m_ageRing_237 u k0 x9) else (f_m_ageRing_237 (up2 (up2 u 13 k0 (3 : Int32)) 14 k0 (0 : Int32)) k0 x9)) else (f_m_ageRing_237 u k0 x9))
def g_m_ageRing_198 (u : St) (k0 : Nat) (x9 : Int32) : Prop := (((u 13 k0) = (2 : Int32) → ((vp_in x9 8) ∧ (((u 14 k0) < (f_m_timeOf u (x9.toNatClampNeg) 3) → (g_m_ageRing_237 u k0 x9)) ∧ (¬ (u 14 k0) < (f_m_timeOf u (x9.toNatClampNeg) 3) → (g_m_ageRing_237 (up2 (up2 u 13 k0 (3 : Int32)) 14 k0 (0 : Int32)) k0 x9))))) ∧ (¬ (u 13 k0) = (2 : Int32) → (g_m_ageRing_237 u k0 x9)))
set_option maxRecDepth 20000 in
set_option maxHeartbeats 1000000 in
theorem w_m_ageRing_198 {F : St} {u : St} (B : jk_BV p l e R s m args below meth c cX4_ageRing 5 RX4 TT D clA (tyl z) (rW z a) A Q rm_m_ageRing F) {k0 : Nat} (hk0 : k0 < 2) {x9 : Int32} (hE : f_m_ageRing_198 u k0 x9 = F) (hG : g_m_ageRing_198 u k0 x9) : JJ p l e R s m args below meth c 0 0 5 D clA (rW z a) A Q 198 [(0, .ref (a 0)), (1, .int (nI k0)), (2, .int x9)] u [] := by
  have C := B.1
  unfold f_m_ageRing_198 at hE
  unfold g_m_ageRing_198 at hG
  refine j_aload_n C 0 dX4_ageRing_198 rfl ?_
  refine j_get C kf_4 0 pl_md 13 (by decide) lk_4_47 rfl dX4_ageRing_199 ?_
  refine j_iload_n C 1 dX4_ageRing_202 rfl ?_
  refine j_iald C 13 0 pl_a_phase rfl k0 rfl hk0 (by decide) dX4_ageRing_203 ?_
  refine j_iconst C 2 dX4_ageRing_204 ic_2 ?_
  refine j_icmp_ne C 237 dX4_ageRing_205 (by decide) (fun c1 => ?_) (fun c1 => ?_)
  · have hE := (if_neg c1).symm.trans hE
    have hG := hG.2 c1
    exact w_m_ageRing_237 B hk0 hE hG
  · have hE := (if_pos c1).symm.trans hE
    have hG := hG.1 c1
    refine j_aload_n C 0 dX4_ageRing_208 rfl ?_
    refine j_get C kf_4 0 pl_md 14 (by decide) lk_4_50 rfl dX4_ageRing_209 ?_
    refine j_iload_n C 1 dX4_ageRing_212 rfl ?_
    refine j_iald C 14 0 pl_a_age rfl k0 rfl hk0 (by decide) dX4_ageRing_213 ?_
    refine j_aload_n C 0 dX4_ageRing_214 rfl ?_
    refine j_iload_n C 2 dX4_ageRing_215 rfl ?_
    refine j_iconst C 3 dX4_ageRing_216 ic_3 ?_
    obtain ⟨hv2, hG⟩ := hG
    have lhv2 := jk_lt hv2
    refine j_st (st' := [.int (nI 3), .int (nI (x9.toNatClampNeg)), .ref (a 0), .int (u 14 k0)]) ((congrArg (fun x => ([.int 3, .int x, .ref (a 0), .int (u 14 k0)] : List Value)) (jk_self hv2 (by decide))).trans (congrArg (fun x => ([.int x, .int (nI (x9.toNatClampNeg)), .ref (a 0), .int (u 14 k0)] : List Value)) ix_3)) ?_
    refine j_cIV C B.2.1 (c_m_timeOf l D z a u (x9.toNatClampNeg) 3 (jk_lt hv2) (by decide)) gv_4_103 dd_m_timeOf ⟨⟨rfl, rfl⟩, Nat.le_of_ble_eq_true rfl, Nat.le_of_ble_eq_true rfl⟩ 0 4 pl_md rfl rfl rfl rfl (Nat.le_of_ble_eq_true rfl) dX4_ageRing_217 ?_
    refine j_icmp_lt C 237 dX4_ageRing_220 (by decide) (fun c3 => ?_) (fun c3 => ?_)
    · have hE := (if_pos c3).symm.trans hE
      have hG := hG.1 c3
      exact w_m_ageRing_237 B hk0 hE hG
    · have hE := (if_neg c3).symm.trans hE
      have hG := hG.2 c3
      refine j_aload_n C 0 dX4_ageRing_223 rfl ?_
      refine j_get C kf_4 0 pl_md 13 (by decide) lk_4_47 rfl dX4_ageRing_224 ?_
      refine j_iload_n C 1 dX4_ageRing_227 rfl ?_
      refine j_iconst C 3 dX4_ageRing_228 ic_3 ?_
      refine j_iast C 13 0 pl_a_phase rfl k0 rfl hk0 (by decide) pu_a_phase dX4_ageRing_229 ?_
      refine j_aload_n C 0 dX4_ageRing_230 rfl ?_
      refine j_get C kf_4 0 pl_md 14 (by decide) lk_4_50 rfl dX4_ageRing_231 ?_
      refine j_iload_n C 1 dX4_ageRing_234 rfl ?_
      refine j_iconst C 0 dX4_ageRing_235 ic_0 ?_
      refine j_iast C 14 0 pl_a_age rfl k0 rfl hk0 (by decide) pu_a_age dX4_ageRing_236 ?_
      exact w_m_ageRing_237 B hk0 hE hG
def f_m_ageRing_157 (u : St) (k0 : Nat) (x9 : Int32) : St := (if (u 17 k0) ≤ (0 : Int32) then (if (u 18 k0) ≤ (0 : Int32) then (f_m_ageRing_198 u k0 x9) else (f_m_ageRing_198 (up2 u 18 k0 ((u 18 k0) - (1 : Int32))) k0 x9)) else (f_m_ageRing_198 (up2 u 17 k0 ((u 17 k0) - (1 : Int32))) k0 x9))
def g_m_ageRing_157 (u : St) (k0 : Nat) (x9 : Int32) : Prop := (((u 17 k0) ≤ (0 : Int32) → (((u 18 k0) ≤ (0 : Int32) → (g_m_ageRing_198 u k0 x9)) ∧ (¬ (u 18 k0) ≤ (0 : Int32) → (g_m_ageRing_198 (up2 u 18 k0 ((u 18 k0) - (1 : Int32))) k0 x9)))) ∧ (¬ (u 17 k0) ≤ (0 : Int32) → (g_m_ageRing_198 (up2 u 17 k0 ((u 17 k0) - (1 : Int32))) k0 x9)))
set_option maxRecDepth 20000 in
set_option maxHeartbeats 1000000 in
theorem w_m_ageRing_157 {F : St} {u : St} (B : jk_BV p l e R s m args below meth c cX4_ageRing 5 RX4 TT D clA (tyl z) (rW z a) A Q rm_m_ageRing F) {k0 : Nat} (hk0 : k0 < 2) {x9 : Int32} (hE : f_m_ageRing_157 u k0 x9 = F) (hG : g_m_ageRing_157 u k0 x9) : JJ p l e R s m args below meth c 0 0 5 D clA (rW z a) A Q 157 [(0, .ref (a 0)), (1, .int (nI k0)), (2, .int x9)] u [] := by
  have C := B.1
  unfold f_m_ageRing_157 at hE
  unfold g_m_ageRing_157 at hG
  refine j_aload_n C 0 dX4_ageRing_157 rfl ?_
  refine j_get C kf_4 0 pl_md 17 (by decide) lk_4_59 rfl dX4_ageRing_158 ?_
  refine j_iload_n C 1 dX4_ageRing_161 rfl ?_
  refine j_iald C 17 0 pl_a_walking rfl k0 rfl hk0 (by decide) dX4_ageRing_162 ?_
  refine j_if_le C 179 dX4_ageRing_163 (by decide) (fun c1 => ?_) (fun c1 => ?_)
  · have hE := (if_pos c1).symm.trans hE
    have hG := hG.1 c1
    refine j_aload_n C 0 dX4_ageRing_179 rfl ?_
    refine j_get C kf_4 0 pl_md 18 (by decide) lk_4_62 rfl dX4_ageRing_180 ?_
    refine j_iload_n C 1 dX4_ageRing_183 rfl ?_
    refine j_iald C 18 0 pl_a_clearing rfl k0 rfl hk0 (by decide) dX4_ageRing_184 ?_
    refine j_if_le C 198 dX4_ageRing_185 (by decide) (fun c2 => ?_) (fun c2 => ?_)
    · have hE := (if_pos c2).symm.trans hE
      have hG := hG.1 c2
      exact w_m_ageRing_198 B hk0 hE hG
    · have hE := (if_neg c2).symm.trans hE
      have hG := hG.2 c2
      refine j_aload_n C 0 dX4_ageRing_188 rfl ?_
      refine j_get C kf_4 0 pl_md 18 (by decide) lk_4_62 rfl dX4_ageRing_189 ?_
      refine j_iload_n C 1 dX4_ageRing_192 rfl ?_
      refine j_dup2 C dX4_ageRing_193 rfl rfl ?_
      refine j_iald C 18 0 pl_a_clearing rfl k0 rfl hk0 (by decide) dX4_ageRing_194 ?_
      refine j_iconst C 1 dX4_ageRing_195 ic_1 ?_
      refine j_isub C dX4_ageRing_196 ?_
      refine j_iast C 18 0 pl_a_clearing rfl k0 rfl hk0 (by decide) pu_a_clearing dX4_ageRing_197 ?_
      exact w_m_ageRing_198 B hk0 hE hG
  · have hE := (if_neg c1).symm.trans hE
    have hG := hG.2 c1
    refine j_aload_n C 0 dX4_ageRing_166 rfl ?_
    refine j_get C kf_4 0 pl_md 17 (by decide) lk_4_59 rfl dX4_ageRing_167 ?_
    refine j_iload_n C 1 dX4_ageRing_170 rfl ?_
    refine j_dup2 C dX4_ageRing_171 rfl rfl ?_
    refine j_iald C 17 0 pl_a_walking rfl k0 rfl hk0 (by decide) dX4_ageRing_172 ?_
    refine j_iconst C 1 dX4_ageRing_173 ic_1 ?_
    refine j_isub C dX4_ageRing_174 ?_
    refine j_iast C 17 0 pl_a_walking rfl k0 rfl hk0 (by decide) pu_a_walking dX4_ageRing_175 ?_
    refine j_goto C 198 dX4_ageRing_176 (by decide) ?_
    exact w_m_ageRing_198 B hk0 hE hG
def f_m_ageRing_135 (u : St) (k0 : Nat) (x9 : Int32) (x8 : Int32) : St := (if x8 = (0 : Int32) then (f_m_ageRing_157 (up2 u 16 k0 (0 : Int32)) k0 x9) else (f_m_ageRing_157 (up2 u 16 k0 ((u 16 k0) + (1 : Int32))) k0 x9))
def g_m_ageRing_135 (u : St) (k0 : Nat) (x9 : Int32) (x8 : Int32) : Prop := ((x8 = (0 : Int32) → (g_m_ageRing_157 (up2 u 16 k0 (0 : Int32)) k0 x9)) ∧ (¬ x8 = (0 : Int32) → (g_m_ageRing_157 (up2 u 16 k0 ((u 16 k0) + (1 : Int32))) k0 x9)))
set_option maxRecDepth 20000 in
set_option maxHeartbeats 1000000 in
theorem w_m_ageRing_135 {F : St} {u : St} (B : jk_BV p l e R s m args below meth c cX4_ageRing 5 RX4 TT D clA (tyl z) (rW z a) A Q rm_m_ageRing F) {k0 : Nat} (hk0 : k0 < 2) {x9 : Int32} {x8 : Int32} (hE : f_m_ageRing_135 u k0 x9 x8 = F) (hG : g_m_ageRing_135 u k0 x9 x8) : JJ p l e R s m args below meth c 0 0 5 D clA (rW z a) A Q 135 [(0, .ref (a 0)), (1, .int (nI k0)), (2, .int x9), (3, .int x8)] u [] := by
  have C := B.1
  unfold f_m_ageRing_135 at hE
  unfold g_m_ageRing_135 at hG
  refine j_aload_n C 0 dX4_ageRing_135 rfl ?_
  refine j_get C kf_4 0 pl_md 16 (by decide) lk_4_56 rfl dX4_ageRing_136 ?_
  refine j_iload_n C 1 dX4_ageRing_139 rfl ?_
  refine j_iload_n C 3 dX4_ageRing_140 rfl ?_
  refine j_if_eq C 155 dX4_ageRing_141 (by decide) (fun c1 => ?_) (fun c1 => ?_)
  · have hE := (if_pos c1).symm.trans hE
    have hG := hG.1 c1
    refine j_iconst C 0 dX4_ageRing_155 ic_0 ?_
    refine j_iast C 16 0 pl_a_pressure rfl k0 rfl hk0 (by decide) pu_a_pressure dX4_ageRing_156 ?_
    refine j_lv [0, 1, 2] rfl ?_
    exact w_m_ageRing_157 B hk0 hE hG
  · have hE := (if_neg c1).symm.trans hE
    have hG := hG.2 c1
    refine j_aload_n C 0 dX4_ageRing_144 rfl ?_
    refine j_get C kf_4 0 pl_md 16 (by decide) lk_4_56 rfl dX4_ageRing_145 ?_
    refine j_iload_n C 1 dX4_ageRing_148 rfl ?_
    refine j_iald C 16 0 pl_a_pressure rfl k0 rfl hk0 (by decide) dX4_ageRing_149 ?_
    refine j_iconst C 1 dX4_ageRing_150 ic_1 ?_
    refine j_iadd C dX4_ageRing_151 ?_
    refine j_goto C 156 dX4_ageRing_152 (by decide) ?_
    refine j_iast C 16 0 pl_a_pressure rfl k0 rfl hk0 (by decide) pu_a_pressure dX4_ageRing_156 ?_
    refine j_lv [0, 1, 2] rfl ?_
    exact w_m_ageRing_157 B hk0 hE hG
def f_m_ageRing_42 (k0 : Nat) : Nat → Nat → Int32 → Int32 → St → St
  | 0, i, x8, x9, u => (if (u 3 (x9.toNatClampNeg)) = (0 : Int32) then (if (f_m_has u (x9.toNatClampNeg) (8 : Int32)) = (0 : Int32) then (if (u 15 k0) ≤ (0 : Int32) then (f_m_ageRing_135 (up2 u 15 k0 (0 : Int32)) k0 x9 x8) else (f_m_ageRing_135 (up2 u 15 k0 ((u 15 k0) - (1 : Int32))) k0 x9 x8)) else (f_m_ageRing_135 (up2 u 15 k0 (f_m_timeOf u (x9.toNatClampNeg) 1)) k0 x9 x8)) else (f_m_ageRing_135 (up2 u 15 k0 (f_m_timeOf u (x9.toNatClampNeg) 1)) k0 x9 x8))
  | n + 1, i, x8, x9, u => (if x8 = (0 : Int32) then (if (nI i) = x9 then (f_m_ageRing_42 k0 n (i + 1) (0 : Int32) x9 u) else (if (f_m_isCalled u i) = (0 : Int32) then (f_m_ageRing_42 k0 n (i + 1) (0 : Int32) x9 u) else (f_m_ageRing_42 k0 n (i + 1) (1 : Int32) x9 u))) else (f_m_ageRing_42 k0 n (i + 1) (1 : Int32) x9 u))
def g_m_ageRing_42 (k0 : Nat) : Nat → Nat → Int32 → Int32 → St → Prop
  | 0, i, x8, x9, u => ((vp_in x9 8) ∧ (((u 3 (x9.toNatClampNeg)) = (0 : Int32) → (((f_m_has u (x9.toNatClampNeg) (8 : Int32)) = (0 : Int32) → (((u 15 k0) ≤ (0 : Int32) → (g_m_ageRing_135 (up2 u 15 k0 (0 : Int32)) k0 x9 x8)) ∧ (¬ (u 15 k0) ≤ (0 : Int32) → (g_m_ageRing_135 (up2 u 15 k0 ((u 15 k0) - (1 : Int32))) k0 x9 x8)))) ∧ (¬ (f_m_has u (x9.toNatClampNeg) (8 : Int32)) = (0 : Int32) → (g_m_ageRing_135 (up2 u 15 k0 (f_m_timeOf u (x9.toNatClampNeg) 1)) k0 x9 x8)))) ∧ (¬ (u 3 (x9.toNatClampNeg)) = (0 : Int32) → (g_m_ageRing_135 (up2 u 15 k0 (f_m_timeOf u (x9.toNatClampNeg) 1)) k0 x9 x8))))
  | n + 1, i, x8, x9, u => ((x8 = (0 : Int32) → (((nI i) = x9 → (g_m_ageRing_42 k0 n (i + 1) (0 : Int32) x9 u)) ∧ (¬ (nI i) = x9 → (((f_m_isCalled u i) = (0 : Int32) → (g_m_ageRing_42 k0 n (i + 1) (0 : Int32) x9 u)) ∧ (¬ (f_m_isCalled u i) = (0 : Int32) → (g_m_ageRing_42 k0 n (i + 1) (1 : Int32) x9 u)))))) ∧ (¬ x8 = (0 : Int32) → (g_m_ageRing_42 k0 n (i + 1) (1 : Int32) x9 u)))
set_option maxRecDepth 20000 in
set_option maxHeartbeats 1000000 in
theorem w_m_ageRing_42 {F : St} (B : jk_BV p l e R s m args below meth c cX4_ageRing 5 RX4 TT D clA (tyl z) (rW z a) A Q rm_m_ageRing F) {k0 : Nat} (hk0 : k0 < 2) : ∀ (n i : Nat) (x8 : Int32) (x9 : Int32) (u : St), i + n = 8 → f_m_ageRing_42 k0 n i x8 x9 u = F → g_m_ageRing_42 k0 n i x8 x9 u → JJ p l e R s m args below meth c 0 0 5 D clA (rW z a) A Q 42 [(4, .int (nI i)), (3, .int x8), (2, .int x9), (1, .int (nI k0)), (0, .ref (a 0))] u [] := by
  have C := B.1
  intro n
  induction n with
  | zero =>
    intro i x8 x9 u hin hE hG
    obtain rfl : i = 8 := by omega
    have hge : (8 : Int32) ≤ nI 8 := by decide
    refine j_iload C 0 dX4_ageRing_42 rfl ?_
    refine j_bipush C 8 dX4_ageRing_44 bp_8 ?_
    refine j_icmp_ge C 80 dX4_ageRing_46 (by decide) (fun _ => ?_) (fun hq => absurd hge hq)
    refine j_aload_n C 4 dX4_ageRing_80 rfl ?_
    refine j_get C kf_4 0 pl_md 15 (by decide) lk_4_53 rfl dX4_ageRing_81 ?_
    refine j_iload_n C 3 dX4_ageRing_84 rfl ?_
    refine j_aload_n C 4 dX4_ageRing_85 rfl ?_
    refine j_get C kf_4 0 pl_md 3 (by decide) lk_4_16 rfl dX4_ageRing_86 ?_
    refine j_iload_n C 2 dX4_ageRing_89 rfl ?_
    obtain ⟨hv1, hG⟩ := hG
    have lhv1 := jk_lt hv1
    refine j_zald C 3 1 pl_a_cars rfl (x9.toNatClampNeg) (jk_self hv1 (by decide)) (jk_lt hv1) (by decide) dX4_ageRing_90 ?_
    refine j_if_ne C 104 dX4_ageRing_91 (by decide) (fun c2 => ?_) (fun c2 => ?_)
    · have hE := (if_neg c2).symm.trans hE
      have hG := hG.2 c2
      refine j_aload_n C 4 dX4_ageRing_104 rfl ?_
      refine j_iload_n C 2 dX4_ageRing_105 rfl ?_
      refine j_iconst C 1 dX4_ageRing_106 ic_1 ?_
      refine j_st (st' := [.int (nI 1), .int (nI (x9.toNatClampNeg)), .ref (a 0), .int (nI k0), .ref (a 15)]) ((congrArg (fun x => ([.int 1, .int x, .ref (a 0), .int (nI k0), .ref (a 15)] : List Value)) (jk_self hv1 (by decide))).trans (congrArg (fun x => ([.int x, .int (nI (x9.toNatClampNeg)), .ref (a 0), .int (nI k0), .ref (a 15)] : List Value)) ix_1)) ?_
      refine j_cIV C B.2.1 (c_m_timeOf l D z a u (x9.toNatClampNeg) 1 (jk_lt hv1) (by decide)) gv_4_103 dd_m_timeOf ⟨⟨rfl, rfl⟩, Nat.le_of_ble_eq_true rfl, Nat.le_of_ble_eq_true rfl⟩ 0 4 pl_md rfl rfl rfl rfl (Nat.le_of_ble_eq_true rfl) dX4_ageRing_107 ?_
      refine j_goto C 134 dX4_ageRing_110 (by decide) ?_
      refine j_iast C 15 0 pl_a_left rfl k0 rfl hk0 (by decide) pu_a_left dX4_ageRing_134 ?_
      refine j_lv [4, 3, 2, 1] rfl ?_
      exact w_m_ageRing_135 B hk0 hE hG
    · have hE := (if_pos c2).symm.trans hE
      have hG := hG.1 c2
      refine j_aload_n C 4 dX4_ageRing_94 rfl ?_
      refine j_iload_n C 2 dX4_ageRing_95 rfl ?_
      refine j_bipush C 8 dX4_ageRing_96 bp_8 ?_
      refine j_st (st' := [.int 8, .int (nI (x9.toNatClampNeg)), .ref (a 0), .int (nI k0), .ref (a 15)]) (congrArg (fun x => ([.int 8, .int x, .ref (a 0), .int (nI k0), .ref (a 15)] : List Value)) (jk_self hv1 (by decide))) ?_
      refine j_cIV C B.2.1 (c_m_has l D z a u (x9.toNatClampNeg) (8 : Int32) (jk_lt hv1)) gv_4_75 dd_m_has ⟨⟨rfl, rfl⟩, Nat.le_of_ble_eq_true rfl, Nat.le_of_ble_eq_true rfl⟩ 0 4 pl_md rfl rfl rfl rfl (Nat.le_of_ble_eq_true rfl) dX4_ageRing_98 ?_
      refine j_if_eq C 113 dX4_ageRing_101 (by decide) (fun c3 => ?_) (fun c3 => ?_)
      · have hE := (if_pos c3).symm.trans hE
        have hG := hG.1 c3
        refine j_aload_n C 4 dX4_ageRing_113 rfl ?_
        refine j_get C kf_4 0 pl_md 15 (by decide) lk_4_53 rfl dX4_ageRing_114 ?_
        refine j_iload_n C 3 dX4_ageRing_117 rfl ?_
        refine j_iald C 15 0 pl_a_left rfl k0 rfl hk0 (by decide) dX4_ageRing_118 ?_
        refine j_if_le C 133 dX4_ageRing_119 (by decide) (fun c4 => ?_) (fun c4 => ?_)
        · have hE := (if_pos c4).symm.trans hE
          have hG := hG.1 c4
          refine j_iconst C 0 dX4_ageRing_133 ic_0 ?_
          refine j_iast C 15 0 pl_a_left rfl k0 rfl hk0 (by decide) pu_a_left dX4_ageRing_134 ?_
          refine j_lv [4, 3, 2, 1] rfl ?_
          exact w_m_ageRing_135 B hk0 hE hG
        · have hE := (if_neg c4).symm.trans hE
          have hG := hG.2 c4
          refine j_aload_n C 4 dX4_ageRing_122 rfl ?_
          refine j_get C kf_4 0 pl_md 15 (by decide) lk_4_53 rfl dX4_ageRing_123 ?_
          refine j_iload_n C 3 dX4_ageRing_126 rfl ?_
          refine j_iald C 15 0 pl_a_left rfl k0 rfl hk0 (by decide) dX4_ageRing_127 ?_
          refine j_iconst C 1 dX4_ageRing_128 ic_1 ?_
          refine j_isub C dX4_ageRing_129 ?_
          refine j_goto C 134 dX4_ageRing_130 (by decide) ?_
          refine j_iast C 15 0 pl_a_left rfl k0 rfl hk0 (by decide) pu_a_left dX4_ageRing_134 ?_
          refine j_lv [4, 3, 2, 1] rfl ?_
          exact w_m_ageRing_135 B hk0 hE hG
      · have hE := (if_neg c3).symm.trans hE
        have hG := hG.2 c3
        refine j_aload_n C 4 dX4_ageRing_104 rfl ?_
        refine j_iload_n C 2 dX4_ageRing_105 rfl ?_
        refine j_iconst C 1 dX4_ageRing_106 ic_1 ?_
        refine j_st (st' := [.int (nI 1), .int (nI (x9.toNatClampNeg)), .ref (a 0), .int (nI k0), .ref (a 15)]) ((congrArg (fun x => ([.int 1, .int x, .ref (a 0), .int (nI k0), .ref (a 15)] : List Value)) (jk_self hv1 (by decide))).trans (congrArg (fun x => ([.int x, .int (nI (x9.toNatClampNeg)), .ref (a 0), .int (nI k0), .ref (a 15)] : List Value)) ix_1)) ?_
        refine j_cIV C B.2.1 (c_m_timeOf l D z a u (x9.toNatClampNeg) 1 (jk_lt hv1) (by decide)) gv_4_103 dd_m_timeOf ⟨⟨rfl, rfl⟩, Nat.le_of_ble_eq_true rfl, Nat.le_of_ble_eq_true rfl⟩ 0 4 pl_md rfl rfl rfl rfl (Nat.le_of_ble_eq_true rfl) dX4_ageRing_107 ?_
        refine j_goto C 134 dX4_ageRing_110 (by decide) ?_
        refine j_iast C 15 0 pl_a_left rfl k0 rfl hk0 (by decide) pu_a_left dX4_ageRing_134 ?_
        refine j_lv [4, 3, 2, 1] rfl ?_
        exact w_m_ageRing_135 B hk0 hE hG
  | succ n ih =>
    intro i x8 x9 u hin hE hG
    have hlt : i < 8 := by omega
    have hnge : ¬ (8 : Int32) ≤ nI i := lt8 i hlt
    refine j_iload C 0 dX4_ageRing_42 rfl ?_
    refine j_bipush C 8 dX4_ageRing_44 bp_8 ?_
    refine j_icmp_ge C 80 dX4_ageRing_46 (by decide) (fun hq => absurd hq hnge) (fun _ => ?_)
    refine j_iload_n C 1 dX4_ageRing_49 rfl ?_
    refine j_if_ne C 68 dX4_ageRing_50 (by decide) (fun c1 => ?_) (fun c1 => ?_)
    · have hE := (if_neg c1).symm.trans hE
      have hG := hG.2 c1
      refine j_iconst C 1 dX4_ageRing_68 ic_1 ?_
      refine j_goto C 73 dX4_ageRing_69 (by decide) ?_
      refine j_istore_n C dX4_ageRing_73 (by decide) rfl ?_
      refine j_iinc C 1 (nI (i + 1)) dX4_ageRing_74 rfl (nI_1 _) (by decide) rfl ?_
      refine j_goto C 42 dX4_ageRing_77 (by decide) ?_
      exact ih (i + 1) (1 : Int32) x9 u (by omega) hE hG
    · have hE := (if_pos c1).symm.trans hE
      have hG := hG.1 c1
      refine j_iload C 0 dX4_ageRing_53 rfl ?_
      refine j_iload_n C 2 dX4_ageRing_55 rfl ?_
      refine j_icmp_eq C 72 dX4_ageRing_56 (by decide) (fun c2 => ?_) (fun c2 => ?_)
      · have hE := (if_pos c2).symm.trans hE
        have hG := hG.1 c2
        refine j_iconst C 0 dX4_ageRing_72 ic_0 ?_
        refine j_istore_n C dX4_ageRing_73 (by decide) rfl ?_
        refine j_iinc C 1 (nI (i + 1)) dX4_ageRing_74 rfl (nI_1 _) (by decide) rfl ?_
        refine j_goto C 42 dX4_ageRing_77 (by decide) ?_
        exact ih (i + 1) (0 : Int32) x9 u (by omega) hE hG
      · have hE := (if_neg c2).symm.trans hE
        have hG := hG.2 c2
        refine j_aload_n C 4 dX4_ageRing_59 rfl ?_
        refine j_iload C 0 dX4_ageRing_60 rfl ?_
        refine j_cIV C B.2.1 (c_m_isCalled l D z a u i hlt) gv_4_100 dd_m_isCalled ⟨⟨rfl, rfl⟩, Nat.le_of_ble_eq_true rfl, Nat.le_of_ble_eq_true rfl⟩ 0 4 pl_md rfl rfl rfl rfl (Nat.le_of_ble_eq_true rfl) dX4_ageRing_62 ?_
        refine j_if_eq C 72 dX4_ageRing_65 (by decide) (fun c3 => ?_) (fun c3 => ?_)
        · have hE := (if_pos c3).symm.trans hE
          have hG := hG.1 c3
          refine j_iconst C 0 dX4_ageRing_72 ic_0 ?_
          refine j_istore_n C dX4_ageRing_73 (by decide) rfl ?_
          refine j_iinc C 1 (nI (i + 1)) dX4_ageRing_74 rfl (nI_1 _) (by decide) rfl ?_
          refine j_goto C 42 dX4_ageRing_77 (by decide) ?_
          exact ih (i + 1) (0 : Int32) x9 u (by omega) hE hG
        · have hE := (if_neg c3).symm.trans hE
          have hG := hG.2 c3
          refine j_iconst C 1 dX4_ageRing_68 ic_1 ?_
          refine j_goto C 73 dX4_ageRing_69 (by decide) ?_
          refine j_istore_n C dX4_ageRing_73 (by decide) rfl ?_
          refine j_iinc C 1 (nI (i + 1)) dX4_ageRing_74 rfl (nI_1 _) (by decide) rfl ?_
          refine j_goto C 42 dX4_ageRing_77 (by decide) ?_
          exact ih (i + 1) (1 : Int32) x9 u (by omega) hE hG
def f_m_ageRing (u : St) (k0 : Nat) : St := (if (u 13 k0) = (0 : Int32) then u else (if ((up2 u 14 k0 ((u 14 k0) + (1 : Int32))) 13 k0) = (1 : Int32) then (f_m_ageRing_42 k0 8 0 (0 : Int32) (u 11 k0) (up2 u 14 k0 ((u 14 k0) + (1 : Int32)))) else (f_m_ageRing_198 (up2 u 14 k0 ((u 14 k0) + (1 : Int32))) k0 (u 11 k0))))
def g_m_ageRing (u : St) (k0 : Nat) : Prop := (((u 13 k0) = (0 : Int32) → True) ∧ (¬ (u 13 k0) = (0 : Int32) → ((((up2 u 14 k0 ((u 14 k0) + (1 : Int32))) 13 k0) = (1 : Int32) → (g_m_ageRing_42 k0 8 0 (0 : Int32) (u 11 k0) (up2 u 14 k0 ((u 14 k0) + (1 : Int32))))) ∧ (¬ ((up2 u 14 k0 ((u 14 k0) + (1 : Int32))) 13 k0) = (1 : Int32) → (g_m_ageRing_198 (up2 u 14 k0 ((u 14 k0) + (1 : Int32))) k0 (u 11 k0))))))
set_option maxRecDepth 20000 in
set_option maxHeartbeats 1000000 in
theorem w_m_ageRing_0 {F : St} {u : St} (B : jk_BV p l e R s m args below meth c cX4_ageRing 5 RX4 TT D clA (tyl z) (rW z a) A Q rm_m_ageRing F) {k0 : Nat} (hk0 : k0 < 2) (hE : f_m_ageRing u k0 = F) (hG : g_m_ageRing u k0) : JJ p l e R s m args below meth c 0 0 5 D clA (rW z a) A Q 0 [(0, .ref (a 0)), (1, .int (nI k0))] u [] := by
  have C := B.1
  unfold f_m_ageRing at hE
  unfold g_m_ageRing at hG
  refine j_aload_n C 0 dX4_ageRing_0 rfl ?_
  refine j_get C kf_4 0 pl_md 11 (by decide) lk_4_41 rfl dX4_ageRing_1 ?_
  refine j_iload_n C 1 dX4_ageRing_4 rfl ?_
  refine j_iald C 11 0 pl_a_now rfl k0 rfl hk0 (by decide) dX4_ageRing_5 ?_
  refine j_istore_n C dX4_ageRing_6 (by decide) rfl ?_
  refine j_aload_n C 1 dX4_ageRing_7 rfl ?_
  refine j_get C kf_4 0 pl_md 13 (by decide) lk_4_47 rfl dX4_ageRing_8 ?_
  refine j_iload_n C 2 dX4_ageRing_11 rfl ?_
  refine j_iald C 13 0 pl_a_phase rfl k0 rfl hk0 (by decide) dX4_ageRing_12 ?_
  refine j_if_ne C 17 dX4_ageRing_13 (by decide) (fun c1 => ?_) (fun c1 => ?_)
  · have hE := (if_neg c1).symm.trans hE
    have hG := hG.2 c1
    refine j_aload_n C 1 dX4_ageRing_17 rfl ?_
    refine j_get C kf_4 0 pl_md 14 (by decide) lk_4_50 rfl dX4_ageRing_18 ?_
    refine j_iload_n C 2 dX4_ageRing_21 rfl ?_
    refine j_dup2 C dX4_ageRing_22 rfl rfl ?_
    refine j_iald C 14 0 pl_a_age rfl k0 rfl hk0 (by decide) dX4_ageRing_23 ?_
    refine j_iconst C 1 dX4_ageRing_24 ic_1 ?_
    refine j_iadd C dX4_ageRing_25 ?_
    refine j_iast C 14 0 pl_a_age rfl k0 rfl hk0 (by decide) pu_a_age dX4_ageRing_26 ?_
    refine j_aload_n C 1 dX4_ageRing_27 rfl ?_
    refine j_get C kf_4 0 pl_md 13 (by decide) lk_4_47 rfl dX4_ageRing_28 ?_
    refine j_iload_n C 2 dX4_ageRing_31 rfl ?_
    refine j_iald C 13 0 pl_a_phase rfl k0 rfl hk0 (by decide) dX4_ageRing_32 ?_
    refine j_iconst C 1 dX4_ageRing_33 ic_1 ?_
    refine j_icmp_ne C 198 dX4_ageRing_34 (by decide) (fun c2 => ?_) (fun c2 => ?_)
    · have hE := (if_neg c2).symm.trans hE
      have hG := hG.2 c2
      refine j_lv [1, 2, 0] rfl ?_
      exact w_m_ageRing_198 B hk0 hE hG
    · have hE := (if_pos c2).symm.trans hE
      have hG := hG.1 c2
      refine j_iconst C 0 dX4_ageRing_37 ic_0 ?_
      refine j_istore_n C dX4_ageRing_38 (by decide) rfl ?_
      refine j_iconst C 0 dX4_ageRing_39 ic_0 ?_
      refine j_istore C dX4_ageRing_40 (by decide) rfl ?_
      refine j_lv [0, 1, 2, 4, 3] rfl ?_
      refine j_lq (congrArg (fun x => ([(4, .int x), (3, .int 0), (2, .int (u 11 k0)), (1, .int (nI k0)), (0, .ref (a 0))] : List (Nat × Value))) ix_0) ?_
      exact w_m_ageRing_42 B hk0 8 0 (0 : Int32) (u 11 k0) (up2 u 14 k0 ((u 14 k0) + (1 : Int32))) (by omega) hE hG
  · have hE := (if_pos c1).symm.trans hE
    exact B.2.2 _ _ _ dX4_ageRing_16 hE
theorem c_m_ageRing (l : Launch) (D : va_G) (z : Nat → ClassId) (a : Nat → Nat) (u : St) (k0 : Nat) (hk0 : k0 < 2) (hG : g_m_ageRing u k0) : CtV l yX4_ageRing (.code yX4_ageRing cX4_ageRing 5 none :: TT) rm_m_ageRing D clA (tyl z) (rW z a) [.ref (a 0), .int (nI k0)] u (f_m_ageRing u k0) :=
  jk_metV (own := RX4) (by decide) rfl (Nat.le_of_ble_eq_true rfl) (fun _ _ _ _ _ _ _ _ _ _ _ B => w_m_ageRing_0 B hk0 rfl hG)
end WLK

section WLK
variable {p : Program} {l : Launch} {e : Env} {R : Room} {s : State} {m : MethodId} {args : Array Value} {below : List Frame} {meth : Method} {c : Code} {D : va_G} {z : Nat → ClassId} {a : Nat → Nat} {A : Nat → Prop} {Q : State → Prop}
def rm_m_mode : Room := { frames := 1, cells := 0, slots := 0, locals := 20 }
def f_m_mode (u : St) (x0 : Int32) (x1 : Int32) : Int32 × St := (if (f_m_isMovement x0) = (0 : Int32) then ((0 : Int32), (up2 u 0 0 (0 : Int32))) else (if x1 < (0 : Int32) then ((0 : Int32), (up2 u 0 0 (0 : Int32))) else (if x1 ≤ (63 : Int32) then ((1 : Int32), (up2 (up2 u 0 0 (0 : Int32)) 2 (x0.toNatClampNeg) x1)) else ((0 : Int32), (up2 u 0 0 (0 : Int32))))))
def g_m_mode (u : St) (x0 : Int32) (x1 : Int32) : Prop := (((f_m_isMovement x0) = (0 : Int32) → True) ∧ (¬ (f_m_isMovement x0) = (0 : Int32) → ((x1 < (0 : Int32) → True) ∧ (¬ x1 < (0 : Int32) → ((x1 ≤ (63 : Int32) → (vp_in x0 8)) ∧ (¬ x1 ≤ (63 : Int32) → True))))))
set_option maxRecDepth 20000 in
set_option maxHeartbeats 1000000 in
theorem w_m_mode_0 {F : Int32 × St} {u : St} (B : jk_BI p l e R s m args below meth c cX4_mode 3 RX4 TT .int D clA (tyl z) (rW z a) A Q rm_m_mode F) (x0 : Int32) (x1 : Int32) (hE : f_m_mode u x0 x1 = F) (hG : g_m_mode u x0 x1) : JJ p l e R s m args below meth c 0 0 3 D clA (rW z a) A Q 0 [(0, .ref (a 0)), (1, .int x0), (2, .int x1)] u [] := by
  have C := B.1
  unfold f_m_mode at hE
  unfold g_m_mode at hG
  refine j_aload_n C 0 dX4_mode_0 rfl ?_
  refine j_iconst C 0 dX4_mode_1 ic_0 ?_
  refine j_put C kf_4 0 pl_md 0 (by decide) lk_4_71 rfl rfl rfl (Nat.le_of_ble_eq_true rfl) pu_md_thrown dX4_mode_2 ?_
  refine j_iload_n C 1 dX4_mode_5 rfl ?_
  refine j_cIS C B.2.1 (c_m_isMovement l D z a (up2 u 0 0 (0 : Int32)) x0) gv_4_83 dd_m_isMovement ⟨⟨rfl, rfl⟩, Nat.le_of_ble_eq_true rfl, Nat.le_of_ble_eq_true rfl⟩ rfl rfl (Nat.le_of_ble_eq_true rfl) dX4_mode_6 ?_
  refine j_if_eq C 22 dX4_mode_9 (by decide) (fun c1 => ?_) (fun c1 => ?_)
  · have hE := (if_pos c1).symm.trans hE
    refine j_iconst C 0 dX4_mode_22 ic_0 ?_
    exact B.2.2 _ _ _ _ dX4_mode_23 rfl hE
  · have hE := (if_neg c1).symm.trans hE
    have hG := hG.2 c1
    refine j_iload_n C 2 dX4_mode_12 rfl ?_
    refine j_if_lt C 22 dX4_mode_13 (by decide) (fun c2 => ?_) (fun c2 => ?_)
    · have hE := (if_pos c2).symm.trans hE
      refine j_iconst C 0 dX4_mode_22 ic_0 ?_
      exact B.2.2 _ _ _ _ dX4_mode_23 rfl hE
    · have hE := (if_neg c2).symm.trans hE
      have hG := hG.2 c2
      refine j_iload_n C 2 dX4_mode_16 rfl ?_
      refine j_bipush C 63 dX4_mode_17 bp_63 ?_
      refine j_icmp_le C 24 dX4_mode_19 (by decide) (fun c3 => ?_) (fun c3 => ?_)
      · have hE := (if_pos c3).symm.trans hE
        have hG := hG.1 c3
        refine j_aload_n C 0 dX4_mode_24 rfl ?_
        refine j_get C kf_4 0 pl_md 2 (by decide) lk_4_13 rfl dX4_mode_25 ?_
        refine j_iload_n C 1 dX4_mode_28 rfl ?_
        refine j_iload_n C 2 dX4_mode_29 rfl ?_
        have hv4 := hG
        have lhv4 := jk_lt hv4
        refine j_iast C 2 0 pl_a_modes rfl (x0.toNatClampNeg) (jk_self hv4 (by decide)) (jk_lt hv4) (by decide) pu_a_modes dX4_mode_30 ?_
        refine j_iconst C 1 dX4_mode_31 ic_1 ?_
        exact B.2.2 _ _ _ _ dX4_mode_32 rfl hE
      · have hE := (if_neg c3).symm.trans hE
        refine j_iconst C 0 dX4_mode_22 ic_0 ?_
        exact B.2.2 _ _ _ _ dX4_mode_23 rfl hE
theorem c_m_mode (l : Launch) (D : va_G) (z : Nat → ClassId) (a : Nat → Nat) (u : St) (x0 : Int32) (x1 : Int32) (hG : g_m_mode u x0 x1) : CtI l yX4_mode (.code yX4_mode cX4_mode 3 (some .int) :: TT) rm_m_mode D clA (tyl z) (rW z a) [.ref (a 0), .int x0, .int x1] u (f_m_mode u x0 x1).1 (f_m_mode u x0 x1).2 :=
  jk_metI (own := RX4) (by decide) rfl (Nat.le_of_ble_eq_true rfl) (fun _ _ _ _ _ _ _ _ _ _ _ B => w_m_mode_0 B x0 x1 rfl hG)
def rm_m_isOf : Room := { frames := 0, cells := 0, slots := 0, locals := 0 }
def f_m_isOf (x0 : Int32) (x1 : Int32) (x2 : Int32) : Int32 := (if x0 < (0 : Int32) then (0 : Int32) else (if (x0 / (4 : Int32)) = x1 then (if ((x0 - x0 / (4 : Int32) * (4 : Int32)) / (2 : Int32)) = x2 then (1 : Int32) else (0 : Int32)) else (0 : Int32)))
set_option maxRecDepth 20000 in
set_option maxHeartbeats 1000000 in
theorem w_m_isOf_0 {Fr : Int32} {u : St} (B : jk_BI p l e R s m args below meth c cX4_isOf 3 RX4 TT .boolean D clA (tyl z) (rW z a) A Q rm_m_isOf (Fr, u)) (x0 : Int32) (x1 : Int32) (x2 : Int32) (hE : f_m_isOf x0 x1 x2 = Fr) : JJ p l e R s m args below meth c 0 0 3 D clA (rW z a) A Q 0 [(0, .int x0), (1, .int x1), (2, .int x2)] u [] := by
  have C := B.1
  unfold f_m_isOf at hE
  refine j_iload_n C 0 dX4_isOf_0 rfl ?_
  refine j_if_lt C 24 dX4_isOf_1 (by decide) (fun c1 => ?_) (fun c1 => ?_)
  · have hE := (if_pos c1).symm.trans hE
    refine j_iconst C 0 dX4_isOf_24 ic_0 ?_
    exact B.2.2 _ _ _ _ dX4_isOf_25 rfl (congrArg (fun x => (x, u)) hE)
  · have hE := (if_neg c1).symm.trans hE
    refine j_iload_n C 0 dX4_isOf_4 rfl ?_
    refine j_iconst C 4 dX4_isOf_5 ic_4 ?_
    refine j_idiv C (x0 / (4 : Int32)) dX4_isOf_6 (by decide) rfl ?_
    refine j_iload_n C 1 dX4_isOf_7 rfl ?_
    refine j_icmp_ne C 24 dX4_isOf_8 (by decide) (fun c2 => ?_) (fun c2 => ?_)
    · have hE := (if_neg c2).symm.trans hE
      refine j_iconst C 0 dX4_isOf_24 ic_0 ?_
      exact B.2.2 _ _ _ _ dX4_isOf_25 rfl (congrArg (fun x => (x, u)) hE)
    · have hE := (if_pos c2).symm.trans hE
      refine j_iload_n C 0 dX4_isOf_11 rfl ?_
      refine j_iconst C 4 dX4_isOf_12 ic_4 ?_
      refine j_irem C (x0 - x0 / (4 : Int32) * (4 : Int32)) dX4_isOf_13 (by decide) rfl ?_
      refine j_iconst C 2 dX4_isOf_14 ic_2 ?_
      refine j_idiv C ((x0 - x0 / (4 : Int32) * (4 : Int32)) / (2 : Int32)) dX4_isOf_15 (by decide) rfl ?_
      refine j_iload_n C 2 dX4_isOf_16 rfl ?_
      refine j_icmp_ne C 24 dX4_isOf_17 (by decide) (fun c3 => ?_) (fun c3 => ?_)
      · have hE := (if_neg c3).symm.trans hE
        refine j_iconst C 0 dX4_isOf_24 ic_0 ?_
        exact B.2.2 _ _ _ _ dX4_isOf_25 rfl (congrArg (fun x => (x, u)) hE)
      · have hE := (if_pos c3).symm.trans hE
        refine j_iconst C 1 dX4_isOf_20 ic_1 ?_
        refine j_goto C 25 dX4_isOf_21 (by decide) ?_
        exact B.2.2 _ _ _ _ dX4_isOf_25 rfl (congrArg (fun x => (x, u)) hE)
theorem c_m_isOf (l : Launch) (D : va_G) (z : Nat → ClassId) (a : Nat → Nat) (u : St) (x0 : Int32) (x1 : Int32) (x2 : Int32) : CtI l yX4_isOf (.code yX4_isOf cX4_isOf 3 (some .boolean) :: TT) rm_m_isOf D clA (tyl z) (rW z a) [.int x0, .int x1, .int x2] u (f_m_isOf x0 x1 x2) u :=
  jk_metI (own := RX4) (by decide) rfl (Nat.le_of_ble_eq_true rfl) (fun _ _ _ _ _ _ _ _ _ _ _ B => w_m_isOf_0 B x0 x1 x2 rfl)
def rm_m_exchange : Room := { frames := 1, cells := 0, slots := 0, locals := 22 }
def f_m_exchange (u : St) (x0 : Int32) (x1 : Int32) : Int32 × St := (if x0 < (0 : Int32) then ((0 : Int32), (up2 u 0 0 (0 : Int32))) else (if (1 : Int32) < x0 then ((0 : Int32), (up2 u 0 0 (0 : Int32))) else (if x1 < (0 : Int32) then ((0 : Int32), (up2 u 0 0 (0 : Int32))) else (if (1 : Int32) < x1 then ((0 : Int32), (up2 u 0 0 (0 : Int32))) else (if (f_m_isOf ((up2 u 0 0 (0 : Int32)) 11 (x0.toNatClampNeg)) x0 x1) = (0 : Int32) then (if (f_m_isOf ((up2 u 0 0 (0 : Int32)) 12 (x0.toNatClampNeg)) x0 x1) = (0 : Int32) then (if ((up2 u 0 0 (0 : Int32)) 10 ((((2 : Int32) * x0) + x1).toNatClampNeg)) = (0 : Int32) then ((1 : Int32), (up2 (up2 u 0 0 (0 : Int32)) 10 ((((2 : Int32) * x0) + x1).toNatClampNeg) (1 : Int32))) else ((1 : Int32), (up2 (up2 u 0 0 (0 : Int32)) 10 ((((2 : Int32) * x0) + x1).toNatClampNeg) (0 : Int32)))) else ((0 : Int32), (up2 u 0 0 (0 : Int32)))) else ((0 : Int32), (up2 u 0 0 (0 : Int32))))))))
def g_m_exchange (u : St) (x0 : Int32) (x1 : Int32) : Prop := ((x0 < (0 : Int32) → True) ∧ (¬ x0 < (0 : Int32) → (((1 : Int32) < x0 → True) ∧ (¬ (1 : Int32) < x0 → ((x1 < (0 : Int32) → True) ∧ (¬ x1 < (0 : Int32) → (((1 : Int32) < x1 → True) ∧ (¬ (1 : Int32) < x1 → ((vp_in x0 2) ∧ (((f_m_isOf ((up2 u 0 0 (0 : Int32)) 11 (x0.toNatClampNeg)) x0 x1) = (0 : Int32) → (((f_m_isOf ((up2 u 0 0 (0 : Int32)) 12 (x0.toNatClampNeg)) x0 x1) = (0 : Int32) → (vp_in (((2 : Int32) * x0) + x1) 4)) ∧ (¬ (f_m_isOf ((up2 u 0 0 (0 : Int32)) 12 (x0.toNatClampNeg)) x0 x1) = (0 : Int32) → True))) ∧ (¬ (f_m_isOf ((up2 u 0 0 (0 : Int32)) 11 (x0.toNatClampNeg)) x0 x1) = (0 : Int32) → True)))))))))))
set_option maxRecDepth 20000 in
set_option maxHeartbeats 1000000 in
theorem w_m_exchange_0 {F : Int32 × St} {u : St} (B : jk_BI p l e R s m args below meth c cX4_exchange 4 RX4 TT .int D clA (tyl z) (rW z a) A Q rm_m_exchange F) (x0 : Int32) (x1 : Int32) (hE : f_m_exchange u x0 x1 = F) (hG : g_m_exchange u x0 x1) : JJ p l e R s m args below meth c 0 0 4 D clA (rW z a) A Q 0 [(0, .ref (a 0)), (1, .int x0), (2, .int x1)] u [] := by
  have C := B.1
  unfold f_m_exchange at hE
  unfold g_m_exchange at hG
  refine j_aload_n C 0 dX4_exchange_0 rfl ?_
  refine j_iconst C 0 dX4_exchange_1 ic_0 ?_
  refine j_put C kf_4 0 pl_md 0 (by decide) lk_4_71 rfl rfl rfl (Nat.le_of_ble_eq_true rfl) pu_md_thrown dX4_exchange_2 ?_
  refine j_iload_n C 1 dX4_exchange_5 rfl ?_
  refine j_if_lt C 27 dX4_exchange_6 (by decide) (fun c1 => ?_) (fun c1 => ?_)
  · have hE := (if_pos c1).symm.trans hE
    refine j_iconst C 0 dX4_exchange_27 ic_0 ?_
    refine j_istore_n C dX4_exchange_28 (by decide) rfl ?_
    refine j_iload_n C 0 dX4_exchange_29 rfl ?_
    refine j_if_eq C 61 dX4_exchange_30 (by decide) (fun _ => ?_) (fun hq => False.elim (by revert hq; decide))
    refine j_iconst C 0 dX4_exchange_61 ic_0 ?_
    exact B.2.2 _ _ _ _ dX4_exchange_62 rfl hE
  · have hE := (if_neg c1).symm.trans hE
    have hG := hG.2 c1
    refine j_iload_n C 1 dX4_exchange_9 rfl ?_
    refine j_iconst C 1 dX4_exchange_10 ic_1 ?_
    refine j_icmp_gt C 27 dX4_exchange_11 (by decide) (fun c2 => ?_) (fun c2 => ?_)
    · have hE := (if_pos c2).symm.trans hE
      refine j_iconst C 0 dX4_exchange_27 ic_0 ?_
      refine j_istore_n C dX4_exchange_28 (by decide) rfl ?_
      refine j_iload_n C 0 dX4_exchange_29 rfl ?_
      refine j_if_eq C 61 dX4_exchange_30 (by decide) (fun _ => ?_) (fun hq => False.elim (by revert hq; decide))
      refine j_iconst C 0 dX4_exchange_61 ic_0 ?_
      exact B.2.2 _ _ _ _ dX4_exchange_62 rfl hE
    · have hE := (if_neg c2).symm.trans hE
      have hG := hG.2 c2
      refine j_iload_n C 2 dX4_exchange_14 rfl ?_
      refine j_if_lt C 27 dX4_exchange_15 (by decide) (fun c3 => ?_) (fun c3 => ?_)
      · have hE := (if_pos c3).symm.trans hE
        refine j_iconst C 0 dX4_exchange_27 ic_0 ?_
        refine j_istore_n C dX4_exchange_28 (by decide) rfl ?_
        refine j_iload_n C 0 dX4_exchange_29 rfl ?_
        refine j_if_eq C 61 dX4_exchange_30 (by decide) (fun _ => ?_) (fun hq => False.elim (by revert hq; decide))
        refine j_iconst C 0 dX4_exchange_61 ic_0 ?_
        exact B.2.2 _ _ _ _ dX4_exchange_62 rfl hE
      · have hE := (if_neg c3).symm.trans hE
        have hG := hG.2 c3
        refine j_iload_n C 2 dX4_exchange_18 rfl ?_
        refine j_iconst C 1 dX4_exchange_19 ic_1 ?_
        refine j_icmp_gt C 27 dX4_exchange_20 (by decide) (fun c4 => ?_) (fun c4 => ?_)
        · have hE := (if_pos c4).symm.trans hE
          refine j_iconst C 0 dX4_exchange_27 ic_0 ?_
          refine j_istore_n C dX4_exchange_28 (by decide) rfl ?_
          refine j_iload_n C 0 dX4_exchange_29 rfl ?_
          refine j_if_eq C 61 dX4_exchange_30 (by decide) (fun _ => ?_) (fun hq => False.elim (by revert hq; decide))
          refine j_iconst C 0 dX4_exchange_61 ic_0 ?_
          exact B.2.2 _ _ _ _ dX4_exchange_62 rfl hE
        · have hE := (if_neg c4).symm.trans hE
          have hG := hG.2 c4
          refine j_iconst C 1 dX4_exchange_23 ic_1 ?_
          refine j_goto C 28 dX4_exchange_24 (by decide) ?_
          refine j_istore_n C dX4_exchange_28 (by decide) rfl ?_
          refine j_iload_n C 0 dX4_exchange_29 rfl ?_
          refine j_if_eq C 61 dX4_exchange_30 (by decide) (fun hq => False.elim (by revert hq; decide)) (fun _ => ?_)
          refine j_aload_n C 1 dX4_exchange_33 rfl ?_
          refine j_get C kf_4 0 pl_md 11 (by decide) lk_4_41 rfl dX4_exchange_34 ?_
          refine j_iload_n C 2 dX4_exchange_37 rfl ?_
          obtain ⟨hv5, hG⟩ := hG
          have lhv5 := jk_lt hv5
          refine j_iald C 11 0 pl_a_now rfl (x0.toNatClampNeg) (jk_self hv5 (by decide)) (jk_lt hv5) (by decide) dX4_exchange_38 ?_
          refine j_iload_n C 2 dX4_exchange_39 rfl ?_
          refine j_iload_n C 3 dX4_exchange_40 rfl ?_
          refine j_cIS C B.2.1 (c_m_isOf l D z a (up2 u 0 0 (0 : Int32)) ((up2 u 0 0 (0 : Int32)) 11 (x0.toNatClampNeg)) x0 x1) gv_4_89 dd_m_isOf ⟨⟨rfl, rfl⟩, Nat.le_of_ble_eq_true rfl, Nat.le_of_ble_eq_true rfl⟩ rfl rfl (Nat.le_of_ble_eq_true rfl) dX4_exchange_41 ?_
          refine j_if_ne C 61 dX4_exchange_44 (by decide) (fun c6 => ?_) (fun c6 => ?_)
          · have hE := (if_neg c6).symm.trans hE
            refine j_iconst C 0 dX4_exchange_61 ic_0 ?_
            exact B.2.2 _ _ _ _ dX4_exchange_62 rfl hE
          · have hE := (if_pos c6).symm.trans hE
            have hG := hG.1 c6
            refine j_aload_n C 1 dX4_exchange_47 rfl ?_
            refine j_get C kf_4 0 pl_md 12 (by decide) lk_4_44 rfl dX4_exchange_48 ?_
            refine j_iload_n C 2 dX4_exchange_51 rfl ?_
            refine j_iald C 12 0 pl_a_next rfl (x0.toNatClampNeg) (jk_self hv5 (by decide)) (jk_lt hv5) (by decide) dX4_exchange_52 ?_
            refine j_iload_n C 2 dX4_exchange_53 rfl ?_
            refine j_iload_n C 3 dX4_exchange_54 rfl ?_
            refine j_cIS C B.2.1 (c_m_isOf l D z a (up2 u 0 0 (0 : Int32)) ((up2 u 0 0 (0 : Int32)) 12 (x0.toNatClampNeg)) x0 x1) gv_4_89 dd_m_isOf ⟨⟨rfl, rfl⟩, Nat.le_of_ble_eq_true rfl, Nat.le_of_ble_eq_true rfl⟩ rfl rfl (Nat.le_of_ble_eq_true rfl) dX4_exchange_55 ?_
            refine j_if_eq C 63 dX4_exchange_58 (by decide) (fun c7 => ?_) (fun c7 => ?_)
            · have hE := (if_pos c7).symm.trans hE
              have hG := hG.1 c7
              refine j_aload_n C 1 dX4_exchange_63 rfl ?_
              refine j_get C kf_4 0 pl_md 10 (by decide) lk_4_38 rfl dX4_exchange_64 ?_
              refine j_iconst C 2 dX4_exchange_67 ic_2 ?_
              refine j_iload_n C 2 dX4_exchange_68 rfl ?_
              refine j_imul C dX4_exchange_69 ?_
              refine j_iload_n C 3 dX4_exchange_70 rfl ?_
              refine j_iadd C dX4_exchange_71 ?_
              refine j_aload_n C 1 dX4_exchange_72 rfl ?_
              refine j_get C kf_4 0 pl_md 10 (by decide) lk_4_38 rfl dX4_exchange_73 ?_
              refine j_iconst C 2 dX4_exchange_76 ic_2 ?_
              refine j_iload_n C 2 dX4_exchange_77 rfl ?_
              refine j_imul C dX4_exchange_78 ?_
              refine j_iload_n C 3 dX4_exchange_79 rfl ?_
              refine j_iadd C dX4_exchange_80 ?_
              have hv8 := hG
              have lhv8 := jk_lt hv8
              refine j_zald C 10 1 pl_a_exchanged rfl ((((2 : Int32) * x0) + x1).toNatClampNeg) (jk_self hv8 (by decide)) (jk_lt hv8) (by decide) dX4_exchange_81 ?_
              refine j_if_ne C 89 dX4_exchange_82 (by decide) (fun c9 => ?_) (fun c9 => ?_)
              · have hE := (if_neg c9).symm.trans hE
                refine j_iconst C 0 dX4_exchange_89 ic_0 ?_
                refine j_zast C 10 1 pl_a_exchanged rfl ((((2 : Int32) * x0) + x1).toNatClampNeg) (jk_self hv8 (by decide)) (jk_lt hv8) (by decide) rfl pu_a_exchanged dX4_exchange_90 ?_
                refine j_iconst C 1 dX4_exchange_91 ic_1 ?_
                exact B.2.2 _ _ _ _ dX4_exchange_92 rfl hE
              · have hE := (if_pos c9).symm.trans hE
                refine j_iconst C 1 dX4_exchange_85 ic_1 ?_
                refine j_goto C 90 dX4_exchange_86 (by decide) ?_
                refine j_zast C 10 1 pl_a_exchanged rfl ((((2 : Int32) * x0) + x1).toNatClampNeg) (jk_self hv8 (by decide)) (jk_lt hv8) (by decide) rfl pu_a_exchanged dX4_exchange_90 ?_
                refine j_iconst C 1 dX4_exchange_91 ic_1 ?_
                exact B.2.2 _ _ _ _ dX4_exchange_92 rfl hE
            · have hE := (if_neg c7).symm.trans hE
              refine j_iconst C 0 dX4_exchange_61 ic_0 ?_
              exact B.2.2 _ _ _ _ dX4_exchange_62 rfl hE
theorem c_m_exchange (l : Launch) (D : va_G) (z : Nat → ClassId) (a : Nat → Nat) (u : St) (x0 : Int32) (x1 : Int32) (hG : g_m_exchange u x0 x1) : CtI l yX4_exchange (.code yX4_exchange cX4_exchange 4 (some .int) :: TT) rm_m_exchange D clA (tyl z) (rW z a) [.ref (a 0), .int x0, .int x1] u (f_m_exchange u x0 x1).1 (f_m_exchange u x0 x1).2 :=
  jk_metI (own := RX4) (by decide) rfl (Nat.le_of_ble_eq_true rfl) (fun _ _ _ _ _ _ _ _ _ _ _ B => w_m_exchange_0 B x0 x1 rfl hG)
def rm_m_car : Room := { frames := 1, cells := 0, slots := 0, locals := 22 }
def f_m_car (u : St) (x0 : Int32) (x1 : Int32) : Int32 × St := (if (f_m_isMovement x0) = (0 : Int32) then ((0 : Int32), (up2 u 0 0 (0 : Int32))) else (if x1 < (0 : Int32) then ((0 : Int32), (up2 u 0 0 (0 : Int32))) else (if (1 : Int32) < x1 then ((0 : Int32), (up2 u 0 0 (0 : Int32))) else (if x1 = (1 : Int32) then (if ((up2 u 0 0 (0 : Int32)) 3 (x0.toNatClampNeg)) = (1 : Int32) then ((0 : Int32), (up2 u 0 0 (0 : Int32))) else (if x1 = (1 : Int32) then (if ((up2 (up2 u 0 0 (0 : Int32)) 3 (x0.toNatClampNeg) (1 : Int32)) 5 (x0.toNatClampNeg)) = (0 : Int32) then (if x1 = (1 : Int32) then (if (f_m_isGreen (up2 (up2 u 0 0 (0 : Int32)) 3 (x0.toNatClampNeg) (1 : Int32)) (x0.toNatClampNeg)) = (0 : Int32) then (if (f_m_has (up2 (up2 u 0 0 (0 : Int32)) 3 (x0.toNatClampNeg) (1 : Int32)) (x0.toNatClampNeg) (2 : Int32)) = (0 : Int32) then ((1 : Int32), (up2 (up2 (up2 u 0 0 (0 : Int32)) 3 (x0.toNatClampNeg) (1 : Int32)) 5 (x0.toNatClampNeg) (0 : Int32))) else ((1 : Int32), (up2 (up2 (up2 u 0 0 (0 : Int32)) 3 (x0.toNatClampNeg) (1 : Int32)) 5 (x0.toNatClampNeg) (1 : Int32)))) else ((1 : Int32), (up2 (up2 (up2 u 0 0 (0 : Int32)) 3 (x0.toNatClampNeg) (1 : Int32)) 5 (x0.toNatClampNeg) (0 : Int32)))) else ((1 : Int32), (up2 (up2 (up2 u 0 0 (0 : Int32)) 3 (x0.toNatClampNeg) (1 : Int32)) 5 (x0.toNatClampNeg) (0 : Int32)))) else ((1 : Int32), (up2 (up2 (up2 u 0 0 (0 : Int32)) 3 (x0.toNatClampNeg) (1 : Int32)) 5 (x0.toNatClampNeg) (1 : Int32)))) else (if ((up2 (up2 u 0 0 (0 : Int32)) 3 (x0.toNatClampNeg) (0 : Int32)) 5 (x0.toNatClampNeg)) = (0 : Int32) then (if x1 = (1 : Int32) then (if (f_m_isGreen (up2 (up2 u 0 0 (0 : Int32)) 3 (x0.toNatClampNeg) (0 : Int32)) (x0.toNatClampNeg)) = (0 : Int32) then (if (f_m_has (up2 (up2 u 0 0 (0 : Int32)) 3 (x0.toNatClampNeg) (0 : Int32)) (x0.toNatClampNeg) (2 : Int32)) = (0 : Int32) then ((1 : Int32), (up2 (up2 (up2 u 0 0 (0 : Int32)) 3 (x0.toNatClampNeg) (0 : Int32)) 5 (x0.toNatClampNeg) (0 : Int32))) else ((1 : Int32), (up2 (up2 (up2 u 0 0 (0 : Int32)) 3 (x0.toNatClampNeg) (0 : Int32)) 5 (x0.toNatClampNeg) (1 : Int32)))) else ((1 : Int32), (up2 (up2 (up2 u 0 0 (0 : Int32)) 3 (x0.toNatClampNeg) (0 : Int32)) 5 (x0.toNatClampNeg) (0 : Int32)))) else ((1 : Int32), (up2 (up2 (up2 u 0 0 (0 : Int32)) 3 (x0.toNatClampNeg) (0 : Int32)) 5 (x0.toNatClampNeg) (0 : Int32)))) else ((1 : Int32), (up2 (up2 (up2 u 0 0 (0 : Int32)) 3 (x0.toNatClampNeg) (0 : Int32)) 5 (x0.toNatClampNeg) (1 : Int32)))))) else (if ((up2 u 0 0 (0 : Int32)) 3 (x0.toNatClampNeg)) = (0 : Int32) then ((0 : Int32), (up2 u 0 0 (0 : Int32))) else (if x1 = (1 : Int32) then (if ((up2 (up2 u 0 0 (0 : Int32)) 3 (x0.toNatClampNeg) (1 : Int32)) 5 (x0.toNatClampNeg)) = (0 : Int32) then (if x1 = (1 : Int32) then (if (f_m_isGreen (up2 (up2 u 0 0 (0 : Int32)) 3 (x0.toNatClampNeg) (1 : Int32)) (x0.toNatClampNeg)) = (0 : Int32) then (if (f_m_has (up2 (up2 u 0 0 (0 : Int32)) 3 (x0.toNatClampNeg) (1 : Int32)) (x0.toNatClampNeg) (2 : Int32)) = (0 : Int32) then ((1 : Int32), (up2 (up2 (up2 u 0 0 (0 : Int32)) 3 (x0.toNatClampNeg) (1 : Int32)) 5 (x0.toNatClampNeg) (0 : Int32))) else ((1 : Int32), (up2 (up2 (up2 u 0 0 (0 : Int32)) 3 (x0.toNatClampNeg) (1 : Int32)) 5 (x0.toNatClampNeg) (1 : Int32)))) else ((1 : Int32), (up2 (up2 (up2 u 0 0 (0 : Int32)) 3 (x0.toNatClampNeg) (1 : Int32)) 5 (x0.toNatClampNeg) (0 : Int32)))) else ((1 : Int32), (up2 (up2 (up2 u 0 0 (0 : Int32)) 3 (x0.toNatClampNeg) (1 : Int32)) 5 (x0.toNatClampNeg) (0 : Int32)))) else ((1 : Int32), (up2 (up2 (up2 u 0 0 (0 : Int32)) 3 (x0.toNatClampNeg) (1 : Int32)) 5 (x0.toNatClampNeg) (1 : Int32)))) else (if ((up2 (up2 u 0 0 (0 : Int32)) 3 (x0.toNatClampNeg) (0 : Int32)) 5 (x0.toNatClampNeg)) = (0 : Int32) then (if x1 = (1 : Int32) then (if (f_m_isGreen (up2 (up2 u 0 0 (0 : Int32)) 3 (x0.toNatClampNeg) (0 : Int32)) (x0.toNatClampNeg)) = (0 : Int32) then (if (f_m_has (up2 (up2 u 0 0 (0 : Int32)) 3 (x0.toNatClampNeg) (0 : Int32)) (x0.toNatClampNeg) (2 : Int32)) = (0 : Int32) then ((1 : Int32), (up2 (up2 (up2 u 0 0 (0 : Int32)) 3 (x0.toNatClampNeg) (0 : Int32)) 5 (x0.toNatClampNeg) (0 : Int32))) else ((1 : Int32), (up2 (up2 (up2 u 0 0 (0 : Int32)) 3 (x0.toNatClampNeg) (0 : Int32)) 5 (x0.toNatClampNeg) (1 : Int32)))) else ((1 : Int32), (up2 (up2 (up2 u 0 0 (0 : Int32)) 3 (x0.toNatClampNeg) (0 : Int32)) 5 (x0.toNatClampNeg) (0 : Int32)))) else ((1 : Int32), (up2 (up2 (up2 u 0 0 (0 : Int32)) 3 (x0.toNatClampNeg) (0 : Int32)) 5 (x0.toNatClampNeg) (0 : Int32)))) else ((1 : Int32), (up2 (up2 (up2 u 0 0 (0 : Int32)) 3 (x0.toNatClampNeg) (0 : Int32)) 5 (x0.toNatClampNeg) (1 : Int32))))))))))
def g_m_car (u : St) (x0 : Int32) (x1 : Int32) : Prop := (((f_m_isMovement x0) = (0 : Int32) → True) ∧ (¬ (f_m_isMovement x0) = (0 : Int32) → ((x1 < (0 : Int32) → True) ∧ (¬ x1 < (0 : Int32) → (((1 : Int32) < x1 → True) ∧ (¬ (1 : Int32) < x1 → (vp_in x0 8)))))))
set_option maxRecDepth 20000 in
set_option maxHeartbeats 1000000 in
theorem w_m_car_0 {F : Int32 × St} {u : St} (B : jk_BI p l e R s m args below meth c cX4_car 3 RX4 TT .int D clA (tyl z) (rW z a) A Q rm_m_car F) (x0 : Int32) (x1 : Int32) (hE : f_m_car u x0 x1 = F) (hG : g_m_car u x0 x1) : JJ p l e R s m args below meth c 0 0 3 D clA (rW z a) A Q 0 [(0, .ref (a 0)), (1, .int x0), (2, .int x1)] u [] := by
  have C := B.1
  unfold f_m_car at hE
  unfold g_m_car at hG
  refine j_aload_n C 0 dX4_car_0 rfl ?_
  refine j_iconst C 0 dX4_car_1 ic_0 ?_
  refine j_put C kf_4 0 pl_md 0 (by decide) lk_4_71 rfl rfl rfl (Nat.le_of_ble_eq_true rfl) pu_md_thrown dX4_car_2 ?_
  refine j_iload_n C 1 dX4_car_5 rfl ?_
  refine j_cIS C B.2.1 (c_m_isMovement l D z a (up2 u 0 0 (0 : Int32)) x0) gv_4_83 dd_m_isMovement ⟨⟨rfl, rfl⟩, Nat.le_of_ble_eq_true rfl, Nat.le_of_ble_eq_true rfl⟩ rfl rfl (Nat.le_of_ble_eq_true rfl) dX4_car_6 ?_
  refine j_if_eq C 40 dX4_car_9 (by decide) (fun c1 => ?_) (fun c1 => ?_)
  · have hE := (if_pos c1).symm.trans hE
    refine j_iconst C 0 dX4_car_40 ic_0 ?_
    exact B.2.2 _ _ _ _ dX4_car_41 rfl hE
  · have hE := (if_neg c1).symm.trans hE
    have hG := hG.2 c1
    refine j_iload_n C 2 dX4_car_12 rfl ?_
    refine j_if_lt C 40 dX4_car_13 (by decide) (fun c2 => ?_) (fun c2 => ?_)
    · have hE := (if_pos c2).symm.trans hE
      refine j_iconst C 0 dX4_car_40 ic_0 ?_
      exact B.2.2 _ _ _ _ dX4_car_41 rfl hE
    · have hE := (if_neg c2).symm.trans hE
      have hG := hG.2 c2
      refine j_iload_n C 2 dX4_car_16 rfl ?_
      refine j_iconst C 1 dX4_car_17 ic_1 ?_
      refine j_icmp_gt C 40 dX4_car_18 (by decide) (fun c3 => ?_) (fun c3 => ?_)
      · have hE := (if_pos c3).symm.trans hE
        refine j_iconst C 0 dX4_car_40 ic_0 ?_
        exact B.2.2 _ _ _ _ dX4_car_41 rfl hE
      · have hE := (if_neg c3).symm.trans hE
        have hG := hG.2 c3
        refine j_aload_n C 0 dX4_car_21 rfl ?_
        refine j_get C kf_4 0 pl_md 3 (by decide) lk_4_16 rfl dX4_car_22 ?_
        refine j_iload_n C 1 dX4_car_25 rfl ?_
        have hv4 := hG
        have lhv4 := jk_lt hv4
        refine j_zald C 3 1 pl_a_cars rfl (x0.toNatClampNeg) (jk_self hv4 (by decide)) (jk_lt hv4) (by decide) dX4_car_26 ?_
        refine j_iload_n C 2 dX4_car_27 rfl ?_
        refine j_iconst C 1 dX4_car_28 ic_1 ?_
        refine j_icmp_ne C 36 dX4_car_29 (by decide) (fun c5 => ?_) (fun c5 => ?_)
        · have hE := (if_neg c5).symm.trans hE
          refine j_iconst C 0 dX4_car_36 ic_0 ?_
          refine j_icmp_ne C 42 dX4_car_37 (by decide) (fun c6 => ?_) (fun c6 => ?_)
          · have hE := (if_neg c6).symm.trans hE
            refine j_aload_n C 0 dX4_car_42 rfl ?_
            refine j_get C kf_4 0 pl_md 3 (by decide) lk_4_16 rfl dX4_car_43 ?_
            refine j_iload_n C 1 dX4_car_46 rfl ?_
            refine j_iload_n C 2 dX4_car_47 rfl ?_
            refine j_iconst C 1 dX4_car_48 ic_1 ?_
            refine j_icmp_ne C 56 dX4_car_49 (by decide) (fun c7 => ?_) (fun c7 => ?_)
            · have hE := (if_neg c7).symm.trans hE
              refine j_iconst C 0 dX4_car_56 ic_0 ?_
              refine j_zast C 3 1 pl_a_cars rfl (x0.toNatClampNeg) (jk_self hv4 (by decide)) (jk_lt hv4) (by decide) rfl pu_a_cars dX4_car_57 ?_
              refine j_aload_n C 0 dX4_car_58 rfl ?_
              refine j_get C kf_4 0 pl_md 5 (by decide) lk_4_23 rfl dX4_car_59 ?_
              refine j_iload_n C 1 dX4_car_62 rfl ?_
              refine j_aload_n C 0 dX4_car_63 rfl ?_
              refine j_get C kf_4 0 pl_md 5 (by decide) lk_4_23 rfl dX4_car_64 ?_
              refine j_iload_n C 1 dX4_car_67 rfl ?_
              refine j_zald C 5 1 pl_a_remembered rfl (x0.toNatClampNeg) (jk_self hv4 (by decide)) (jk_lt hv4) (by decide) dX4_car_68 ?_
              refine j_if_ne C 94 dX4_car_69 (by decide) (fun c8 => ?_) (fun c8 => ?_)
              · have hE := (if_neg c8).symm.trans hE
                refine j_iconst C 1 dX4_car_94 ic_1 ?_
                refine j_goto C 99 dX4_car_95 (by decide) ?_
                refine j_zast C 5 1 pl_a_remembered rfl (x0.toNatClampNeg) (jk_self hv4 (by decide)) (jk_lt hv4) (by decide) rfl pu_a_remembered dX4_car_99 ?_
                refine j_iconst C 1 dX4_car_100 ic_1 ?_
                exact B.2.2 _ _ _ _ dX4_car_101 rfl hE
              · have hE := (if_pos c8).symm.trans hE
                refine j_iload_n C 2 dX4_car_72 rfl ?_
                refine j_iconst C 1 dX4_car_73 ic_1 ?_
                refine j_icmp_ne C 98 dX4_car_74 (by decide) (fun c9 => ?_) (fun c9 => ?_)
                · have hE := (if_neg c9).symm.trans hE
                  refine j_iconst C 0 dX4_car_98 ic_0 ?_
                  refine j_zast C 5 1 pl_a_remembered rfl (x0.toNatClampNeg) (jk_self hv4 (by decide)) (jk_lt hv4) (by decide) rfl pu_a_remembered dX4_car_99 ?_
                  refine j_iconst C 1 dX4_car_100 ic_1 ?_
                  exact B.2.2 _ _ _ _ dX4_car_101 rfl hE
                · have hE := (if_pos c9).symm.trans hE
                  refine j_aload_n C 0 dX4_car_77 rfl ?_
                  refine j_iload_n C 1 dX4_car_78 rfl ?_
                  refine j_st (st' := [.int (nI (x0.toNatClampNeg)), .ref (a 0), .int x0, .ref (a 5)]) (congrArg (fun x => ([.int x, .ref (a 0), .int x0, .ref (a 5)] : List Value)) (jk_self hv4 (by decide))) ?_
                  refine j_cIV C B.2.1 (c_m_isGreen l D z a (up2 (up2 u 0 0 (0 : Int32)) 3 (x0.toNatClampNeg) (0 : Int32)) (x0.toNatClampNeg) (jk_lt hv4)) gv_4_79 dd_m_isGreen ⟨⟨rfl, rfl⟩, Nat.le_of_ble_eq_true rfl, Nat.le_of_ble_eq_true rfl⟩ 0 4 pl_md rfl rfl rfl rfl (Nat.le_of_ble_eq_true rfl) dX4_car_79 ?_
                  refine j_if_ne C 98 dX4_car_82 (by decide) (fun c10 => ?_) (fun c10 => ?_)
                  · have hE := (if_neg c10).symm.trans hE
                    refine j_iconst C 0 dX4_car_98 ic_0 ?_
                    refine j_zast C 5 1 pl_a_remembered rfl (x0.toNatClampNeg) (jk_self hv4 (by decide)) (jk_lt hv4) (by decide) rfl pu_a_remembered dX4_car_99 ?_
                    refine j_iconst C 1 dX4_car_100 ic_1 ?_
                    exact B.2.2 _ _ _ _ dX4_car_101 rfl hE
                  · have hE := (if_pos c10).symm.trans hE
                    refine j_aload_n C 0 dX4_car_85 rfl ?_
                    refine j_iload_n C 1 dX4_car_86 rfl ?_
                    refine j_iconst C 2 dX4_car_87 ic_2 ?_
                    refine j_st (st' := [.int 2, .int (nI (x0.toNatClampNeg)), .ref (a 0), .int x0, .ref (a 5)]) (congrArg (fun x => ([.int 2, .int x, .ref (a 0), .int x0, .ref (a 5)] : List Value)) (jk_self hv4 (by decide))) ?_
                    refine j_cIV C B.2.1 (c_m_has l D z a (up2 (up2 u 0 0 (0 : Int32)) 3 (x0.toNatClampNeg) (0 : Int32)) (x0.toNatClampNeg) (2 : Int32) (jk_lt hv4)) gv_4_75 dd_m_has ⟨⟨rfl, rfl⟩, Nat.le_of_ble_eq_true rfl, Nat.le_of_ble_eq_true rfl⟩ 0 4 pl_md rfl rfl rfl rfl (Nat.le_of_ble_eq_true rfl) dX4_car_88 ?_
                    refine j_if_eq C 98 dX4_car_91 (by decide) (fun c11 => ?_) (fun c11 => ?_)
                    · have hE := (if_pos c11).symm.trans hE
                      refine j_iconst C 0 dX4_car_98 ic_0 ?_
                      refine j_zast C 5 1 pl_a_remembered rfl (x0.toNatClampNeg) (jk_self hv4 (by decide)) (jk_lt hv4) (by decide) rfl pu_a_remembered dX4_car_99 ?_
                      refine j_iconst C 1 dX4_car_100 ic_1 ?_
                      exact B.2.2 _ _ _ _ dX4_car_101 rfl hE
                    · have hE := (if_neg c11).symm.trans hE
                      refine j_iconst C 1 dX4_car_94 ic_1 ?_
                      refine j_goto C 99 dX4_car_95 (by decide) ?_
                      refine j_zast C 5 1 pl_a_remembered rfl (x0.toNatClampNeg) (jk_self hv4 (by decide)) (jk_lt hv4) (by decide) rfl pu_a_remembered dX4_car_99 ?_
                      refine j_iconst C 1 dX4_car_100 ic_1 ?_
                      exact B.2.2 _ _ _ _ dX4_car_101 rfl hE
            · have hE := (if_pos c7).symm.trans hE
              refine j_iconst C 1 dX4_car_52 ic_1 ?_
              refine j_goto C 57 dX4_car_53 (by decide) ?_
              refine j_zast C 3 1 pl_a_cars rfl (x0.toNatClampNeg) (jk_self hv4 (by decide)) (jk_lt hv4) (by decide) rfl pu_a_cars dX4_car_57 ?_
              refine j_aload_n C 0 dX4_car_58 rfl ?_
              refine j_get C kf_4 0 pl_md 5 (by decide) lk_4_23 rfl dX4_car_59 ?_
              refine j_iload_n C 1 dX4_car_62 rfl ?_
              refine j_aload_n C 0 dX4_car_63 rfl ?_
              refine j_get C kf_4 0 pl_md 5 (by decide) lk_4_23 rfl dX4_car_64 ?_
              refine j_iload_n C 1 dX4_car_67 rfl ?_
              refine j_zald C 5 1 pl_a_remembered rfl (x0.toNatClampNeg) (jk_self hv4 (by decide)) (jk_lt hv4) (by decide) dX4_car_68 ?_
              refine j_if_ne C 94 dX4_car_69 (by decide) (fun c12 => ?_) (fun c12 => ?_)
              · have hE := (if_neg c12).symm.trans hE
                refine j_iconst C 1 dX4_car_94 ic_1 ?_
                refine j_goto C 99 dX4_car_95 (by decide) ?_
                refine j_zast C 5 1 pl_a_remembered rfl (x0.toNatClampNeg) (jk_self hv4 (by decide)) (jk_lt hv4) (by decide) rfl pu_a_remembered dX4_car_99 ?_
                refine j_iconst C 1 dX4_car_100 ic_1 ?_
                exact B.2.2 _ _ _ _ dX4_car_101 rfl hE
              · have hE := (if_pos c12).symm.trans hE
                refine j_iload_n C 2 dX4_car_72 rfl ?_
                refine j_iconst C 1 dX4_car_73 ic_1 ?_
                refine j_icmp_ne C 98 dX4_car_74 (by decide) (fun c13 => ?_) (fun c13 => ?_)
                · have hE := (if_neg c13).symm.trans hE
                  refine j_iconst C 0 dX4_car_98 ic_0 ?_
                  refine j_zast C 5 1 pl_a_remembered rfl (x0.toNatClampNeg) (jk_self hv4 (by decide)) (jk_lt hv4) (by decide) rfl pu_a_remembered dX4_car_99 ?_
                  refine j_iconst C 1 dX4_car_100 ic_1 ?_
                  exact B.2.2 _ _ _ _ dX4_car_101 rfl hE
                · have hE := (if_pos c13).symm.trans hE
                  refine j_aload_n C 0 dX4_car_77 rfl ?_
                  refine j_iload_n C 1 dX4_car_78 rfl ?_
                  refine j_st (st' := [.int (nI (x0.toNatClampNeg)), .ref (a 0), .int x0, .ref (a 5)]) (congrArg (fun x => ([.int x, .ref (a 0), .int x0, .ref (a 5)] : List Value)) (jk_self hv4 (by decide))) ?_
                  refine j_cIV C B.2.1 (c_m_isGreen l D z a (up2 (up2 u 0 0 (0 : Int32)) 3 (x0.toNatClampNeg) (1 : Int32)) (x0.toNatClampNeg) (jk_lt hv4)) gv_4_79 dd_m_isGreen ⟨⟨rfl, rfl⟩, Nat.le_of_ble_eq_true rfl, Nat.le_of_ble_eq_true rfl⟩ 0 4 pl_md rfl rfl rfl rfl (Nat.le_of_ble_eq_true rfl) dX4_car_79 ?_
                  refine j_if_ne C 98 dX4_car_82 (by decide) (fun c14 => ?_) (fun c14 => ?_)
                  · have hE := (if_neg c14).symm.trans hE
                    refine j_iconst C 0 dX4_car_98 ic_0 ?_
                    refine j_zast C 5 1 pl_a_remembered rfl (x0.toNatClampNeg) (jk_self hv4 (by decide)) (jk_lt hv4) (by decide) rfl pu_a_remembered dX4_car_99 ?_
                    refine j_iconst C 1 dX4_car_100 ic_1 ?_
                    exact B.2.2 _ _ _ _ dX4_car_101 rfl hE
                  · have hE := (if_pos c14).symm.trans hE
                    refine j_aload_n C 0 dX4_car_85 rfl ?_
                    refine j_iload_n C 1 dX4_car_86 rfl ?_
                    refine j_iconst C 2 dX4_car_87 ic_2 ?_
                    refine j_st (st' := [.int 2, .int (nI (x0.toNatClampNeg)), .ref (a 0), .int x0, .ref (a 5)]) (congrArg (fun x => ([.int 2, .int x, .ref (a 0), .int x0, .ref (a 5)] : List Value)) (jk_self hv4 (by decide))) ?_
                    refine j_cIV C B.2.1 (c_m_has l D z a (up2 (up2 u 0 0 (0 : Int32)) 3 (x0.toNatClampNeg) (1 : Int32)) (x0.toNatClampNeg) (2 : Int32) (jk_lt hv4)) gv_4_75 dd_m_has ⟨⟨rfl, rfl⟩, Nat.le_of_ble_eq_true rfl, Nat.le_of_ble_eq_true rfl⟩ 0 4 pl_md rfl rfl rfl rfl (Nat.le_of_ble_eq_true rfl) dX4_car_88 ?_
                    refine j_if_eq C 98 dX4_car_91 (by decide) (fun c15 => ?_) (fun c15 => ?_)
                    · have hE := (if_pos c15).symm.trans hE
                      refine j_iconst C 0 dX4_car_98 ic_0 ?_
                      refine j_zast C 5 1 pl_a_remembered rfl (x0.toNatClampNeg) (jk_self hv4 (by decide)) (jk_lt hv4) (by decide) rfl pu_a_remembered dX4_car_99 ?_
                      refine j_iconst C 1 dX4_car_100 ic_1 ?_
                      exact B.2.2 _ _ _ _ dX4_car_101 rfl hE
                    · have hE := (if_neg c15).symm.trans hE
                      refine j_iconst C 1 dX4_car_94 ic_1 ?_
                      refine j_goto C 99 dX4_car_95 (by decide) ?_
                      refine j_zast C 5 1 pl_a_remembered rfl (x0.toNatClampNeg) (jk_self hv4 (by decide)) (jk_lt hv4) (by decide) rfl pu_a_remembered dX4_car_99 ?_
                      refine j_iconst C 1 dX4_car_100 ic_1 ?_
                      exact B.2.2 _ _ _ _ dX4_car_101 rfl hE
          · have hE := (if_pos c6).symm.trans hE
            refine j_iconst C 0 dX4_car_40 ic_0 ?_
            exact B.2.2 _ _ _ _ dX4_car_41 rfl hE
        · have hE := (if_pos c5).symm.trans hE
          refine j_iconst C 1 dX4_car_32 ic_1 ?_
          refine j_goto C 37 dX4_car_33 (by decide) ?_
          refine j_icmp_ne C 42 dX4_car_37 (by decide) (fun c16 => ?_) (fun c16 => ?_)
          · have hE := (if_neg c16).symm.trans hE
            refine j_aload_n C 0 dX4_car_42 rfl ?_
            refine j_get C kf_4 0 pl_md 3 (by decide) lk_4_16 rfl dX4_car_43 ?_
            refine j_iload_n C 1 dX4_car_46 rfl ?_
            refine j_iload_n C 2 dX4_car_47 rfl ?_
            refine j_iconst C 1 dX4_car_48 ic_1 ?_
            refine j_icmp_ne C 56 dX4_car_49 (by decide) (fun c17 => ?_) (fun c17 => ?_)
            · have hE := (if_neg c17).symm.trans hE
              refine j_iconst C 0 dX4_car_56 ic_0 ?_
              refine j_zast C 3 1 pl_a_cars rfl (x0.toNatClampNeg) (jk_self hv4 (by decide)) (jk_lt hv4) (by decide) rfl pu_a_cars dX4_car_57 ?_
              refine j_aload_n C 0 dX4_car_58 rfl ?_
              refine j_get C kf_4 0 pl_md 5 (by decide) lk_4_23 rfl dX4_car_59 ?_
              refine j_iload_n C 1 dX4_car_62 rfl ?_
              refine j_aload_n C 0 dX4_car_63 rfl ?_
              refine j_get C kf_4 0 pl_md 5 (by decide) lk_4_23 rfl dX4_car_64 ?_
              refine j_iload_n C 1 dX4_car_67 rfl ?_
              refine j_zald C 5 1 pl_a_remembered rfl (x0.toNatClampNeg) (jk_self hv4 (by decide)) (jk_lt hv4) (by decide) dX4_car_68 ?_
              refine j_if_ne C 94 dX4_car_69 (by decide) (fun c18 => ?_) (fun c18 => ?_)
              · have hE := (if_neg c18).symm.trans hE
                refine j_iconst C 1 dX4_car_94 ic_1 ?_
                refine j_goto C 99 dX4_car_95 (by decide) ?_
                refine j_zast C 5 1 pl_a_remembered rfl (x0.toNatClampNeg) (jk_self hv4 (by decide)) (jk_lt hv4) (by decide) rfl pu_a_remembered dX4_car_99 ?_
                refine j_iconst C 1 dX4_car_100 ic_1 ?_
                exact B.2.2 _ _ _ _ dX4_car_101 rfl hE
              · have hE := (if_pos c18).symm.trans hE
                refine j_iload_n C 2 dX4_car_72 rfl ?_
                refine j_iconst C 1 dX4_car_73 ic_1 ?_
                refine j_icmp_ne C 98 dX4_car_74 (by decide) (fun c19 => ?_) (fun c19 => ?_)
                · have hE := (if_neg c19).symm.trans hE
                  refine j_iconst C 0 dX4_car_98 ic_0 ?_
                  refine j_zast C 5 1 pl_a_remembered rfl (x0.toNatClampNeg) (jk_self hv4 (by decide)) (jk_lt hv4) (by decide) rfl pu_a_remembered dX4_car_99 ?_
                  refine j_iconst C 1 dX4_car_100 ic_1 ?_
                  exact B.2.2 _ _ _ _ dX4_car_101 rfl hE
                · have hE := (if_pos c19).symm.trans hE
                  refine j_aload_n C 0 dX4_car_77 rfl ?_
                  refine j_iload_n C 1 dX4_car_78 rfl ?_
                  refine j_st (st' := [.int (nI (x0.toNatClampNeg)), .ref (a 0), .int x0, .ref (a 5)]) (congrArg (fun x => ([.int x, .ref (a 0), .int x0, .ref (a 5)] : List Value)) (jk_self hv4 (by decide))) ?_
                  refine j_cIV C B.2.1 (c_m_isGreen l D z a (up2 (up2 u 0 0 (0 : Int32)) 3 (x0.toNatClampNeg) (0 : Int32)) (x0.toNatClampNeg) (jk_lt hv4)) gv_4_79 dd_m_isGreen ⟨⟨rfl, rfl⟩, Nat.le_of_ble_eq_true rfl, Nat.le_of_ble_eq_true rfl⟩ 0 4 pl_md rfl rfl rfl rfl (Nat.le_of_ble_eq_true rfl) dX4_car_79 ?_
                  refine j_if_ne C 98 dX4_car_82 (by decide) (fun c20 => ?_) (fun c20 => ?_)
                  · have hE := (if_neg c20).symm.trans hE
                    refine j_iconst C 0 dX4_car_98 ic_0 ?_
                    refine j_zast C 5 1 pl_a_remembered rfl (x0.toNatClampNeg) (jk_self hv4 (by decide)) (jk_lt hv4) (by decide) rfl pu_a_remembered dX4_car_99 ?_
                    refine j_iconst C 1 dX4_car_100 ic_1 ?_
                    exact B.2.2 _ _ _ _ dX4_car_101 rfl hE
                  · have hE := (if_pos c20).symm.trans hE
                    refine j_aload_n C 0 dX4_car_85 rfl ?_
                    refine j_iload_n C 1 dX4_car_86 rfl ?_
                    refine j_iconst C 2 dX4_car_87 ic_2 ?_
                    refine j_st (st' := [.int 2, .int (nI (x0.toNatClampNeg)), .ref (a 0), .int x0, .ref (a 5)]) (congrArg (fun x => ([.int 2, .int x, .ref (a 0), .int x0, .ref (a 5)] : List Value)) (jk_self hv4 (by decide))) ?_
                    refine j_cIV C B.2.1 (c_m_has l D z a (up2 (up2 u 0 0 (0 : Int32)) 3 (x0.toNatClampNeg) (0 : Int32)) (x0.toNatClampNeg) (2 : Int32) (jk_lt hv4)) gv_4_75 dd_m_has ⟨⟨rfl, rfl⟩, Nat.le_of_ble_eq_true rfl, Nat.le_of_ble_eq_true rfl⟩ 0 4 pl_md rfl rfl rfl rfl (Nat.le_of_ble_eq_true rfl) dX4_car_88 ?_
                    refine j_if_eq C 98 dX4_car_91 (by decide) (fun c21 => ?_) (fun c21 => ?_)
                    · have hE := (if_pos c21).symm.trans hE
                      refine j_iconst C 0 dX4_car_98 ic_0 ?_
                      refine j_zast C 5 1 pl_a_remembered rfl (x0.toNatClampNeg) (jk_self hv4 (by decide)) (jk_lt hv4) (by decide) rfl pu_a_remembered dX4_car_99 ?_
                      refine j_iconst C 1 dX4_car_100 ic_1 ?_
                      exact B.2.2 _ _ _ _ dX4_car_101 rfl hE
                    · have hE := (if_neg c21).symm.trans hE
                      refine j_iconst C 1 dX4_car_94 ic_1 ?_
                      refine j_goto C 99 dX4_car_95 (by decide) ?_
                      refine j_zast C 5 1 pl_a_remembered rfl (x0.toNatClampNeg) (jk_self hv4 (by decide)) (jk_lt hv4) (by decide) rfl pu_a_remembered dX4_car_99 ?_
                      refine j_iconst C 1 dX4_car_100 ic_1 ?_
                      exact B.2.2 _ _ _ _ dX4_car_101 rfl hE
            · have hE := (if_pos c17).symm.trans hE
              refine j_iconst C 1 dX4_car_52 ic_1 ?_
              refine j_goto C 57 dX4_car_53 (by decide) ?_
              refine j_zast C 3 1 pl_a_cars rfl (x0.toNatClampNeg) (jk_self hv4 (by decide)) (jk_lt hv4) (by decide) rfl pu_a_cars dX4_car_57 ?_
              refine j_aload_n C 0 dX4_car_58 rfl ?_
              refine j_get C kf_4 0 pl_md 5 (by decide) lk_4_23 rfl dX4_car_59 ?_
              refine j_iload_n C 1 dX4_car_62 rfl ?_
              refine j_aload_n C 0 dX4_car_63 rfl ?_
              refine j_get C kf_4 0 pl_md 5 (by decide) lk_4_23 rfl dX4_car_64 ?_
              refine j_iload_n C 1 dX4_car_67 rfl ?_
              refine j_zald C 5 1 pl_a_remembered rfl (x0.toNatClampNeg) (jk_self hv4 (by decide)) (jk_lt hv4) (by decide) dX4_car_68 ?_
              refine j_if_ne C 94 dX4_car_69 (by decide) (fun c22 => ?_) (fun c22 => ?_)
              · have hE := (if_neg c22).symm.trans hE
                refine j_iconst C 1 dX4_car_94 ic_1 ?_
                refine j_goto C 99 dX4_car_95 (by decide) ?_
                refine j_zast C 5 1 pl_a_remembered rfl (x0.toNatClampNeg) (jk_self hv4 (by decide)) (jk_lt hv4) (by decide) rfl pu_a_remembered dX4_car_99 ?_
                refine j_iconst C 1 dX4_car_100 ic_1 ?_
                exact B.2.2 _ _ _ _ dX4_car_101 rfl hE
              · have hE := (if_pos c22).symm.trans hE
                refine j_iload_n C 2 dX4_car_72 rfl ?_
                refine j_iconst C 1 dX4_car_73 ic_1 ?_
                refine j_icmp_ne C 98 dX4_car_74 (by decide) (fun c23 => ?_) (fun c23 => ?_)
                · have hE := (if_neg c23).symm.trans hE
                  refine j_iconst C 0 dX4_car_98 ic_0 ?_
                  refine j_zast C 5 1 pl_a_remembered rfl (x0.toNatClampNeg) (jk_self hv4 (by decide)) (jk_lt hv4) (by decide) rfl pu_a_remembered dX4_car_99 ?_
                  refine j_iconst C 1 dX4_car_100 ic_1 ?_
                  exact B.2.2 _ _ _ _ dX4_car_101 rfl hE
                · have hE := (if_pos c23).symm.trans hE
                  refine j_aload_n C 0 dX4_car_77 rfl ?_
                  refine j_iload_n C 1 dX4_car_78 rfl ?_
                  refine j_st (st' := [.int (nI (x0.toNatClampNeg)), .ref (a 0), .int x0, .ref (a 5)]) (congrArg (fun x => ([.int x, .ref (a 0), .int x0, .ref (a 5)] : List Value)) (jk_self hv4 (by decide))) ?_
                  refine j_cIV C B.2.1 (c_m_isGreen l D z a (up2 (up2 u 0 0 (0 : Int32)) 3 (x0.toNatClampNeg) (1 : Int32)) (x0.toNatClampNeg) (jk_lt hv4)) gv_4_79 dd_m_isGreen ⟨⟨rfl, rfl⟩, Nat.le_of_ble_eq_true rfl, Nat.le_of_ble_eq_true rfl⟩ 0 4 pl_md rfl rfl rfl rfl (Nat.le_of_ble_eq_true rfl) dX4_car_79 ?_
                  refine j_if_ne C 98 dX4_car_82 (by decide) (fun c24 => ?_) (fun c24 => ?_)
                  · have hE := (if_neg c24).symm.trans hE
                    refine j_iconst C 0 dX4_car_98 ic_0 ?_
                    refine j_zast C 5 1 pl_a_remembered rfl (x0.toNatClampNeg) (jk_self hv4 (by decide)) (jk_lt hv4) (by decide) rfl pu_a_remembered dX4_car_99 ?_
                    refine j_iconst C 1 dX4_car_100 ic_1 ?_
                    exact B.2.2 _ _ _ _ dX4_car_101 rfl hE
                  · have hE := (if_pos c24).symm.trans hE
                    refine j_aload_n C 0 dX4_car_85 rfl ?_
                    refine j_iload_n C 1 dX4_car_86 rfl ?_
                    refine j_iconst C 2 dX4_car_87 ic_2 ?_
                    refine j_st (st' := [.int 2, .int (nI (x0.toNatClampNeg)), .ref (a 0), .int x0, .ref (a 5)]) (congrArg (fun x => ([.int 2, .int x, .ref (a 0), .int x0, .ref (a 5)] : List Value)) (jk_self hv4 (by decide))) ?_
                    refine j_cIV C B.2.1 (c_m_has l D z a (up2 (up2 u 0 0 (0 : Int32)) 3 (x0.toNatClampNeg) (1 : Int32)) (x0.toNatClampNeg) (2 : Int32) (jk_lt hv4)) gv_4_75 dd_m_has ⟨⟨rfl, rfl⟩, Nat.le_of_ble_eq_true rfl, Nat.le_of_ble_eq_true rfl⟩ 0 4 pl_md rfl rfl rfl rfl (Nat.le_of_ble_eq_true rfl) dX4_car_88 ?_
                    refine j_if_eq C 98 dX4_car_91 (by decide) (fun c25 => ?_) (fun c25 => ?_)
                    · have hE := (if_pos c25).symm.trans hE
                      refine j_iconst C 0 dX4_car_98 ic_0 ?_
                      refine j_zast C 5 1 pl_a_remembered rfl (x0.toNatClampNeg) (jk_self hv4 (by decide)) (jk_lt hv4) (by decide) rfl pu_a_remembered dX4_car_99 ?_
                      refine j_iconst C 1 dX4_car_100 ic_1 ?_
                      exact B.2.2 _ _ _ _ dX4_car_101 rfl hE
                    · have hE := (if_neg c25).symm.trans hE
                      refine j_iconst C 1 dX4_car_94 ic_1 ?_
                      refine j_goto C 99 dX4_car_95 (by decide) ?_
                      refine j_zast C 5 1 pl_a_remembered rfl (x0.toNatClampNeg) (jk_self hv4 (by decide)) (jk_lt hv4) (by decide) rfl pu_a_remembered dX4_car_99 ?_
                      refine j_iconst C 1 dX4_car_100 ic_1 ?_
                      exact B.2.2 _ _ _ _ dX4_car_101 rfl hE
          · have hE := (if_pos c16).symm.trans hE
            refine j_iconst C 0 dX4_car_40 ic_0 ?_
            exact B.2.2 _ _ _ _ dX4_car_41 rfl hE
theorem c_m_car (l : Launch) (D : va_G) (z : Nat → ClassId) (a : Nat → Nat) (u : St) (x0 : Int32) (x1 : Int32) (hG : g_m_car u x0 x1) : CtI l yX4_car (.code yX4_car cX4_car 3 (some .int) :: TT) rm_m_car D clA (tyl z) (rW z a) [.ref (a 0), .int x0, .int x1] u (f_m_car u x0 x1).1 (f_m_car u x0 x1).2 :=
  jk_metI (own := RX4) (by decide) rfl (Nat.le_of_ble_eq_true rfl) (fun _ _ _ _ _ _ _ _ _ _ _ B => w_m_car_0 B x0 x1 rfl hG)
end WLK

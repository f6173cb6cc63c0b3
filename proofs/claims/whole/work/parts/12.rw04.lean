section WLK
variable {p : Program} {l : Launch} {e : Env} {R : Room} {s : State} {m : MethodId} {args : Array Value} {below : List Frame} {meth : Method} {c : Code} {D : va_G} {z : Nat → ClassId} {a : Nat → Nat} {A : Nat → Prop} {Q : State → Prop}
def rm_m_mayEnd : Room := { frames := 1, cells := 0, slots := 0, locals := 22 }
def f_m_mayEnd (u : St) (k0 : Nat) : Int32 := (if (u 13 k0) = (1 : Int32) then (if (u 14 k0) < (f_m_timeOf u ((u 11 k0).toNatClampNeg) 0) then (0 : Int32) else (if ((u 17 k0) + (u 18 k0)) = (0 : Int32) then (if (u 15 k0) = (0 : Int32) then (1 : Int32) else (if (u 16 k0) < (f_m_timeOf u ((u 11 k0).toNatClampNeg) 2) then (0 : Int32) else (1 : Int32))) else (0 : Int32))) else (0 : Int32))
def g_m_mayEnd (u : St) (k0 : Nat) : Prop := (((u 13 k0) = (1 : Int32) → (vp_in (u 11 k0) 8)) ∧ (¬ (u 13 k0) = (1 : Int32) → True))
set_option maxRecDepth 20000 in
set_option maxHeartbeats 1000000 in
theorem w_m_mayEnd_0 {Fr : Int32} {u : St} (B : jk_BI p l e R s m args below meth c cX4_mayEnd 3 RX4 TT .boolean D clA (tyl z) (rW z a) A Q rm_m_mayEnd (Fr, u)) {k0 : Nat} (hk0 : k0 < 2) (hE : f_m_mayEnd u k0 = Fr) (hG : g_m_mayEnd u k0) : JJ p l e R s m args below meth c 0 0 3 D clA (rW z a) A Q 0 [(0, .ref (a 0)), (1, .int (nI k0))] u [] := by
  have C := B.1
  unfold f_m_mayEnd at hE
  unfold g_m_mayEnd at hG
  refine j_aload_n C 0 dX4_mayEnd_0 rfl ?_
  refine j_get C kf_4 0 pl_md 11 (by decide) lk_4_41 rfl dX4_mayEnd_1 ?_
  refine j_iload_n C 1 dX4_mayEnd_4 rfl ?_
  refine j_iald C 11 0 pl_a_now rfl k0 rfl hk0 (by decide) dX4_mayEnd_5 ?_
  refine j_istore_n C dX4_mayEnd_6 (by decide) rfl ?_
  refine j_aload_n C 1 dX4_mayEnd_7 rfl ?_
  refine j_get C kf_4 0 pl_md 13 (by decide) lk_4_47 rfl dX4_mayEnd_8 ?_
  refine j_iload_n C 2 dX4_mayEnd_11 rfl ?_
  refine j_iald C 13 0 pl_a_phase rfl k0 rfl hk0 (by decide) dX4_mayEnd_12 ?_
  refine j_iconst C 1 dX4_mayEnd_13 ic_1 ?_
  refine j_icmp_ne C 76 dX4_mayEnd_14 (by decide) (fun c1 => ?_) (fun c1 => ?_)
  · have hE := (if_neg c1).symm.trans hE
    refine j_iconst C 0 dX4_mayEnd_76 ic_0 ?_
    exact B.2.2 _ _ _ _ dX4_mayEnd_77 rfl (congrArg (fun x => (x, u)) hE)
  · have hE := (if_pos c1).symm.trans hE
    have hG := hG.1 c1
    refine j_aload_n C 1 dX4_mayEnd_17 rfl ?_
    refine j_get C kf_4 0 pl_md 14 (by decide) lk_4_50 rfl dX4_mayEnd_18 ?_
    refine j_iload_n C 2 dX4_mayEnd_21 rfl ?_
    refine j_iald C 14 0 pl_a_age rfl k0 rfl hk0 (by decide) dX4_mayEnd_22 ?_
    refine j_aload_n C 1 dX4_mayEnd_23 rfl ?_
    refine j_iload_n C 0 dX4_mayEnd_24 rfl ?_
    refine j_iconst C 0 dX4_mayEnd_25 ic_0 ?_
    have hv2 := hG
    have lhv2 := jk_lt hv2
    refine j_st (st' := [.int (nI 0), .int (nI ((u 11 k0).toNatClampNeg)), .ref (a 0), .int (u 14 k0)]) ((congrArg (fun x => ([.int 0, .int x, .ref (a 0), .int (u 14 k0)] : List Value)) (jk_self hv2 (by decide))).trans (congrArg (fun x => ([.int x, .int (nI ((u 11 k0).toNatClampNeg)), .ref (a 0), .int (u 14 k0)] : List Value)) ix_0)) ?_
    refine j_cIV C B.2.1 (c_m_timeOf l D z a u ((u 11 k0).toNatClampNeg) 0 (jk_lt hv2) (by decide)) gv_4_103 dd_m_timeOf ⟨⟨rfl, rfl⟩, Nat.le_of_ble_eq_true rfl, Nat.le_of_ble_eq_true rfl⟩ 0 4 pl_md rfl rfl rfl rfl (Nat.le_of_ble_eq_true rfl) dX4_mayEnd_26 ?_
    refine j_icmp_lt C 76 dX4_mayEnd_29 (by decide) (fun c3 => ?_) (fun c3 => ?_)
    · have hE := (if_pos c3).symm.trans hE
      refine j_iconst C 0 dX4_mayEnd_76 ic_0 ?_
      exact B.2.2 _ _ _ _ dX4_mayEnd_77 rfl (congrArg (fun x => (x, u)) hE)
    · have hE := (if_neg c3).symm.trans hE
      refine j_aload_n C 1 dX4_mayEnd_32 rfl ?_
      refine j_get C kf_4 0 pl_md 17 (by decide) lk_4_59 rfl dX4_mayEnd_33 ?_
      refine j_iload_n C 2 dX4_mayEnd_36 rfl ?_
      refine j_iald C 17 0 pl_a_walking rfl k0 rfl hk0 (by decide) dX4_mayEnd_37 ?_
      refine j_aload_n C 1 dX4_mayEnd_38 rfl ?_
      refine j_get C kf_4 0 pl_md 18 (by decide) lk_4_62 rfl dX4_mayEnd_39 ?_
      refine j_iload_n C 2 dX4_mayEnd_42 rfl ?_
      refine j_iald C 18 0 pl_a_clearing rfl k0 rfl hk0 (by decide) dX4_mayEnd_43 ?_
      refine j_iadd C dX4_mayEnd_44 ?_
      refine j_if_ne C 76 dX4_mayEnd_45 (by decide) (fun c4 => ?_) (fun c4 => ?_)
      · have hE := (if_neg c4).symm.trans hE
        refine j_iconst C 0 dX4_mayEnd_76 ic_0 ?_
        exact B.2.2 _ _ _ _ dX4_mayEnd_77 rfl (congrArg (fun x => (x, u)) hE)
      · have hE := (if_pos c4).symm.trans hE
        refine j_aload_n C 1 dX4_mayEnd_48 rfl ?_
        refine j_get C kf_4 0 pl_md 15 (by decide) lk_4_53 rfl dX4_mayEnd_49 ?_
        refine j_iload_n C 2 dX4_mayEnd_52 rfl ?_
        refine j_iald C 15 0 pl_a_left rfl k0 rfl hk0 (by decide) dX4_mayEnd_53 ?_
        refine j_if_eq C 72 dX4_mayEnd_54 (by decide) (fun c5 => ?_) (fun c5 => ?_)
        · have hE := (if_pos c5).symm.trans hE
          refine j_iconst C 1 dX4_mayEnd_72 ic_1 ?_
          refine j_goto C 77 dX4_mayEnd_73 (by decide) ?_
          exact B.2.2 _ _ _ _ dX4_mayEnd_77 rfl (congrArg (fun x => (x, u)) hE)
        · have hE := (if_neg c5).symm.trans hE
          refine j_aload_n C 1 dX4_mayEnd_57 rfl ?_
          refine j_get C kf_4 0 pl_md 16 (by decide) lk_4_56 rfl dX4_mayEnd_58 ?_
          refine j_iload_n C 2 dX4_mayEnd_61 rfl ?_
          refine j_iald C 16 0 pl_a_pressure rfl k0 rfl hk0 (by decide) dX4_mayEnd_62 ?_
          refine j_aload_n C 1 dX4_mayEnd_63 rfl ?_
          refine j_iload_n C 0 dX4_mayEnd_64 rfl ?_
          refine j_iconst C 2 dX4_mayEnd_65 ic_2 ?_
          refine j_st (st' := [.int (nI 2), .int (nI ((u 11 k0).toNatClampNeg)), .ref (a 0), .int (u 16 k0)]) ((congrArg (fun x => ([.int 2, .int x, .ref (a 0), .int (u 16 k0)] : List Value)) (jk_self hv2 (by decide))).trans (congrArg (fun x => ([.int x, .int (nI ((u 11 k0).toNatClampNeg)), .ref (a 0), .int (u 16 k0)] : List Value)) ix_2)) ?_
          refine j_cIV C B.2.1 (c_m_timeOf l D z a u ((u 11 k0).toNatClampNeg) 2 (jk_lt hv2) (by decide)) gv_4_103 dd_m_timeOf ⟨⟨rfl, rfl⟩, Nat.le_of_ble_eq_true rfl, Nat.le_of_ble_eq_true rfl⟩ 0 4 pl_md rfl rfl rfl rfl (Nat.le_of_ble_eq_true rfl) dX4_mayEnd_66 ?_
          refine j_icmp_lt C 76 dX4_mayEnd_69 (by decide) (fun c6 => ?_) (fun c6 => ?_)
          · have hE := (if_pos c6).symm.trans hE
            refine j_iconst C 0 dX4_mayEnd_76 ic_0 ?_
            exact B.2.2 _ _ _ _ dX4_mayEnd_77 rfl (congrArg (fun x => (x, u)) hE)
          · have hE := (if_neg c6).symm.trans hE
            refine j_iconst C 1 dX4_mayEnd_72 ic_1 ?_
            refine j_goto C 77 dX4_mayEnd_73 (by decide) ?_
            exact B.2.2 _ _ _ _ dX4_mayEnd_77 rfl (congrArg (fun x => (x, u)) hE)
theorem c_m_mayEnd (l : Launch) (D : va_G) (z : Nat → ClassId) (a : Nat → Nat) (u : St) (k0 : Nat) (hk0 : k0 < 2) (hG : g_m_mayEnd u k0) : CtI l yX4_mayEnd (.code yX4_mayEnd cX4_mayEnd 3 (some .boolean) :: TT) rm_m_mayEnd D clA (tyl z) (rW z a) [.ref (a 0), .int (nI k0)] u (f_m_mayEnd u k0) u :=
  jk_metI (own := RX4) (by decide) rfl (Nat.le_of_ble_eq_true rfl) (fun _ _ _ _ _ _ _ _ _ _ _ B => w_m_mayEnd_0 B hk0 rfl hG)
def rm_m_goYellow : Room := { frames := 0, cells := 0, slots := 0, locals := 0 }
def f_m_goYellow (u : St) (k0 : Nat) : St := (up2 (up2 u 13 k0 (2 : Int32)) 14 k0 (0 : Int32))
set_option maxRecDepth 20000 in
set_option maxHeartbeats 1000000 in
theorem w_m_goYellow_0 {F : St} {u : St} (B : jk_BV p l e R s m args below meth c cX4_goYellow 2 RX4 TT D clA (tyl z) (rW z a) A Q rm_m_goYellow F) {k0 : Nat} (hk0 : k0 < 2) (hE : f_m_goYellow u k0 = F) : JJ p l e R s m args below meth c 0 0 2 D clA (rW z a) A Q 0 [(0, .ref (a 0)), (1, .int (nI k0))] u [] := by
  have C := B.1
  unfold f_m_goYellow at hE
  refine j_aload_n C 0 dX4_goYellow_0 rfl ?_
  refine j_get C kf_4 0 pl_md 13 (by decide) lk_4_47 rfl dX4_goYellow_1 ?_
  refine j_iload_n C 1 dX4_goYellow_4 rfl ?_
  refine j_iconst C 2 dX4_goYellow_5 ic_2 ?_
  refine j_iast C 13 0 pl_a_phase rfl k0 rfl hk0 (by decide) pu_a_phase dX4_goYellow_6 ?_
  refine j_aload_n C 0 dX4_goYellow_7 rfl ?_
  refine j_get C kf_4 0 pl_md 14 (by decide) lk_4_50 rfl dX4_goYellow_8 ?_
  refine j_iload_n C 1 dX4_goYellow_11 rfl ?_
  refine j_iconst C 0 dX4_goYellow_12 ic_0 ?_
  refine j_iast C 14 0 pl_a_age rfl k0 rfl hk0 (by decide) pu_a_age dX4_goYellow_13 ?_
  exact B.2.2 _ _ _ dX4_goYellow_14 hE
theorem c_m_goYellow (l : Launch) (D : va_G) (z : Nat → ClassId) (a : Nat → Nat) (u : St) (k0 : Nat) (hk0 : k0 < 2) : CtV l yX4_goYellow (.code yX4_goYellow cX4_goYellow 2 none :: TT) rm_m_goYellow D clA (tyl z) (rW z a) [.ref (a 0), .int (nI k0)] u (f_m_goYellow u k0) :=
  jk_metV (own := RX4) (by decide) rfl (Nat.le_of_ble_eq_true rfl) (fun _ _ _ _ _ _ _ _ _ _ _ B => w_m_goYellow_0 B hk0 rfl)
def rm_m_goOn : Room := { frames := 3, cells := 0, slots := 0, locals := 67 }
def f_m_goOn (u : St) (k0 : Nat) : St := (if (f_m_mayEnd u k0) = (0 : Int32) then (if (u 13 k0) = (0 : Int32) then (if (0 : Int32) ≤ (u 12 k0) then u else (if (u 0 21) = (0 : Int32) then (up2 u 12 k0 (f_m_calledOf u k0 (u 0 20))) else u)) else u) else (if (u 11 k0) = (f_m_first u k0 (u 0 20)) then (if (f_m_isCalled u ((f_m_second u k0 (u 0 20)).toNatClampNeg)) = (0 : Int32) then u else (f_m_goYellow (up2 u 12 k0 (f_m_second u k0 (u 0 20))) k0)) else u))
def g_m_goOn (u : St) (k0 : Nat) : Prop := ((g_m_mayEnd u k0) ∧ (((f_m_mayEnd u k0) = (0 : Int32) → (((u 13 k0) = (0 : Int32) → (((0 : Int32) ≤ (u 12 k0) → True) ∧ (¬ (0 : Int32) ≤ (u 12 k0) → (((u 0 21) = (0 : Int32) → (g_m_calledOf u k0 (u 0 20))) ∧ (¬ (u 0 21) = (0 : Int32) → True))))) ∧ (¬ (u 13 k0) = (0 : Int32) → True))) ∧ (¬ (f_m_mayEnd u k0) = (0 : Int32) → ((g_m_first u k0 (u 0 20)) ∧ (((u 11 k0) = (f_m_first u k0 (u 0 20)) → ((g_m_second u k0 (u 0 20)) ∧ ((vp_in (f_m_second u k0 (u 0 20)) 8) ∧ (((f_m_isCalled u ((f_m_second u k0 (u 0 20)).toNatClampNeg)) = (0 : Int32) → True) ∧ (¬ (f_m_isCalled u ((f_m_second u k0 (u 0 20)).toNatClampNeg)) = (0 : Int32) → (g_m_second u k0 (u 0 20))))))) ∧ (¬ (u 11 k0) = (f_m_first u k0 (u 0 20)) → True))))))
set_option maxRecDepth 20000 in
set_option maxHeartbeats 1000000 in
theorem w_m_goOn_0 {F : St} {u : St} (B : jk_BV p l e R s m args below meth c cX4_goOn 2 RX4 TT D clA (tyl z) (rW z a) A Q rm_m_goOn F) {k0 : Nat} (hk0 : k0 < 2) (hE : f_m_goOn u k0 = F) (hG : g_m_goOn u k0) : JJ p l e R s m args below meth c 0 0 2 D clA (rW z a) A Q 0 [(0, .ref (a 0)), (1, .int (nI k0))] u [] := by
  have C := B.1
  unfold f_m_goOn at hE
  unfold g_m_goOn at hG
  refine j_aload_n C 0 dX4_goOn_0 rfl ?_
  refine j_iload_n C 1 dX4_goOn_1 rfl ?_
  obtain ⟨hg1, hG⟩ := hG
  refine j_cIV C B.2.1 (c_m_mayEnd l D z a u k0 hk0 hg1) gv_4_110 dd_m_mayEnd ⟨⟨rfl, rfl⟩, Nat.le_of_ble_eq_true rfl, Nat.le_of_ble_eq_true rfl⟩ 0 4 pl_md rfl rfl rfl rfl (Nat.le_of_ble_eq_true rfl) dX4_goOn_2 ?_
  refine j_if_eq C 65 dX4_goOn_5 (by decide) (fun c2 => ?_) (fun c2 => ?_)
  · have hE := (if_pos c2).symm.trans hE
    have hG := hG.1 c2
    refine j_aload_n C 0 dX4_goOn_65 rfl ?_
    refine j_get C kf_4 0 pl_md 13 (by decide) lk_4_47 rfl dX4_goOn_66 ?_
    refine j_iload_n C 1 dX4_goOn_69 rfl ?_
    refine j_iald C 13 0 pl_a_phase rfl k0 rfl hk0 (by decide) dX4_goOn_70 ?_
    refine j_if_ne C 105 dX4_goOn_71 (by decide) (fun c3 => ?_) (fun c3 => ?_)
    · have hE := (if_neg c3).symm.trans hE
      exact B.2.2 _ _ _ dX4_goOn_105 hE
    · have hE := (if_pos c3).symm.trans hE
      have hG := hG.1 c3
      refine j_aload_n C 0 dX4_goOn_74 rfl ?_
      refine j_get C kf_4 0 pl_md 12 (by decide) lk_4_44 rfl dX4_goOn_75 ?_
      refine j_iload_n C 1 dX4_goOn_78 rfl ?_
      refine j_iald C 12 0 pl_a_next rfl k0 rfl hk0 (by decide) dX4_goOn_79 ?_
      refine j_if_ge C 105 dX4_goOn_80 (by decide) (fun c4 => ?_) (fun c4 => ?_)
      · have hE := (if_pos c4).symm.trans hE
        exact B.2.2 _ _ _ dX4_goOn_105 hE
      · have hE := (if_neg c4).symm.trans hE
        have hG := hG.2 c4
        refine j_aload_n C 0 dX4_goOn_83 rfl ?_
        refine j_get C kf_4 0 pl_md 21 (by decide) lk_4_119 rfl dX4_goOn_84 ?_
        refine j_if_ne C 105 dX4_goOn_87 (by decide) (fun c5 => ?_) (fun c5 => ?_)
        · have hE := (if_neg c5).symm.trans hE
          exact B.2.2 _ _ _ dX4_goOn_105 hE
        · have hE := (if_pos c5).symm.trans hE
          have hG := hG.1 c5
          refine j_aload_n C 0 dX4_goOn_90 rfl ?_
          refine j_get C kf_4 0 pl_md 12 (by decide) lk_4_44 rfl dX4_goOn_91 ?_
          refine j_iload_n C 1 dX4_goOn_94 rfl ?_
          refine j_aload_n C 0 dX4_goOn_95 rfl ?_
          refine j_iload_n C 1 dX4_goOn_96 rfl ?_
          refine j_aload_n C 0 dX4_goOn_97 rfl ?_
          refine j_get C kf_4 0 pl_md 20 (by decide) lk_4_113 rfl dX4_goOn_98 ?_
          have hg6 := hG
          refine j_cIV C B.2.1 (c_m_calledOf l D z a u k0 (u 0 20) hk0 hg6) gv_4_123 dd_m_calledOf ⟨⟨rfl, rfl⟩, Nat.le_of_ble_eq_true rfl, Nat.le_of_ble_eq_true rfl⟩ 0 4 pl_md rfl rfl rfl rfl (Nat.le_of_ble_eq_true rfl) dX4_goOn_101 ?_
          refine j_iast C 12 0 pl_a_next rfl k0 rfl hk0 (by decide) pu_a_next dX4_goOn_104 ?_
          exact B.2.2 _ _ _ dX4_goOn_105 hE
  · have hE := (if_neg c2).symm.trans hE
    have hG := hG.2 c2
    refine j_aload_n C 0 dX4_goOn_8 rfl ?_
    refine j_get C kf_4 0 pl_md 11 (by decide) lk_4_41 rfl dX4_goOn_9 ?_
    refine j_iload_n C 1 dX4_goOn_12 rfl ?_
    refine j_iald C 11 0 pl_a_now rfl k0 rfl hk0 (by decide) dX4_goOn_13 ?_
    refine j_aload_n C 0 dX4_goOn_14 rfl ?_
    refine j_iload_n C 1 dX4_goOn_15 rfl ?_
    refine j_aload_n C 0 dX4_goOn_16 rfl ?_
    refine j_get C kf_4 0 pl_md 20 (by decide) lk_4_113 rfl dX4_goOn_17 ?_
    obtain ⟨hg7, hG⟩ := hG
    refine j_cIV C B.2.1 (c_m_first l D z a u k0 (u 0 20) hk0 hg7) gv_4_93 dd_m_first ⟨⟨rfl, rfl⟩, Nat.le_of_ble_eq_true rfl, Nat.le_of_ble_eq_true rfl⟩ 0 4 pl_md rfl rfl rfl rfl (Nat.le_of_ble_eq_true rfl) dX4_goOn_20 ?_
    refine j_icmp_ne C 105 dX4_goOn_23 (by decide) (fun c8 => ?_) (fun c8 => ?_)
    · have hE := (if_neg c8).symm.trans hE
      exact B.2.2 _ _ _ dX4_goOn_105 hE
    · have hE := (if_pos c8).symm.trans hE
      have hG := hG.1 c8
      refine j_aload_n C 0 dX4_goOn_26 rfl ?_
      refine j_aload_n C 0 dX4_goOn_27 rfl ?_
      refine j_iload_n C 1 dX4_goOn_28 rfl ?_
      refine j_aload_n C 0 dX4_goOn_29 rfl ?_
      refine j_get C kf_4 0 pl_md 20 (by decide) lk_4_113 rfl dX4_goOn_30 ?_
      obtain ⟨hg9, hG⟩ := hG
      refine j_cIV C B.2.1 (c_m_second l D z a u k0 (u 0 20) hk0 hg9) gv_4_97 dd_m_second ⟨⟨rfl, rfl⟩, Nat.le_of_ble_eq_true rfl, Nat.le_of_ble_eq_true rfl⟩ 0 4 pl_md rfl rfl rfl rfl (Nat.le_of_ble_eq_true rfl) dX4_goOn_33 ?_
      obtain ⟨hv10, hG⟩ := hG
      have lhv10 := jk_lt hv10
      refine j_st (st' := [.int (nI ((f_m_second u k0 (u 0 20)).toNatClampNeg)), .ref (a 0)]) (congrArg (fun x => ([.int x, .ref (a 0)] : List Value)) (jk_self hv10 (by decide))) ?_
      refine j_cIV C B.2.1 (c_m_isCalled l D z a u ((f_m_second u k0 (u 0 20)).toNatClampNeg) (jk_lt hv10)) gv_4_100 dd_m_isCalled ⟨⟨rfl, rfl⟩, Nat.le_of_ble_eq_true rfl, Nat.le_of_ble_eq_true rfl⟩ 0 4 pl_md rfl rfl rfl rfl (Nat.le_of_ble_eq_true rfl) dX4_goOn_36 ?_
      refine j_if_eq C 105 dX4_goOn_39 (by decide) (fun c11 => ?_) (fun c11 => ?_)
      · have hE := (if_pos c11).symm.trans hE
        exact B.2.2 _ _ _ dX4_goOn_105 hE
      · have hE := (if_neg c11).symm.trans hE
        have hG := hG.2 c11
        refine j_aload_n C 0 dX4_goOn_42 rfl ?_
        refine j_get C kf_4 0 pl_md 12 (by decide) lk_4_44 rfl dX4_goOn_43 ?_
        refine j_iload_n C 1 dX4_goOn_46 rfl ?_
        refine j_aload_n C 0 dX4_goOn_47 rfl ?_
        refine j_iload_n C 1 dX4_goOn_48 rfl ?_
        refine j_aload_n C 0 dX4_goOn_49 rfl ?_
        refine j_get C kf_4 0 pl_md 20 (by decide) lk_4_113 rfl dX4_goOn_50 ?_
        have hg12 := hG
        refine j_cIV C B.2.1 (c_m_second l D z a u k0 (u 0 20) hk0 hg12) gv_4_97 dd_m_second ⟨⟨rfl, rfl⟩, Nat.le_of_ble_eq_true rfl, Nat.le_of_ble_eq_true rfl⟩ 0 4 pl_md rfl rfl rfl rfl (Nat.le_of_ble_eq_true rfl) dX4_goOn_53 ?_
        refine j_iast C 12 0 pl_a_next rfl k0 rfl hk0 (by decide) pu_a_next dX4_goOn_56 ?_
        refine j_aload_n C 0 dX4_goOn_57 rfl ?_
        refine j_iload_n C 1 dX4_goOn_58 rfl ?_
        refine j_cVV C B.2.1 (c_m_goYellow l D z a (up2 u 12 k0 (f_m_second u k0 (u 0 20))) k0 hk0) gv_4_116 dd_m_goYellow ⟨⟨rfl, rfl⟩, Nat.le_of_ble_eq_true rfl, Nat.le_of_ble_eq_true rfl⟩ 0 4 pl_md rfl rfl rfl rfl (Nat.le_of_ble_eq_true rfl) dX4_goOn_59 ?_
        refine j_goto C 105 dX4_goOn_62 (by decide) ?_
        exact B.2.2 _ _ _ dX4_goOn_105 hE
theorem c_m_goOn (l : Launch) (D : va_G) (z : Nat → ClassId) (a : Nat → Nat) (u : St) (k0 : Nat) (hk0 : k0 < 2) (hG : g_m_goOn u k0) : CtV l yX4_goOn (.code yX4_goOn cX4_goOn 2 none :: TT) rm_m_goOn D clA (tyl z) (rW z a) [.ref (a 0), .int (nI k0)] u (f_m_goOn u k0) :=
  jk_metV (own := RX4) (by decide) rfl (Nat.le_of_ble_eq_true rfl) (fun _ _ _ _ _ _ _ _ _ _ _ B => w_m_goOn_0 B hk0 rfl hG)
def rm_m_cross : Room := { frames := 3, cells := 0, slots := 0, locals := 67 }
def f_m_cross_183  : Nat → Nat → St → St
  | 0, i, u => u
  | n + 1, i, u => (if (u 13 i) = (1 : Int32) then (f_m_cross_183 n (i + 1) (f_m_goYellow u i)) else (f_m_cross_183 n (i + 1) u))
set_option maxRecDepth 20000 in
set_option maxHeartbeats 1000000 in
theorem w_m_cross_183 {F : St} (B : jk_BV p l e R s m args below meth c cX4_cross 4 RX4 TT D clA (tyl z) (rW z a) A Q rm_m_cross F)  : ∀ (n i : Nat) (u : St), i + n = 2 → f_m_cross_183 n i u = F → JJ p l e R s m args below meth c 0 0 4 D clA (rW z a) A Q 183 [(3, .int (nI i)), (0, .ref (a 0))] u [] := by
  have C := B.1
  intro n
  induction n with
  | zero =>
    intro i u hin hE
    obtain rfl : i = 2 := by omega
    have hge : (2 : Int32) ≤ nI 2 := by decide
    refine j_iload_n C 0 dX4_cross_183 rfl ?_
    refine j_iconst C 2 dX4_cross_184 ic_2 ?_
    refine j_icmp_ge C 209 dX4_cross_185 (by decide) (fun _ => ?_) (fun hq => absurd hge hq)
    exact B.2.2 _ _ _ dX4_cross_209 hE
  | succ n ih =>
    intro i u hin hE
    have hlt : i < 2 := by omega
    have hnge : ¬ (2 : Int32) ≤ nI i := lt2 i hlt
    refine j_iload_n C 0 dX4_cross_183 rfl ?_
    refine j_iconst C 2 dX4_cross_184 ic_2 ?_
    refine j_icmp_ge C 209 dX4_cross_185 (by decide) (fun hq => absurd hq hnge) (fun _ => ?_)
    refine j_aload_n C 1 dX4_cross_188 rfl ?_
    refine j_get C kf_4 0 pl_md 13 (by decide) lk_4_47 rfl dX4_cross_189 ?_
    refine j_iload_n C 0 dX4_cross_192 rfl ?_
    refine j_iald C 13 0 pl_a_phase rfl i rfl hlt (by decide) dX4_cross_193 ?_
    refine j_iconst C 1 dX4_cross_194 ic_1 ?_
    refine j_icmp_ne C 203 dX4_cross_195 (by decide) (fun c1 => ?_) (fun c1 => ?_)
    · have hE := (if_neg c1).symm.trans hE
      refine j_iinc C 0 (nI (i + 1)) dX4_cross_203 rfl (nI_1 _) (by decide) rfl ?_
      refine j_goto C 183 dX4_cross_206 (by decide) ?_
      exact ih (i + 1) u (by omega) hE
    · have hE := (if_pos c1).symm.trans hE
      refine j_aload_n C 1 dX4_cross_198 rfl ?_
      refine j_iload_n C 0 dX4_cross_199 rfl ?_
      refine j_cVV C B.2.1 (c_m_goYellow l D z a u i hlt) gv_4_116 dd_m_goYellow ⟨⟨rfl, rfl⟩, Nat.le_of_ble_eq_true rfl, Nat.le_of_ble_eq_true rfl⟩ 0 4 pl_md rfl rfl rfl rfl (Nat.le_of_ble_eq_true rfl) dX4_cross_200 ?_
      refine j_iinc C 0 (nI (i + 1)) dX4_cross_203 rfl (nI_1 _) (by decide) rfl ?_
      refine j_goto C 183 dX4_cross_206 (by decide) ?_
      exact ih (i + 1) (f_m_goYellow u i) (by omega) hE
def f_m_cross_151 (u : St) (x8 : Int32) (x9 : Int32) : St := (if x8 = (0 : Int32) then u else (if (u 0 21) = (0 : Int32) then (if x9 = (0 : Int32) then u else (f_m_cross_183 2 0 (up2 (up2 u 0 21 (1 : Int32)) 0 22 (((up2 u 0 21 (1 : Int32)) 0 22) + (1 : Int32))))) else u))
set_option maxRecDepth 20000 in
set_option maxHeartbeats 1000000 in
theorem w_m_cross_151 {F : St} {u : St} (B : jk_BV p l e R s m args below meth c cX4_cross 4 RX4 TT D clA (tyl z) (rW z a) A Q rm_m_cross F)  {x8 : Int32} {x9 : Int32} (hE : f_m_cross_151 u x8 x9 = F) : JJ p l e R s m args below meth c 0 0 4 D clA (rW z a) A Q 151 [(0, .ref (a 0)), (1, .int x8), (2, .int x9)] u [] := by
  have C := B.1
  unfold f_m_cross_151 at hE
  refine j_iload_n C 1 dX4_cross_151 rfl ?_
  refine j_if_eq C 209 dX4_cross_152 (by decide) (fun c1 => ?_) (fun c1 => ?_)
  · have hE := (if_pos c1).symm.trans hE
    exact B.2.2 _ _ _ dX4_cross_209 hE
  · have hE := (if_neg c1).symm.trans hE
    refine j_aload_n C 0 dX4_cross_155 rfl ?_
    refine j_get C kf_4 0 pl_md 21 (by decide) lk_4_119 rfl dX4_cross_156 ?_
    refine j_if_ne C 209 dX4_cross_159 (by decide) (fun c2 => ?_) (fun c2 => ?_)
    · have hE := (if_neg c2).symm.trans hE
      exact B.2.2 _ _ _ dX4_cross_209 hE
    · have hE := (if_pos c2).symm.trans hE
      refine j_iload_n C 2 dX4_cross_162 rfl ?_
      refine j_if_eq C 209 dX4_cross_163 (by decide) (fun c3 => ?_) (fun c3 => ?_)
      · have hE := (if_pos c3).symm.trans hE
        exact B.2.2 _ _ _ dX4_cross_209 hE
      · have hE := (if_neg c3).symm.trans hE
        refine j_aload_n C 0 dX4_cross_166 rfl ?_
        refine j_iconst C 1 dX4_cross_167 ic_1 ?_
        refine j_put C kf_4 0 pl_md 21 (by decide) lk_4_119 rfl rfl rfl (Nat.le_of_ble_eq_true rfl) pu_md_crossing dX4_cross_168 ?_
        refine j_aload_n C 0 dX4_cross_171 rfl ?_
        refine j_dup C dX4_cross_172 rfl ?_
        refine j_get C kf_4 0 pl_md 22 (by decide) lk_4_126 rfl dX4_cross_173 ?_
        refine j_iconst C 1 dX4_cross_176 ic_1 ?_
        refine j_iadd C dX4_cross_177 ?_
        refine j_put C kf_4 0 pl_md 22 (by decide) lk_4_126 rfl rfl rfl (Nat.le_of_ble_eq_true rfl) pu_md_crossings dX4_cross_178 ?_
        refine j_iconst C 0 dX4_cross_181 ic_0 ?_
        refine j_istore_n C dX4_cross_182 (by decide) rfl ?_
        refine j_lv [0, 1] rfl ?_
        refine j_lq (congrArg (fun x => ([(3, .int x), (0, .ref (a 0))] : List (Nat × Value))) ix_0) ?_
        exact w_m_cross_183 B 2 0 (up2 (up2 u 0 21 (1 : Int32)) 0 22 (((up2 u 0 21 (1 : Int32)) 0 22) + (1 : Int32))) (by omega) hE
def f_m_cross_38  : Nat → Nat → Int32 → Int32 → St → St
  | 0, i, x9, x8, u => (f_m_cross_151 u x8 x9)
  | n + 1, i, x9, x8, u => (if x8 = (0 : Int32) then (if (f_m_mayEnd u i) = (0 : Int32) then (if x9 = (0 : Int32) then (f_m_cross_38 n (i + 1) (0 : Int32) x8 u) else (if (f_m_mayEnd u i) = (0 : Int32) then (if (u 13 i) = (0 : Int32) then (if (0 : Int32) ≤ (u 12 i) then (f_m_cross_38 n (i + 1) (0 : Int32) x8 u) else (f_m_cross_38 n (i + 1) (1 : Int32) x8 u)) else (f_m_cross_38 n (i + 1) (0 : Int32) x8 u)) else (f_m_cross_38 n (i + 1) (1 : Int32) x8 u))) else (if (u 11 i) = (f_m_second u i (u 0 20)) then (if (f_m_isCalled u ((f_m_first u i (u 0 20)).toNatClampNeg)) = (0 : Int32) then (if x9 = (0 : Int32) then (f_m_cross_38 n (i + 1) (0 : Int32) x8 u) else (if (f_m_mayEnd u i) = (0 : Int32) then (if (u 13 i) = (0 : Int32) then (if (0 : Int32) ≤ (u 12 i) then (f_m_cross_38 n (i + 1) (0 : Int32) x8 u) else (f_m_cross_38 n (i + 1) (1 : Int32) x8 u)) else (f_m_cross_38 n (i + 1) (0 : Int32) x8 u)) else (f_m_cross_38 n (i + 1) (1 : Int32) x8 u))) else (if x9 = (0 : Int32) then (f_m_cross_38 n (i + 1) (0 : Int32) x8 (f_m_goYellow (up2 u 12 i (f_m_first u i (u 0 20))) i)) else (if (f_m_mayEnd (f_m_goYellow (up2 u 12 i (f_m_first u i (u 0 20))) i) i) = (0 : Int32) then (if ((f_m_goYellow (up2 u 12 i (f_m_first u i (u 0 20))) i) 13 i) = (0 : Int32) then (if (0 : Int32) ≤ ((f_m_goYellow (up2 u 12 i (f_m_first u i (u 0 20))) i) 12 i) then (f_m_cross_38 n (i + 1) (0 : Int32) x8 (f_m_goYellow (up2 u 12 i (f_m_first u i (u 0 20))) i)) else (f_m_cross_38 n (i + 1) (1 : Int32) x8 (f_m_goYellow (up2 u 12 i (f_m_first u i (u 0 20))) i))) else (f_m_cross_38 n (i + 1) (0 : Int32) x8 (f_m_goYellow (up2 u 12 i (f_m_first u i (u 0 20))) i))) else (f_m_cross_38 n (i + 1) (1 : Int32) x8 (f_m_goYellow (up2 u 12 i (f_m_first u i (u 0 20))) i))))) else (if x9 = (0 : Int32) then (f_m_cross_38 n (i + 1) (0 : Int32) x8 u) else (if (f_m_mayEnd u i) = (0 : Int32) then (if (u 13 i) = (0 : Int32) then (if (0 : Int32) ≤ (u 12 i) then (f_m_cross_38 n (i + 1) (0 : Int32) x8 u) else (f_m_cross_38 n (i + 1) (1 : Int32) x8 u)) else (f_m_cross_38 n (i + 1) (0 : Int32) x8 u)) else (f_m_cross_38 n (i + 1) (1 : Int32) x8 u))))) else (if x9 = (0 : Int32) then (f_m_cross_38 n (i + 1) (0 : Int32) x8 u) else (if (f_m_mayEnd u i) = (0 : Int32) then (if (u 13 i) = (0 : Int32) then (if (0 : Int32) ≤ (u 12 i) then (f_m_cross_38 n (i + 1) (0 : Int32) x8 u) else (f_m_cross_38 n (i + 1) (1 : Int32) x8 u)) else (f_m_cross_38 n (i + 1) (0 : Int32) x8 u)) else (f_m_cross_38 n (i + 1) (1 : Int32) x8 u))))
def g_m_cross_38  : Nat → Nat → Int32 → Int32 → St → Prop
  | 0, i, x9, x8, u => True
  | n + 1, i, x9, x8, u => ((x8 = (0 : Int32) → ((g_m_mayEnd u i) ∧ (((f_m_mayEnd u i) = (0 : Int32) → ((x9 = (0 : Int32) → (g_m_cross_38 n (i + 1) (0 : Int32) x8 u)) ∧ (¬ x9 = (0 : Int32) → ((g_m_mayEnd u i) ∧ (((f_m_mayEnd u i) = (0 : Int32) → (((u 13 i) = (0 : Int32) → (((0 : Int32) ≤ (u 12 i) → (g_m_cross_38 n (i + 1) (0 : Int32) x8 u)) ∧ (¬ (0 : Int32) ≤ (u 12 i) → (g_m_cross_38 n (i + 1) (1 : Int32) x8 u)))) ∧ (¬ (u 13 i) = (0 : Int32) → (g_m_cross_38 n (i + 1) (0 : Int32) x8 u)))) ∧ (¬ (f_m_mayEnd u i) = (0 : Int32) → (g_m_cross_38 n (i + 1) (1 : Int32) x8 u))))))) ∧ (¬ (f_m_mayEnd u i) = (0 : Int32) → ((g_m_second u i (u 0 20)) ∧ (((u 11 i) = (f_m_second u i (u 0 20)) → ((g_m_first u i (u 0 20)) ∧ ((vp_in (f_m_first u i (u 0 20)) 8) ∧ (((f_m_isCalled u ((f_m_first u i (u 0 20)).toNatClampNeg)) = (0 : Int32) → ((x9 = (0 : Int32) → (g_m_cross_38 n (i + 1) (0 : Int32) x8 u)) ∧ (¬ x9 = (0 : Int32) → ((g_m_mayEnd u i) ∧ (((f_m_mayEnd u i) = (0 : Int32) → (((u 13 i) = (0 : Int32) → (((0 : Int32) ≤ (u 12 i) → (g_m_cross_38 n (i + 1) (0 : Int32) x8 u)) ∧ (¬ (0 : Int32) ≤ (u 12 i) → (g_m_cross_38 n (i + 1) (1 : Int32) x8 u)))) ∧ (¬ (u 13 i) = (0 : Int32) → (g_m_cross_38 n (i + 1) (0 : Int32) x8 u)))) ∧ (¬ (f_m_mayEnd u i) = (0 : Int32) → (g_m_cross_38 n (i + 1) (1 : Int32) x8 u))))))) ∧ (¬ (f_m_isCalled u ((f_m_first u i (u 0 20)).toNatClampNeg)) = (0 : Int32) → ((g_m_first u i (u 0 20)) ∧ ((x9 = (0 : Int32) → (g_m_cross_38 n (i + 1) (0 : Int32) x8 (f_m_goYellow (up2 u 12 i (f_m_first u i (u 0 20))) i))) ∧ (¬ x9 = (0 : Int32) → ((g_m_mayEnd (f_m_goYellow (up2 u 12 i (f_m_first u i (u 0 20))) i) i) ∧ (((f_m_mayEnd (f_m_goYellow (up2 u 12 i (f_m_first u i (u 0 20))) i) i) = (0 : Int32) → ((((f_m_goYellow (up2 u 12 i (f_m_first u i (u 0 20))) i) 13 i) = (0 : Int32) → (((0 : Int32) ≤ ((f_m_goYellow (up2 u 12 i (f_m_first u i (u 0 20))) i) 12 i) → (g_m_cross_38 n (i + 1) (0 : Int32) x8 (f_m_goYellow (up2 u 12 i (f_m_first u i (u 0 20))) i))) ∧ (¬ (0 : Int32) ≤ ((f_m_goYellow (up2 u 12 i (f_m_first u i (u 0 20))) i) 12 i) → (g_m_cross_38 n (i + 1) (1 : Int32) x8 (f_m_goYellow (up2 u 12 i (f_m_first u i (u 0 20))) i))))) ∧ (¬ ((f_m_goYellow (up2 u 12 i (f_m_first u i (u 0 20))) i) 13 i) = (0 : Int32) → (g_m_cross_38 n (i + 1) (0 : Int32) x8 (f_m_goYellow (up2 u 12 i (f_m_first u i (u 0 20))) i))))) ∧ (¬ (f_m_mayEnd (f_m_goYellow (up2 u 12 i (f_m_first u i (u 0 20))) i) i) = (0 : Int32) → (g_m_cross_38 n (i + 1) (1 : Int32) x8 (f_m_goYellow (up2 u 12 i (f_m_first u i (u 0 20))) i))))))))))))) ∧ (¬ (u 11 i) = (f_m_second u i (u 0 20)) → ((x9 = (0 : Int32) → (g_m_cross_38 n (i + 1) (0 : Int32) x8 u)) ∧ (¬ x9 = (0 : Int32) → ((g_m_mayEnd u i) ∧ (((f_m_mayEnd u i) = (0 : Int32) → (((u 13 i) = (0 : Int32) → (((0 : Int32) ≤ (u 12 i) → (g_m_cross_38 n (i + 1) (0 : Int32) x8 u)) ∧ (¬ (0 : Int32) ≤ (u 12 i) → (g_m_cross_38 n (i + 1) (1 : Int32) x8 u)))) ∧ (¬ (u 13 i) = (0 : Int32) → (g_m_cross_38 n (i + 1) (0 : Int32) x8 u)))) ∧ (¬ (f_m_mayEnd u i) = (0 : Int32) → (g_m_cross_38 n (i + 1) (1 : Int32) x8 u))))))))))))) ∧ (¬ x8 = (0 : Int32) → ((x9 = (0 : Int32) → (g_m_cross_38 n (i + 1) (0 : Int32) x8 u)) ∧ (¬ x9 = (0 : Int32) → ((g_m_mayEnd u i) ∧ (((f_m_mayEnd u i) = (0 : Int32) → (((u 13 i) = (0 : Int32) → (((0 : Int32) ≤ (u 12 i) → (g_m_cross_38 n (i + 1) (0 : Int32) x8 u)) ∧ (¬ (0 : Int32) ≤ (u 12 i) → (g_m_cross_38 n (i + 1) (1 : Int32) x8 u)))) ∧ (¬ (u 13 i) = (0 : Int32) → (g_m_cross_38 n (i + 1) (0 : Int32) x8 u)))) ∧ (¬ (f_m_mayEnd u i) = (0 : Int32) → (g_m_cross_38 n (i + 1) (1 : Int32) x8 u))))))))
set_option maxRecDepth 20000 in
set_option maxHeartbeats 1000000 in
theorem w_m_cross_38 {F : St} (B : jk_BV p l e R s m args below meth c cX4_cross 4 RX4 TT D clA (tyl z) (rW z a) A Q rm_m_cross F)  : ∀ (n i : Nat) (x9 : Int32) (x8 : Int32) (u : St), i + n = 2 → f_m_cross_38 n i x9 x8 u = F → g_m_cross_38 n i x9 x8 u → JJ p l e R s m args below meth c 0 0 4 D clA (rW z a) A Q 38 [(3, .int (nI i)), (2, .int x9), (1, .int x8), (0, .ref (a 0))] u [] := by
  have C := B.1
  intro n
  induction n with
  | zero =>
    intro i x9 x8 u hin hE hG
    obtain rfl : i = 2 := by omega
    have hge : (2 : Int32) ≤ nI 2 := by decide
    refine j_iload_n C 0 dX4_cross_38 rfl ?_
    refine j_iconst C 2 dX4_cross_39 ic_2 ?_
    refine j_icmp_ge C 151 dX4_cross_40 (by decide) (fun _ => ?_) (fun hq => absurd hge hq)
    refine j_lv [3, 2, 1] rfl ?_
    exact w_m_cross_151 B hE
  | succ n ih =>
    intro i x9 x8 u hin hE hG
    have hlt : i < 2 := by omega
    have hnge : ¬ (2 : Int32) ≤ nI i := lt2 i hlt
    refine j_iload_n C 0 dX4_cross_38 rfl ?_
    refine j_iconst C 2 dX4_cross_39 ic_2 ?_
    refine j_icmp_ge C 151 dX4_cross_40 (by decide) (fun hq => absurd hq hnge) (fun _ => ?_)
    refine j_iload_n C 2 dX4_cross_43 rfl ?_
    refine j_if_ne C 109 dX4_cross_44 (by decide) (fun c1 => ?_) (fun c1 => ?_)
    · have hE := (if_neg c1).symm.trans hE
      have hG := hG.2 c1
      refine j_iload_n C 1 dX4_cross_109 rfl ?_
      refine j_if_eq C 143 dX4_cross_110 (by decide) (fun c2 => ?_) (fun c2 => ?_)
      · have hE := (if_pos c2).symm.trans hE
        have hG := hG.1 c2
        refine j_iconst C 0 dX4_cross_143 ic_0 ?_
        refine j_istore_n C dX4_cross_144 (by decide) rfl ?_
        refine j_iinc C 1 (nI (i + 1)) dX4_cross_145 rfl (nI_1 _) (by decide) rfl ?_
        refine j_goto C 38 dX4_cross_148 (by decide) ?_
        exact ih (i + 1) (0 : Int32) x8 u (by omega) hE hG
      · have hE := (if_neg c2).symm.trans hE
        have hG := hG.2 c2
        refine j_aload_n C 3 dX4_cross_113 rfl ?_
        refine j_iload_n C 0 dX4_cross_114 rfl ?_
        obtain ⟨hg3, hG⟩ := hG
        refine j_cIV C B.2.1 (c_m_mayEnd l D z a u i hlt hg3) gv_4_110 dd_m_mayEnd ⟨⟨rfl, rfl⟩, Nat.le_of_ble_eq_true rfl, Nat.le_of_ble_eq_true rfl⟩ 0 4 pl_md rfl rfl rfl rfl (Nat.le_of_ble_eq_true rfl) dX4_cross_115 ?_
        refine j_if_ne C 139 dX4_cross_118 (by decide) (fun c4 => ?_) (fun c4 => ?_)
        · have hE := (if_neg c4).symm.trans hE
          have hG := hG.2 c4
          refine j_iconst C 1 dX4_cross_139 ic_1 ?_
          refine j_goto C 144 dX4_cross_140 (by decide) ?_
          refine j_istore_n C dX4_cross_144 (by decide) rfl ?_
          refine j_iinc C 1 (nI (i + 1)) dX4_cross_145 rfl (nI_1 _) (by decide) rfl ?_
          refine j_goto C 38 dX4_cross_148 (by decide) ?_
          exact ih (i + 1) (1 : Int32) x8 u (by omega) hE hG
        · have hE := (if_pos c4).symm.trans hE
          have hG := hG.1 c4
          refine j_aload_n C 3 dX4_cross_121 rfl ?_
          refine j_get C kf_4 0 pl_md 13 (by decide) lk_4_47 rfl dX4_cross_122 ?_
          refine j_iload_n C 0 dX4_cross_125 rfl ?_
          refine j_iald C 13 0 pl_a_phase rfl i rfl hlt (by decide) dX4_cross_126 ?_
          refine j_if_ne C 143 dX4_cross_127 (by decide) (fun c5 => ?_) (fun c5 => ?_)
          · have hE := (if_neg c5).symm.trans hE
            have hG := hG.2 c5
            refine j_iconst C 0 dX4_cross_143 ic_0 ?_
            refine j_istore_n C dX4_cross_144 (by decide) rfl ?_
            refine j_iinc C 1 (nI (i + 1)) dX4_cross_145 rfl (nI_1 _) (by decide) rfl ?_
            refine j_goto C 38 dX4_cross_148 (by decide) ?_
            exact ih (i + 1) (0 : Int32) x8 u (by omega) hE hG
          · have hE := (if_pos c5).symm.trans hE
            have hG := hG.1 c5
            refine j_aload_n C 3 dX4_cross_130 rfl ?_
            refine j_get C kf_4 0 pl_md 12 (by decide) lk_4_44 rfl dX4_cross_131 ?_
            refine j_iload_n C 0 dX4_cross_134 rfl ?_
            refine j_iald C 12 0 pl_a_next rfl i rfl hlt (by decide) dX4_cross_135 ?_
            refine j_if_ge C 143 dX4_cross_136 (by decide) (fun c6 => ?_) (fun c6 => ?_)
            · have hE := (if_pos c6).symm.trans hE
              have hG := hG.1 c6
              refine j_iconst C 0 dX4_cross_143 ic_0 ?_
              refine j_istore_n C dX4_cross_144 (by decide) rfl ?_
              refine j_iinc C 1 (nI (i + 1)) dX4_cross_145 rfl (nI_1 _) (by decide) rfl ?_
              refine j_goto C 38 dX4_cross_148 (by decide) ?_
              exact ih (i + 1) (0 : Int32) x8 u (by omega) hE hG
            · have hE := (if_neg c6).symm.trans hE
              have hG := hG.2 c6
              refine j_iconst C 1 dX4_cross_139 ic_1 ?_
              refine j_goto C 144 dX4_cross_140 (by decide) ?_
              refine j_istore_n C dX4_cross_144 (by decide) rfl ?_
              refine j_iinc C 1 (nI (i + 1)) dX4_cross_145 rfl (nI_1 _) (by decide) rfl ?_
              refine j_goto C 38 dX4_cross_148 (by decide) ?_
              exact ih (i + 1) (1 : Int32) x8 u (by omega) hE hG
    · have hE := (if_pos c1).symm.trans hE
      have hG := hG.1 c1
      refine j_aload_n C 3 dX4_cross_47 rfl ?_
      refine j_iload_n C 0 dX4_cross_48 rfl ?_
      obtain ⟨hg7, hG⟩ := hG
      refine j_cIV C B.2.1 (c_m_mayEnd l D z a u i hlt hg7) gv_4_110 dd_m_mayEnd ⟨⟨rfl, rfl⟩, Nat.le_of_ble_eq_true rfl, Nat.le_of_ble_eq_true rfl⟩ 0 4 pl_md rfl rfl rfl rfl (Nat.le_of_ble_eq_true rfl) dX4_cross_49 ?_
      refine j_if_eq C 109 dX4_cross_52 (by decide) (fun c8 => ?_) (fun c8 => ?_)
      · have hE := (if_pos c8).symm.trans hE
        have hG := hG.1 c8
        refine j_iload_n C 1 dX4_cross_109 rfl ?_
        refine j_if_eq C 143 dX4_cross_110 (by decide) (fun c9 => ?_) (fun c9 => ?_)
        · have hE := (if_pos c9).symm.trans hE
          have hG := hG.1 c9
          refine j_iconst C 0 dX4_cross_143 ic_0 ?_
          refine j_istore_n C dX4_cross_144 (by decide) rfl ?_
          refine j_iinc C 1 (nI (i + 1)) dX4_cross_145 rfl (nI_1 _) (by decide) rfl ?_
          refine j_goto C 38 dX4_cross_148 (by decide) ?_
          exact ih (i + 1) (0 : Int32) x8 u (by omega) hE hG
        · have hE := (if_neg c9).symm.trans hE
          have hG := hG.2 c9
          refine j_aload_n C 3 dX4_cross_113 rfl ?_
          refine j_iload_n C 0 dX4_cross_114 rfl ?_
          obtain ⟨hg10, hG⟩ := hG
          refine j_cIV C B.2.1 (c_m_mayEnd l D z a u i hlt hg10) gv_4_110 dd_m_mayEnd ⟨⟨rfl, rfl⟩, Nat.le_of_ble_eq_true rfl, Nat.le_of_ble_eq_true rfl⟩ 0 4 pl_md rfl rfl rfl rfl (Nat.le_of_ble_eq_true rfl) dX4_cross_115 ?_
          refine j_if_ne C 139 dX4_cross_118 (by decide) (fun c11 => ?_) (fun c11 => ?_)
          · have hE := (if_neg c11).symm.trans hE
            have hG := hG.2 c11
            refine j_iconst C 1 dX4_cross_139 ic_1 ?_
            refine j_goto C 144 dX4_cross_140 (by decide) ?_
            refine j_istore_n C dX4_cross_144 (by decide) rfl ?_
            refine j_iinc C 1 (nI (i + 1)) dX4_cross_145 rfl (nI_1 _) (by decide) rfl ?_
            refine j_goto C 38 dX4_cross_148 (by decide) ?_
            exact ih (i + 1) (1 : Int32) x8 u (by omega) hE hG
          · have hE := (if_pos c11).symm.trans hE
            have hG := hG.1 c11
            refine j_aload_n C 3 dX4_cross_121 rfl ?_
            refine j_get C kf_4 0 pl_md 13 (by decide) lk_4_47 rfl dX4_cross_122 ?_
            refine j_iload_n C 0 dX4_cross_125 rfl ?_
            refine j_iald C 13 0 pl_a_phase rfl i rfl hlt (by decide) dX4_cross_126 ?_
            refine j_if_ne C 143 dX4_cross_127 (by decide) (fun c12 => ?_) (fun c12 => ?_)
            · have hE := (if_neg c12).symm.trans hE
              have hG := hG.2 c12
              refine j_iconst C 0 dX4_cross_143 ic_0 ?_
              refine j_istore_n C dX4_cross_144 (by decide) rfl ?_
              refine j_iinc C 1 (nI (i + 1)) dX4_cross_145 rfl (nI_1 _) (by decide) rfl ?_
              refine j_goto C 38 dX4_cross_148 (by decide) ?_
              exact ih (i + 1) (0 : Int32) x8 u (by omega) hE hG
            · have hE := (if_pos c12).symm.trans hE
              have hG := hG.1 c12
              refine j_aload_n C 3 dX4_cross_130 rfl ?_
              refine j_get C kf_4 0 pl_md 12 (by decide) lk_4_44 rfl dX4_cross_131 ?_
              refine j_iload_n C 0 dX4_cross_134 rfl ?_
              refine j_iald C 12 0 pl_a_next rfl i rfl hlt (by decide) dX4_cross_135 ?_
              refine j_if_ge C 143 dX4_cross_136 (by decide) (fun c13 => ?_) (fun c13 => ?_)
              · have hE := (if_pos c13).symm.trans hE
                have hG := hG.1 c13
                refine j_iconst C 0 dX4_cross_143 ic_0 ?_
                refine j_istore_n C dX4_cross_144 (by decide) rfl ?_
                refine j_iinc C 1 (nI (i + 1)) dX4_cross_145 rfl (nI_1 _) (by decide) rfl ?_
                refine j_goto C 38 dX4_cross_148 (by decide) ?_
                exact ih (i + 1) (0 : Int32) x8 u (by omega) hE hG
              · have hE := (if_neg c13).symm.trans hE
                have hG := hG.2 c13
                refine j_iconst C 1 dX4_cross_139 ic_1 ?_
                refine j_goto C 144 dX4_cross_140 (by decide) ?_
                refine j_istore_n C dX4_cross_144 (by decide) rfl ?_
                refine j_iinc C 1 (nI (i + 1)) dX4_cross_145 rfl (nI_1 _) (by decide) rfl ?_
                refine j_goto C 38 dX4_cross_148 (by decide) ?_
                exact ih (i + 1) (1 : Int32) x8 u (by omega) hE hG
      · have hE := (if_neg c8).symm.trans hE
        have hG := hG.2 c8
        refine j_aload_n C 3 dX4_cross_55 rfl ?_
        refine j_get C kf_4 0 pl_md 11 (by decide) lk_4_41 rfl dX4_cross_56 ?_
        refine j_iload_n C 0 dX4_cross_59 rfl ?_
        refine j_iald C 11 0 pl_a_now rfl i rfl hlt (by decide) dX4_cross_60 ?_
        refine j_aload_n C 3 dX4_cross_61 rfl ?_
        refine j_iload_n C 0 dX4_cross_62 rfl ?_
        refine j_aload_n C 3 dX4_cross_63 rfl ?_
        refine j_get C kf_4 0 pl_md 20 (by decide) lk_4_113 rfl dX4_cross_64 ?_
        obtain ⟨hg14, hG⟩ := hG
        refine j_cIV C B.2.1 (c_m_second l D z a u i (u 0 20) hlt hg14) gv_4_97 dd_m_second ⟨⟨rfl, rfl⟩, Nat.le_of_ble_eq_true rfl, Nat.le_of_ble_eq_true rfl⟩ 0 4 pl_md rfl rfl rfl rfl (Nat.le_of_ble_eq_true rfl) dX4_cross_67 ?_
        refine j_icmp_ne C 109 dX4_cross_70 (by decide) (fun c15 => ?_) (fun c15 => ?_)
        · have hE := (if_neg c15).symm.trans hE
          have hG := hG.2 c15
          refine j_iload_n C 1 dX4_cross_109 rfl ?_
          refine j_if_eq C 143 dX4_cross_110 (by decide) (fun c16 => ?_) (fun c16 => ?_)
          · have hE := (if_pos c16).symm.trans hE
            have hG := hG.1 c16
            refine j_iconst C 0 dX4_cross_143 ic_0 ?_
            refine j_istore_n C dX4_cross_144 (by decide) rfl ?_
            refine j_iinc C 1 (nI (i + 1)) dX4_cross_145 rfl (nI_1 _) (by decide) rfl ?_
            refine j_goto C 38 dX4_cross_148 (by decide) ?_
            exact ih (i + 1) (0 : Int32) x8 u (by omega) hE hG
          · have hE := (if_neg c16).symm.trans hE
            have hG := hG.2 c16
            refine j_aload_n C 3 dX4_cross_113 rfl ?_
            refine j_iload_n C 0 dX4_cross_114 rfl ?_
            obtain ⟨hg17, hG⟩ := hG
            refine j_cIV C B.2.1 (c_m_mayEnd l D z a u i hlt hg17) gv_4_110 dd_m_mayEnd ⟨⟨rfl, rfl⟩, Nat.le_of_ble_eq_true rfl, Nat.le_of_ble_eq_true rfl⟩ 0 4 pl_md rfl rfl rfl rfl (Nat.le_of_ble_eq_true rfl) dX4_cross_115 ?_
            refine j_if_ne C 139 dX4_cross_118 (by decide) (fun c18 => ?_) (fun c18 => ?_)
            · have hE := (if_neg c18).symm.trans hE
              have hG := hG.2 c18
              refine j_iconst C 1 dX4_cross_139 ic_1 ?_
              refine j_goto C 144 dX4_cross_140 (by decide) ?_
              refine j_istore_n C dX4_cross_144 (by decide) rfl ?_
              refine j_iinc C 1 (nI (i + 1)) dX4_cross_145 rfl (nI_1 _) (by decide) rfl ?_
              refine j_goto C 38 dX4_cross_148 (by decide) ?_
              exact ih (i + 1) (1 : Int32) x8 u (by omega) hE hG
            · have hE := (if_pos c18).symm.trans hE
              have hG := hG.1 c18
              refine j_aload_n C 3 dX4_cross_121 rfl ?_
              refine j_get C kf_4 0 pl_md 13 (by decide) lk_4_47 rfl dX4_cross_122 ?_
              refine j_iload_n C 0 dX4_cross_125 rfl ?_
              refine j_iald C 13 0 pl_a_phase rfl i rfl hlt (by decide) dX4_cross_126 ?_
              refine j_if_ne C 143 dX4_cross_127 (by decide) (fun c19 => ?_) (fun c19 => ?_)
              · have hE := (if_neg c19).symm.trans hE
                have hG := hG.2 c19
                refine j_iconst C 0 dX4_cross_143 ic_0 ?_
                refine j_istore_n C dX4_cross_144 (by decide) rfl ?_
                refine j_iinc C 1 (nI (i + 1)) dX4_cross_145 rfl (nI_1 _) (by decide) rfl ?_
                refine j_goto C 38 dX4_cross_148 (by decide) ?_
                exact ih (i + 1) (0 : Int32) x8 u (by omega) hE hG
              · have hE := (if_pos c19).symm.trans hE
                have hG := hG.1 c19
                refine j_aload_n C 3 dX4_cross_130 rfl ?_
                refine j_get C kf_4 0 pl_md 12 (by decide) lk_4_44 rfl dX4_cross_131 ?_
                refine j_iload_n C 0 dX4_cross_134 rfl ?_
                refine j_iald C 12 0 pl_a_next rfl i rfl hlt (by decide) dX4_cross_135 ?_
                refine j_if_ge C 143 dX4_cross_136 (by decide) (fun c20 => ?_) (fun c20 => ?_)
                · have hE := (if_pos c20).symm.trans hE
                  have hG := hG.1 c20
                  refine j_iconst C 0 dX4_cross_143 ic_0 ?_
                  refine j_istore_n C dX4_cross_144 (by decide) rfl ?_
                  refine j_iinc C 1 (nI (i + 1)) dX4_cross_145 rfl (nI_1 _) (by decide) rfl ?_
                  refine j_goto C 38 dX4_cross_148 (by decide) ?_
                  exact ih (i + 1) (0 : Int32) x8 u (by omega) hE hG
                · have hE := (if_neg c20).symm.trans hE
                  have hG := hG.2 c20
                  refine j_iconst C 1 dX4_cross_139 ic_1 ?_
                  refine j_goto C 144 dX4_cross_140 (by decide) ?_
                  refine j_istore_n C dX4_cross_144 (by decide) rfl ?_
                  refine j_iinc C 1 (nI (i + 1)) dX4_cross_145 rfl (nI_1 _) (by decide) rfl ?_
                  refine j_goto C 38 dX4_cross_148 (by decide) ?_
                  exact ih (i + 1) (1 : Int32) x8 u (by omega) hE hG
        · have hE := (if_pos c15).symm.trans hE
          have hG := hG.1 c15
          refine j_aload_n C 3 dX4_cross_73 rfl ?_
          refine j_aload_n C 3 dX4_cross_74 rfl ?_
          refine j_iload_n C 0 dX4_cross_75 rfl ?_
          refine j_aload_n C 3 dX4_cross_76 rfl ?_
          refine j_get C kf_4 0 pl_md 20 (by decide) lk_4_113 rfl dX4_cross_77 ?_
          obtain ⟨hg21, hG⟩ := hG
          refine j_cIV C B.2.1 (c_m_first l D z a u i (u 0 20) hlt hg21) gv_4_93 dd_m_first ⟨⟨rfl, rfl⟩, Nat.le_of_ble_eq_true rfl, Nat.le_of_ble_eq_true rfl⟩ 0 4 pl_md rfl rfl rfl rfl (Nat.le_of_ble_eq_true rfl) dX4_cross_80 ?_
          obtain ⟨hv22, hG⟩ := hG
          have lhv22 := jk_lt hv22
          refine j_st (st' := [.int (nI ((f_m_first u i (u 0 20)).toNatClampNeg)), .ref (a 0)]) (congrArg (fun x => ([.int x, .ref (a 0)] : List Value)) (jk_self hv22 (by decide))) ?_
          refine j_cIV C B.2.1 (c_m_isCalled l D z a u ((f_m_first u i (u 0 20)).toNatClampNeg) (jk_lt hv22)) gv_4_100 dd_m_isCalled ⟨⟨rfl, rfl⟩, Nat.le_of_ble_eq_true rfl, Nat.le_of_ble_eq_true rfl⟩ 0 4 pl_md rfl rfl rfl rfl (Nat.le_of_ble_eq_true rfl) dX4_cross_83 ?_
          refine j_if_eq C 109 dX4_cross_86 (by decide) (fun c23 => ?_) (fun c23 => ?_)
          · have hE := (if_pos c23).symm.trans hE
            have hG := hG.1 c23
            refine j_iload_n C 1 dX4_cross_109 rfl ?_
            refine j_if_eq C 143 dX4_cross_110 (by decide) (fun c24 => ?_) (fun c24 => ?_)
            · have hE := (if_pos c24).symm.trans hE
              have hG := hG.1 c24
              refine j_iconst C 0 dX4_cross_143 ic_0 ?_
              refine j_istore_n C dX4_cross_144 (by decide) rfl ?_
              refine j_iinc C 1 (nI (i + 1)) dX4_cross_145 rfl (nI_1 _) (by decide) rfl ?_
              refine j_goto C 38 dX4_cross_148 (by decide) ?_
              exact ih (i + 1) (0 : Int32) x8 u (by omega) hE hG
            · have hE := (if_neg c24).symm.trans hE
              have hG := hG.2 c24
              refine j_aload_n C 3 dX4_cross_113 rfl ?_
              refine j_iload_n C 0 dX4_cross_114 rfl ?_
              obtain ⟨hg25, hG⟩ := hG
              refine j_cIV C B.2.1 (c_m_mayEnd l D z a u i hlt hg25) gv_4_110 dd_m_mayEnd ⟨⟨rfl, rfl⟩, Nat.le_of_ble_eq_true rfl, Nat.le_of_ble_eq_true rfl⟩ 0 4 pl_md rfl rfl rfl rfl (Nat.le_of_ble_eq_true rfl) dX4_cross_115 ?_
              refine j_if_ne C 139 dX4_cross_118 (by decide) (fun c26 => ?_) (fun c26 => ?_)
              · have hE := (if_neg c26).symm.trans hE
                have hG := hG.2 c26
                refine j_iconst C 1 dX4_cross_139 ic_1 ?_
                refine j_goto C 144 dX4_cross_140 (by decide) ?_
                refine j_istore_n C dX4_cross_144 (by decide) rfl ?_
                refine j_iinc C 1 (nI (i + 1)) dX4_cross_145 rfl (nI_1 _) (by decide) rfl ?_
                refine j_goto C 38 dX4_cross_148 (by decide) ?_
                exact ih (i + 1) (1 : Int32) x8 u (by omega) hE hG
              · have hE := (if_pos c26).symm.trans hE
                have hG := hG.1 c26
                refine j_aload_n C 3 dX4_cross_121 rfl ?_
                refine j_get C kf_4 0 pl_md 13 (by decide) lk_4_47 rfl dX4_cross_122 ?_
                refine j_iload_n C 0 dX4_cross_125 rfl ?_
                refine j_iald C 13 0 pl_a_phase rfl i rfl hlt (by decide) dX4_cross_126 ?_
                refine j_if_ne C 143 dX4_cross_127 (by decide) (fun c27 => ?_) (fun c27 => ?_)
                · have hE := (if_neg c27).symm.trans hE
                  have hG := hG.2 c27
                  refine j_iconst C 0 dX4_cross_143 ic_0 ?_
                  refine j_istore_n C dX4_cross_144 (by decide) rfl ?_
                  refine j_iinc C 1 (nI (i + 1)) dX4_cross_145 rfl (nI_1 _) (by decide) rfl ?_
                  refine j_goto C 38 dX4_cross_148 (by decide) ?_
                  exact ih (i + 1) (0 : Int32) x8 u (by omega) hE hG
                · have hE := (if_pos c27).symm.trans hE
                  have hG := hG.1 c27
                  refine j_aload_n C 3 dX4_cross_130 rfl ?_
                  refine j_get C kf_4 0 pl_md 12 (by decide) lk_4_44 rfl dX4_cross_131 ?_
                  refine j_iload_n C 0 dX4_cross_134 rfl ?_
                  refine j_iald C 12 0 pl_a_next rfl i rfl hlt (by decide) dX4_cross_135 ?_
                  refine j_if_ge C 143 dX4_cross_136 (by decide) (fun c28 => ?_) (fun c28 => ?_)
                  · have hE := (if_pos c28).symm.trans hE
                    have hG := hG.1 c28
                    refine j_iconst C 0 dX4_cross_143 ic_0 ?_
                    refine j_istore_n C dX4_cross_144 (by decide) rfl ?_
                    refine j_iinc C 1 (nI (i + 1)) dX4_cross_145 rfl (nI_1 _) (by decide) rfl ?_
                    refine j_goto C 38 dX4_cross_148 (by decide) ?_
                    exact ih (i + 1) (0 : Int32) x8 u (by omega) hE hG
                  · have hE := (if_neg c28).symm.trans hE
                    have hG := hG.2 c28
                    refine j_iconst C 1 dX4_cross_139 ic_1 ?_
                    refine j_goto C 144 dX4_cross_140 (by decide) ?_
                    refine j_istore_n C dX4_cross_144 (by decide) rfl ?_
                    refine j_iinc C 1 (nI (i + 1)) dX4_cross_145 rfl (nI_1 _) (by decide) rfl ?_
                    refine j_goto C 38 dX4_cross_148 (by decide) ?_
                    exact ih (i + 1) (1 : Int32) x8 u (by omega) hE hG
          · have hE := (if_neg c23).symm.trans hE
            have hG := hG.2 c23
            refine j_aload_n C 3 dX4_cross_89 rfl ?_
            refine j_get C kf_4 0 pl_md 12 (by decide) lk_4_44 rfl dX4_cross_90 ?_
            refine j_iload_n C 0 dX4_cross_93 rfl ?_
            refine j_aload_n C 3 dX4_cross_94 rfl ?_
            refine j_iload_n C 0 dX4_cross_95 rfl ?_
            refine j_aload_n C 3 dX4_cross_96 rfl ?_
            refine j_get C kf_4 0 pl_md 20 (by decide) lk_4_113 rfl dX4_cross_97 ?_
            obtain ⟨hg29, hG⟩ := hG
            refine j_cIV C B.2.1 (c_m_first l D z a u i (u 0 20) hlt hg29) gv_4_93 dd_m_first ⟨⟨rfl, rfl⟩, Nat.le_of_ble_eq_true rfl, Nat.le_of_ble_eq_true rfl⟩ 0 4 pl_md rfl rfl rfl rfl (Nat.le_of_ble_eq_true rfl) dX4_cross_100 ?_
            refine j_iast C 12 0 pl_a_next rfl i rfl hlt (by decide) pu_a_next dX4_cross_103 ?_
            refine j_aload_n C 3 dX4_cross_104 rfl ?_
            refine j_iload_n C 0 dX4_cross_105 rfl ?_
            refine j_cVV C B.2.1 (c_m_goYellow l D z a (up2 u 12 i (f_m_first u i (u 0 20))) i hlt) gv_4_116 dd_m_goYellow ⟨⟨rfl, rfl⟩, Nat.le_of_ble_eq_true rfl, Nat.le_of_ble_eq_true rfl⟩ 0 4 pl_md rfl rfl rfl rfl (Nat.le_of_ble_eq_true rfl) dX4_cross_106 ?_
            refine j_iload_n C 1 dX4_cross_109 rfl ?_
            refine j_if_eq C 143 dX4_cross_110 (by decide) (fun c30 => ?_) (fun c30 => ?_)
            · have hE := (if_pos c30).symm.trans hE
              have hG := hG.1 c30
              refine j_iconst C 0 dX4_cross_143 ic_0 ?_
              refine j_istore_n C dX4_cross_144 (by decide) rfl ?_
              refine j_iinc C 1 (nI (i + 1)) dX4_cross_145 rfl (nI_1 _) (by decide) rfl ?_
              refine j_goto C 38 dX4_cross_148 (by decide) ?_
              exact ih (i + 1) (0 : Int32) x8 (f_m_goYellow (up2 u 12 i (f_m_first u i (u 0 20))) i) (by omega) hE hG
            · have hE := (if_neg c30).symm.trans hE
              have hG := hG.2 c30
              refine j_aload_n C 3 dX4_cross_113 rfl ?_
              refine j_iload_n C 0 dX4_cross_114 rfl ?_
              obtain ⟨hg31, hG⟩ := hG
              refine j_cIV C B.2.1 (c_m_mayEnd l D z a (f_m_goYellow (up2 u 12 i (f_m_first u i (u 0 20))) i) i hlt hg31) gv_4_110 dd_m_mayEnd ⟨⟨rfl, rfl⟩, Nat.le_of_ble_eq_true rfl, Nat.le_of_ble_eq_true rfl⟩ 0 4 pl_md rfl rfl rfl rfl (Nat.le_of_ble_eq_true rfl) dX4_cross_115 ?_
              refine j_if_ne C 139 dX4_cross_118 (by decide) (fun c32 => ?_) (fun c32 => ?_)
              · have hE := (if_neg c32).symm.trans hE
                have hG := hG.2 c32
                refine j_iconst C 1 dX4_cross_139 ic_1 ?_
                refine j_goto C 144 dX4_cross_140 (by decide) ?_
                refine j_istore_n C dX4_cross_144 (by decide) rfl ?_
                refine j_iinc C 1 (nI (i + 1)) dX4_cross_145 rfl (nI_1 _) (by decide) rfl ?_
                refine j_goto C 38 dX4_cross_148 (by decide) ?_
                exact ih (i + 1) (1 : Int32) x8 (f_m_goYellow (up2 u 12 i (f_m_first u i (u 0 20))) i) (by omega) hE hG
              · have hE := (if_pos c32).symm.trans hE
                have hG := hG.1 c32
                refine j_aload_n C 3 dX4_cross_121 rfl ?_
                refine j_get C kf_4 0 pl_md 13 (by decide) lk_4_47 rfl dX4_cross_122 ?_
                refine j_iload_n C 0 dX4_cross_125 rfl ?_
                refine j_iald C 13 0 pl_a_phase rfl i rfl hlt (by decide) dX4_cross_126 ?_
                refine j_if_ne C 143 dX4_cross_127 (by decide) (fun c33 => ?_) (fun c33 => ?_)
                · have hE := (if_neg c33).symm.trans hE
                  have hG := hG.2 c33
                  refine j_iconst C 0 dX4_cross_143 ic_0 ?_
                  refine j_istore_n C dX4_cross_144 (by decide) rfl ?_
                  refine j_iinc C 1 (nI (i + 1)) dX4_cross_145 rfl (nI_1 _) (by decide) rfl ?_
                  refine j_goto C 38 dX4_cross_148 (by decide) ?_
                  exact ih (i + 1) (0 : Int32) x8 (f_m_goYellow (up2 u 12 i (f_m_first u i (u 0 20))) i) (by omega) hE hG
                · have hE := (if_pos c33).symm.trans hE
                  have hG := hG.1 c33
                  refine j_aload_n C 3 dX4_cross_130 rfl ?_
                  refine j_get C kf_4 0 pl_md 12 (by decide) lk_4_44 rfl dX4_cross_131 ?_
                  refine j_iload_n C 0 dX4_cross_134 rfl ?_
                  refine j_iald C 12 0 pl_a_next rfl i rfl hlt (by decide) dX4_cross_135 ?_
                  refine j_if_ge C 143 dX4_cross_136 (by decide) (fun c34 => ?_) (fun c34 => ?_)
                  · have hE := (if_pos c34).symm.trans hE
                    have hG := hG.1 c34
                    refine j_iconst C 0 dX4_cross_143 ic_0 ?_
                    refine j_istore_n C dX4_cross_144 (by decide) rfl ?_
                    refine j_iinc C 1 (nI (i + 1)) dX4_cross_145 rfl (nI_1 _) (by decide) rfl ?_
                    refine j_goto C 38 dX4_cross_148 (by decide) ?_
                    exact ih (i + 1) (0 : Int32) x8 (f_m_goYellow (up2 u 12 i (f_m_first u i (u 0 20))) i) (by omega) hE hG
                  · have hE := (if_neg c34).symm.trans hE
                    have hG := hG.2 c34
                    refine j_iconst C 1 dX4_cross_139 ic_1 ?_
                    refine j_goto C 144 dX4_cross_140 (by decide) ?_
                    refine j_istore_n C dX4_cross_144 (by decide) rfl ?_
                    refine j_iinc C 1 (nI (i + 1)) dX4_cross_145 rfl (nI_1 _) (by decide) rfl ?_
                    refine j_goto C 38 dX4_cross_148 (by decide) ?_
                    exact ih (i + 1) (1 : Int32) x8 (f_m_goYellow (up2 u 12 i (f_m_first u i (u 0 20))) i) (by omega) hE hG
def f_m_cross (u : St)  : St := (if (0 : Int32) ≤ (f_m_calledOf u 0 ((1 : Int32) - (u 0 20))) then (f_m_cross_38 2 0 (1 : Int32) (1 : Int32) u) else (if (f_m_calledOf u 1 ((1 : Int32) - (u 0 20))) < (0 : Int32) then (f_m_cross_38 2 0 (1 : Int32) (0 : Int32) u) else (f_m_cross_38 2 0 (1 : Int32) (1 : Int32) u)))
def g_m_cross (u : St)  : Prop := ((g_m_calledOf u 0 ((1 : Int32) - (u 0 20))) ∧ (((0 : Int32) ≤ (f_m_calledOf u 0 ((1 : Int32) - (u 0 20))) → (g_m_cross_38 2 0 (1 : Int32) (1 : Int32) u)) ∧ (¬ (0 : Int32) ≤ (f_m_calledOf u 0 ((1 : Int32) - (u 0 20))) → ((g_m_calledOf u 1 ((1 : Int32) - (u 0 20))) ∧ (((f_m_calledOf u 1 ((1 : Int32) - (u 0 20))) < (0 : Int32) → (g_m_cross_38 2 0 (1 : Int32) (0 : Int32) u)) ∧ (¬ (f_m_calledOf u 1 ((1 : Int32) - (u 0 20))) < (0 : Int32) → (g_m_cross_38 2 0 (1 : Int32) (1 : Int32) u)))))))
set_option maxRecDepth 20000 in
set_option maxHeartbeats 1000000 in
theorem w_m_cross_0 {F : St} {u : St} (B : jk_BV p l e R s m args below meth c cX4_cross 4 RX4 TT D clA (tyl z) (rW z a) A Q rm_m_cross F)  (hE : f_m_cross u = F) (hG : g_m_cross u) : JJ p l e R s m args below meth c 0 0 4 D clA (rW z a) A Q 0 [(0, .ref (a 0))] u [] := by
  have C := B.1
  unfold f_m_cross at hE
  unfold g_m_cross at hG
  refine j_aload_n C 0 dX4_cross_0 rfl ?_
  refine j_iconst C 0 dX4_cross_1 ic_0 ?_
  refine j_iconst C 1 dX4_cross_2 ic_1 ?_
  refine j_aload_n C 0 dX4_cross_3 rfl ?_
  refine j_get C kf_4 0 pl_md 20 (by decide) lk_4_113 rfl dX4_cross_4 ?_
  refine j_isub C dX4_cross_7 ?_
  obtain ⟨hg1, hG⟩ := hG
  refine j_st (st' := [.int ((1 : Int32) - (u 0 20)), .int (nI 0), .ref (a 0)]) (congrArg (fun x => ([.int ((1 : Int32) - (u 0 20)), .int x, .ref (a 0)] : List Value)) ix_0) ?_
  refine j_cIV C B.2.1 (c_m_calledOf l D z a u 0 ((1 : Int32) - (u 0 20)) (by decide) hg1) gv_4_123 dd_m_calledOf ⟨⟨rfl, rfl⟩, Nat.le_of_ble_eq_true rfl, Nat.le_of_ble_eq_true rfl⟩ 0 4 pl_md rfl rfl rfl rfl (Nat.le_of_ble_eq_true rfl) dX4_cross_8 ?_
  refine j_if_ge C 28 dX4_cross_11 (by decide) (fun c2 => ?_) (fun c2 => ?_)
  · have hE := (if_pos c2).symm.trans hE
    have hG := hG.1 c2
    refine j_iconst C 1 dX4_cross_28 ic_1 ?_
    refine j_goto C 33 dX4_cross_29 (by decide) ?_
    refine j_istore_n C dX4_cross_33 (by decide) rfl ?_
    refine j_iconst C 1 dX4_cross_34 ic_1 ?_
    refine j_istore_n C dX4_cross_35 (by decide) rfl ?_
    refine j_iconst C 0 dX4_cross_36 ic_0 ?_
    refine j_istore_n C dX4_cross_37 (by decide) rfl ?_
    refine j_lq (congrArg (fun x => ([(3, .int x), (2, .int 1), (1, .int 1), (0, .ref (a 0))] : List (Nat × Value))) ix_0) ?_
    exact w_m_cross_38 B 2 0 (1 : Int32) (1 : Int32) u (by omega) hE hG
  · have hE := (if_neg c2).symm.trans hE
    have hG := hG.2 c2
    refine j_aload_n C 0 dX4_cross_14 rfl ?_
    refine j_iconst C 1 dX4_cross_15 ic_1 ?_
    refine j_iconst C 1 dX4_cross_16 ic_1 ?_
    refine j_aload_n C 0 dX4_cross_17 rfl ?_
    refine j_get C kf_4 0 pl_md 20 (by decide) lk_4_113 rfl dX4_cross_18 ?_
    refine j_isub C dX4_cross_21 ?_
    obtain ⟨hg3, hG⟩ := hG
    refine j_st (st' := [.int ((1 : Int32) - (u 0 20)), .int (nI 1), .ref (a 0)]) (congrArg (fun x => ([.int ((1 : Int32) - (u 0 20)), .int x, .ref (a 0)] : List Value)) ix_1) ?_
    refine j_cIV C B.2.1 (c_m_calledOf l D z a u 1 ((1 : Int32) - (u 0 20)) (by decide) hg3) gv_4_123 dd_m_calledOf ⟨⟨rfl, rfl⟩, Nat.le_of_ble_eq_true rfl, Nat.le_of_ble_eq_true rfl⟩ 0 4 pl_md rfl rfl rfl rfl (Nat.le_of_ble_eq_true rfl) dX4_cross_22 ?_
    refine j_if_lt C 32 dX4_cross_25 (by decide) (fun c4 => ?_) (fun c4 => ?_)
    · have hE := (if_pos c4).symm.trans hE
      have hG := hG.1 c4
      refine j_iconst C 0 dX4_cross_32 ic_0 ?_
      refine j_istore_n C dX4_cross_33 (by decide) rfl ?_
      refine j_iconst C 1 dX4_cross_34 ic_1 ?_
      refine j_istore_n C dX4_cross_35 (by decide) rfl ?_
      refine j_iconst C 0 dX4_cross_36 ic_0 ?_
      refine j_istore_n C dX4_cross_37 (by decide) rfl ?_
      refine j_lq (congrArg (fun x => ([(3, .int x), (2, .int 1), (1, .int 0), (0, .ref (a 0))] : List (Nat × Value))) ix_0) ?_
      exact w_m_cross_38 B 2 0 (1 : Int32) (0 : Int32) u (by omega) hE hG
    · have hE := (if_neg c4).symm.trans hE
      have hG := hG.2 c4
      refine j_iconst C 1 dX4_cross_28 ic_1 ?_
      refine j_goto C 33 dX4_cross_29 (by decide) ?_
      refine j_istore_n C dX4_cross_33 (by decide) rfl ?_
      refine j_iconst C 1 dX4_cross_34 ic_1 ?_
      refine j_istore_n C dX4_cross_35 (by decide) rfl ?_
      refine j_iconst C 0 dX4_cross_36 ic_0 ?_
      refine j_istore_n C dX4_cross_37 (by decide) rfl ?_
      refine j_lq (congrArg (fun x => ([(3, .int x), (2, .int 1), (1, .int 1), (0, .ref (a 0))] : List (Nat × Value))) ix_0) ?_
      exact w_m_cross_38 B 2 0 (1 : Int32) (1 : Int32) u (by omega) hE hG
theorem c_m_cross (l : Launch) (D : va_G) (z : Nat → ClassId) (a : Nat → Nat) (u : St)  (hG : g_m_cross u) : CtV l yX4_cross (.code yX4_cross cX4_cross 4 none :: TT) rm_m_cross D clA (tyl z) (rW z a) [.ref (a 0)] u (f_m_cross u) :=
  jk_metV (own := RX4) (by decide) rfl (Nat.le_of_ble_eq_true rfl) (fun _ _ _ _ _ _ _ _ _ _ _ B => w_m_cross_0 B rfl hG)
end WLK

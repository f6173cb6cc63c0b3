section WLK
variable {p : Program} {l : Launch} {e : Env} {R : Room} {s : State} {m : MethodId} {args : Array Value} {below : List Frame} {meth : Method} {c : Code} {D : va_G} {z : Nat → ClassId} {a : Nat → Nat} {A : Nat → Prop} {Q : State → Prop}
def rm_m_comesAlong : Room := { frames := 1, cells := 0, slots := 0, locals := 22 }
def f_m_comesAlong (u : St) (k0 : Nat) : Int32 := (if (f_m_has u k0 (1 : Int32)) = (0 : Int32) then (0 : Int32) else (if (f_m_has u k0 (32 : Int32)) = (0 : Int32) then (0 : Int32) else (1 : Int32)))
set_option maxRecDepth 20000 in
set_option maxHeartbeats 1000000 in
theorem w_m_comesAlong_0 {Fr : Int32} {u : St} (B : jk_BI p l e R s m args below meth c cX4_comesAlong 2 RX4 TT .boolean D clA (tyl z) (rW z a) A Q rm_m_comesAlong (Fr, u)) {k0 : Nat} (hk0 : k0 < 8) (hE : f_m_comesAlong u k0 = Fr) : JJ p l e R s m args below meth c 0 0 2 D clA (rW z a) A Q 0 [(0, .ref (a 0)), (1, .int (nI k0))] u [] := by
  have C := B.1
  unfold f_m_comesAlong at hE
  refine j_aload_n C 0 dX4_comesAlong_0 rfl ?_
  refine j_iload_n C 1 dX4_comesAlong_1 rfl ?_
  refine j_iconst C 1 dX4_comesAlong_2 ic_1 ?_
  refine j_cIV C B.2.1 (c_m_has l D z a u k0 (1 : Int32) hk0) gv_4_75 dd_m_has ⟨⟨rfl, rfl⟩, Nat.le_of_ble_eq_true rfl, Nat.le_of_ble_eq_true rfl⟩ 0 4 pl_md rfl rfl rfl rfl (Nat.le_of_ble_eq_true rfl) dX4_comesAlong_3 ?_
  refine j_if_eq C 23 dX4_comesAlong_6 (by decide) (fun c1 => ?_) (fun c1 => ?_)
  · have hE := (if_pos c1).symm.trans hE
    refine j_iconst C 0 dX4_comesAlong_23 ic_0 ?_
    exact B.2.2 _ _ _ _ dX4_comesAlong_24 rfl (congrArg (fun x => (x, u)) hE)
  · have hE := (if_neg c1).symm.trans hE
    refine j_aload_n C 0 dX4_comesAlong_9 rfl ?_
    refine j_iload_n C 1 dX4_comesAlong_10 rfl ?_
    refine j_bipush C 32 dX4_comesAlong_11 bp_32 ?_
    refine j_cIV C B.2.1 (c_m_has l D z a u k0 (32 : Int32) hk0) gv_4_75 dd_m_has ⟨⟨rfl, rfl⟩, Nat.le_of_ble_eq_true rfl, Nat.le_of_ble_eq_true rfl⟩ 0 4 pl_md rfl rfl rfl rfl (Nat.le_of_ble_eq_true rfl) dX4_comesAlong_13 ?_
    refine j_if_eq C 23 dX4_comesAlong_16 (by decide) (fun c2 => ?_) (fun c2 => ?_)
    · have hE := (if_pos c2).symm.trans hE
      refine j_iconst C 0 dX4_comesAlong_23 ic_0 ?_
      exact B.2.2 _ _ _ _ dX4_comesAlong_24 rfl (congrArg (fun x => (x, u)) hE)
    · have hE := (if_neg c2).symm.trans hE
      refine j_iconst C 1 dX4_comesAlong_19 ic_1 ?_
      refine j_goto C 24 dX4_comesAlong_20 (by decide) ?_
      exact B.2.2 _ _ _ _ dX4_comesAlong_24 rfl (congrArg (fun x => (x, u)) hE)
theorem c_m_comesAlong (l : Launch) (D : va_G) (z : Nat → ClassId) (a : Nat → Nat) (u : St) (k0 : Nat) (hk0 : k0 < 8) : CtI l yX4_comesAlong (.code yX4_comesAlong cX4_comesAlong 2 (some .boolean) :: TT) rm_m_comesAlong D clA (tyl z) (rW z a) [.ref (a 0), .int (nI k0)] u (f_m_comesAlong u k0) u :=
  jk_metI (own := RX4) (by decide) rfl (Nat.le_of_ble_eq_true rfl) (fun _ _ _ _ _ _ _ _ _ _ _ B => w_m_comesAlong_0 B hk0 rfl)
def rm_m_begin : Room := { frames := 1, cells := 0, slots := 0, locals := 22 }
def f_m_begin_146 (u : St) (k0 : Nat) (x9 : Int32) : St := (up2 u 4 (x9.toNatClampNeg) (0 : Int32))
def g_m_begin_146 (u : St) (k0 : Nat) (x9 : Int32) : Prop := (vp_in x9 8)
set_option maxRecDepth 20000 in
set_option maxHeartbeats 1000000 in
theorem w_m_begin_146 {F : St} {u : St} (B : jk_BV p l e R s m args below meth c cX4_begin 4 RX4 TT D clA (tyl z) (rW z a) A Q rm_m_begin F) {k0 : Nat} (hk0 : k0 < 2) {x9 : Int32} (hE : f_m_begin_146 u k0 x9 = F) (hG : g_m_begin_146 u k0 x9) : JJ p l e R s m args below meth c 0 0 4 D clA (rW z a) A Q 146 [(0, .ref (a 0)), (1, .int (nI k0)), (2, .int x9)] u [] := by
  have C := B.1
  unfold f_m_begin_146 at hE
  unfold g_m_begin_146 at hG
  refine j_aload_n C 0 dX4_begin_146 rfl ?_
  refine j_get C kf_4 0 pl_md 4 (by decide) lk_4_20 rfl dX4_begin_147 ?_
  refine j_iload_n C 2 dX4_begin_150 rfl ?_
  refine j_iconst C 0 dX4_begin_151 ic_0 ?_
  have hv1 := hG
  have lhv1 := jk_lt hv1
  refine j_zast C 4 1 pl_a_pushes rfl (x9.toNatClampNeg) (jk_self hv1 (by decide)) (jk_lt hv1) (by decide) rfl pu_a_pushes dX4_begin_152 ?_
  exact B.2.2 _ _ _ dX4_begin_153 hE
def f_m_begin_125 (u : St) (k0 : Nat) (x9 : Int32) (x8 : Int32) : St := (if x8 = (0 : Int32) then (f_m_begin_146 (up2 u 18 k0 (0 : Int32)) k0 x9) else (f_m_begin_146 (up2 u 18 k0 (f_m_timeOf u (x9.toNatClampNeg) 6)) k0 x9))
def g_m_begin_125 (u : St) (k0 : Nat) (x9 : Int32) (x8 : Int32) : Prop := ((x8 = (0 : Int32) → (g_m_begin_146 (up2 u 18 k0 (0 : Int32)) k0 x9)) ∧ (¬ x8 = (0 : Int32) → ((vp_in x9 8) ∧ (g_m_begin_146 (up2 u 18 k0 (f_m_timeOf u (x9.toNatClampNeg) 6)) k0 x9))))
set_option maxRecDepth 20000 in
set_option maxHeartbeats 1000000 in
theorem w_m_begin_125 {F : St} {u : St} (B : jk_BV p l e R s m args below meth c cX4_begin 4 RX4 TT D clA (tyl z) (rW z a) A Q rm_m_begin F) {k0 : Nat} (hk0 : k0 < 2) {x9 : Int32} {x8 : Int32} (hE : f_m_begin_125 u k0 x9 x8 = F) (hG : g_m_begin_125 u k0 x9 x8) : JJ p l e R s m args below meth c 0 0 4 D clA (rW z a) A Q 125 [(0, .ref (a 0)), (1, .int (nI k0)), (2, .int x9), (3, .int x8)] u [] := by
  have C := B.1
  unfold f_m_begin_125 at hE
  unfold g_m_begin_125 at hG
  refine j_aload_n C 0 dX4_begin_125 rfl ?_
  refine j_get C kf_4 0 pl_md 18 (by decide) lk_4_62 rfl dX4_begin_126 ?_
  refine j_iload_n C 1 dX4_begin_129 rfl ?_
  refine j_iload_n C 3 dX4_begin_130 rfl ?_
  refine j_if_eq C 144 dX4_begin_131 (by decide) (fun c1 => ?_) (fun c1 => ?_)
  · have hE := (if_pos c1).symm.trans hE
    have hG := hG.1 c1
    refine j_iconst C 0 dX4_begin_144 ic_0 ?_
    refine j_iast C 18 0 pl_a_clearing rfl k0 rfl hk0 (by decide) pu_a_clearing dX4_begin_145 ?_
    refine j_lv [0, 1, 2] rfl ?_
    exact w_m_begin_146 B hk0 hE hG
  · have hE := (if_neg c1).symm.trans hE
    have hG := hG.2 c1
    refine j_aload_n C 0 dX4_begin_134 rfl ?_
    refine j_iload_n C 2 dX4_begin_135 rfl ?_
    refine j_bipush C 6 dX4_begin_136 bp_6 ?_
    obtain ⟨hv2, hG⟩ := hG
    have lhv2 := jk_lt hv2
    refine j_st (st' := [.int (nI 6), .int (nI (x9.toNatClampNeg)), .ref (a 0), .int (nI k0), .ref (a 18)]) ((congrArg (fun x => ([.int 6, .int x, .ref (a 0), .int (nI k0), .ref (a 18)] : List Value)) (jk_self hv2 (by decide))).trans (congrArg (fun x => ([.int x, .int (nI (x9.toNatClampNeg)), .ref (a 0), .int (nI k0), .ref (a 18)] : List Value)) ix_6)) ?_
    refine j_cIV C B.2.1 (c_m_timeOf l D z a u (x9.toNatClampNeg) 6 (jk_lt hv2) (by decide)) gv_4_103 dd_m_timeOf ⟨⟨rfl, rfl⟩, Nat.le_of_ble_eq_true rfl, Nat.le_of_ble_eq_true rfl⟩ 0 4 pl_md rfl rfl rfl rfl (Nat.le_of_ble_eq_true rfl) dX4_begin_138 ?_
    refine j_goto C 145 dX4_begin_141 (by decide) ?_
    refine j_iast C 18 0 pl_a_clearing rfl k0 rfl hk0 (by decide) pu_a_clearing dX4_begin_145 ?_
    refine j_lv [0, 1, 2] rfl ?_
    exact w_m_begin_146 B hk0 hE hG
def f_m_begin_105 (u : St) (k0 : Nat) (x9 : Int32) (x8 : Int32) : St := (if x8 = (0 : Int32) then (f_m_begin_125 (up2 u 17 k0 (0 : Int32)) k0 x9 x8) else (f_m_begin_125 (up2 u 17 k0 (f_m_timeOf u (x9.toNatClampNeg) 5)) k0 x9 x8))
def g_m_begin_105 (u : St) (k0 : Nat) (x9 : Int32) (x8 : Int32) : Prop := ((x8 = (0 : Int32) → (g_m_begin_125 (up2 u 17 k0 (0 : Int32)) k0 x9 x8)) ∧ (¬ x8 = (0 : Int32) → ((vp_in x9 8) ∧ (g_m_begin_125 (up2 u 17 k0 (f_m_timeOf u (x9.toNatClampNeg) 5)) k0 x9 x8))))
set_option maxRecDepth 20000 in
set_option maxHeartbeats 1000000 in
theorem w_m_begin_105 {F : St} {u : St} (B : jk_BV p l e R s m args below meth c cX4_begin 4 RX4 TT D clA (tyl z) (rW z a) A Q rm_m_begin F) {k0 : Nat} (hk0 : k0 < 2) {x9 : Int32} {x8 : Int32} (hE : f_m_begin_105 u k0 x9 x8 = F) (hG : g_m_begin_105 u k0 x9 x8) : JJ p l e R s m args below meth c 0 0 4 D clA (rW z a) A Q 105 [(0, .ref (a 0)), (1, .int (nI k0)), (2, .int x9), (3, .int x8)] u [] := by
  have C := B.1
  unfold f_m_begin_105 at hE
  unfold g_m_begin_105 at hG
  refine j_aload_n C 0 dX4_begin_105 rfl ?_
  refine j_get C kf_4 0 pl_md 17 (by decide) lk_4_59 rfl dX4_begin_106 ?_
  refine j_iload_n C 1 dX4_begin_109 rfl ?_
  refine j_iload_n C 3 dX4_begin_110 rfl ?_
  refine j_if_eq C 123 dX4_begin_111 (by decide) (fun c1 => ?_) (fun c1 => ?_)
  · have hE := (if_pos c1).symm.trans hE
    have hG := hG.1 c1
    refine j_iconst C 0 dX4_begin_123 ic_0 ?_
    refine j_iast C 17 0 pl_a_walking rfl k0 rfl hk0 (by decide) pu_a_walking dX4_begin_124 ?_
    exact w_m_begin_125 B hk0 hE hG
  · have hE := (if_neg c1).symm.trans hE
    have hG := hG.2 c1
    refine j_aload_n C 0 dX4_begin_114 rfl ?_
    refine j_iload_n C 2 dX4_begin_115 rfl ?_
    refine j_iconst C 5 dX4_begin_116 ic_5 ?_
    obtain ⟨hv2, hG⟩ := hG
    have lhv2 := jk_lt hv2
    refine j_st (st' := [.int (nI 5), .int (nI (x9.toNatClampNeg)), .ref (a 0), .int (nI k0), .ref (a 17)]) ((congrArg (fun x => ([.int 5, .int x, .ref (a 0), .int (nI k0), .ref (a 17)] : List Value)) (jk_self hv2 (by decide))).trans (congrArg (fun x => ([.int x, .int (nI (x9.toNatClampNeg)), .ref (a 0), .int (nI k0), .ref (a 17)] : List Value)) ix_5)) ?_
    refine j_cIV C B.2.1 (c_m_timeOf l D z a u (x9.toNatClampNeg) 5 (jk_lt hv2) (by decide)) gv_4_103 dd_m_timeOf ⟨⟨rfl, rfl⟩, Nat.le_of_ble_eq_true rfl, Nat.le_of_ble_eq_true rfl⟩ 0 4 pl_md rfl rfl rfl rfl (Nat.le_of_ble_eq_true rfl) dX4_begin_117 ?_
    refine j_goto C 124 dX4_begin_120 (by decide) ?_
    refine j_iast C 17 0 pl_a_walking rfl k0 rfl hk0 (by decide) pu_a_walking dX4_begin_124 ?_
    exact w_m_begin_125 B hk0 hE hG
def f_m_begin_71 (u : St) (k0 : Nat) (x9 : Int32) : St := (if (u 4 (x9.toNatClampNeg)) = (0 : Int32) then (if (f_m_has u (x9.toNatClampNeg) (16 : Int32)) = (0 : Int32) then (f_m_begin_105 u k0 x9 (0 : Int32)) else (if (f_m_timeOf u (x9.toNatClampNeg) 5) ≤ (0 : Int32) then (f_m_begin_105 u k0 x9 (0 : Int32)) else (f_m_begin_105 u k0 x9 (1 : Int32)))) else (if (f_m_timeOf u (x9.toNatClampNeg) 5) ≤ (0 : Int32) then (f_m_begin_105 u k0 x9 (0 : Int32)) else (f_m_begin_105 u k0 x9 (1 : Int32))))
def g_m_begin_71 (u : St) (k0 : Nat) (x9 : Int32) : Prop := ((vp_in x9 8) ∧ (((u 4 (x9.toNatClampNeg)) = (0 : Int32) → (((f_m_has u (x9.toNatClampNeg) (16 : Int32)) = (0 : Int32) → (g_m_begin_105 u k0 x9 (0 : Int32))) ∧ (¬ (f_m_has u (x9.toNatClampNeg) (16 : Int32)) = (0 : Int32) → (((f_m_timeOf u (x9.toNatClampNeg) 5) ≤ (0 : Int32) → (g_m_begin_105 u k0 x9 (0 : Int32))) ∧ (¬ (f_m_timeOf u (x9.toNatClampNeg) 5) ≤ (0 : Int32) → (g_m_begin_105 u k0 x9 (1 : Int32))))))) ∧ (¬ (u 4 (x9.toNatClampNeg)) = (0 : Int32) → (((f_m_timeOf u (x9.toNatClampNeg) 5) ≤ (0 : Int32) → (g_m_begin_105 u k0 x9 (0 : Int32))) ∧ (¬ (f_m_timeOf u (x9.toNatClampNeg) 5) ≤ (0 : Int32) → (g_m_begin_105 u k0 x9 (1 : Int32)))))))
set_option maxRecDepth 20000 in
set_option maxHeartbeats 1000000 in
theorem w_m_begin_71 {F : St} {u : St} (B : jk_BV p l e R s m args below meth c cX4_begin 4 RX4 TT D clA (tyl z) (rW z a) A Q rm_m_begin F) {k0 : Nat} (hk0 : k0 < 2) {x9 : Int32} (hE : f_m_begin_71 u k0 x9 = F) (hG : g_m_begin_71 u k0 x9) : JJ p l e R s m args below meth c 0 0 4 D clA (rW z a) A Q 71 [(0, .ref (a 0)), (1, .int (nI k0)), (2, .int x9)] u [] := by
  have C := B.1
  unfold f_m_begin_71 at hE
  unfold g_m_begin_71 at hG
  refine j_aload_n C 0 dX4_begin_71 rfl ?_
  refine j_get C kf_4 0 pl_md 4 (by decide) lk_4_20 rfl dX4_begin_72 ?_
  refine j_iload_n C 2 dX4_begin_75 rfl ?_
  obtain ⟨hv1, hG⟩ := hG
  have lhv1 := jk_lt hv1
  refine j_zald C 4 1 pl_a_pushes rfl (x9.toNatClampNeg) (jk_self hv1 (by decide)) (jk_lt hv1) (by decide) dX4_begin_76 ?_
  refine j_if_ne C 90 dX4_begin_77 (by decide) (fun c2 => ?_) (fun c2 => ?_)
  · have hE := (if_neg c2).symm.trans hE
    have hG := hG.2 c2
    refine j_aload_n C 0 dX4_begin_90 rfl ?_
    refine j_iload_n C 2 dX4_begin_91 rfl ?_
    refine j_iconst C 5 dX4_begin_92 ic_5 ?_
    refine j_st (st' := [.int (nI 5), .int (nI (x9.toNatClampNeg)), .ref (a 0)]) ((congrArg (fun x => ([.int 5, .int x, .ref (a 0)] : List Value)) (jk_self hv1 (by decide))).trans (congrArg (fun x => ([.int x, .int (nI (x9.toNatClampNeg)), .ref (a 0)] : List Value)) ix_5)) ?_
    refine j_cIV C B.2.1 (c_m_timeOf l D z a u (x9.toNatClampNeg) 5 (jk_lt hv1) (by decide)) gv_4_103 dd_m_timeOf ⟨⟨rfl, rfl⟩, Nat.le_of_ble_eq_true rfl, Nat.le_of_ble_eq_true rfl⟩ 0 4 pl_md rfl rfl rfl rfl (Nat.le_of_ble_eq_true rfl) dX4_begin_93 ?_
    refine j_if_le C 103 dX4_begin_96 (by decide) (fun c3 => ?_) (fun c3 => ?_)
    · have hE := (if_pos c3).symm.trans hE
      have hG := hG.1 c3
      refine j_iconst C 0 dX4_begin_103 ic_0 ?_
      refine j_istore_n C dX4_begin_104 (by decide) rfl ?_
      refine j_lv [1, 2, 3, 0] rfl ?_
      exact w_m_begin_105 B hk0 hE hG
    · have hE := (if_neg c3).symm.trans hE
      have hG := hG.2 c3
      refine j_iconst C 1 dX4_begin_99 ic_1 ?_
      refine j_goto C 104 dX4_begin_100 (by decide) ?_
      refine j_istore_n C dX4_begin_104 (by decide) rfl ?_
      refine j_lv [1, 2, 3, 0] rfl ?_
      exact w_m_begin_105 B hk0 hE hG
  · have hE := (if_pos c2).symm.trans hE
    have hG := hG.1 c2
    refine j_aload_n C 0 dX4_begin_80 rfl ?_
    refine j_iload_n C 2 dX4_begin_81 rfl ?_
    refine j_bipush C 16 dX4_begin_82 bp_16 ?_
    refine j_st (st' := [.int 16, .int (nI (x9.toNatClampNeg)), .ref (a 0)]) (congrArg (fun x => ([.int 16, .int x, .ref (a 0)] : List Value)) (jk_self hv1 (by decide))) ?_
    refine j_cIV C B.2.1 (c_m_has l D z a u (x9.toNatClampNeg) (16 : Int32) (jk_lt hv1)) gv_4_75 dd_m_has ⟨⟨rfl, rfl⟩, Nat.le_of_ble_eq_true rfl, Nat.le_of_ble_eq_true rfl⟩ 0 4 pl_md rfl rfl rfl rfl (Nat.le_of_ble_eq_true rfl) dX4_begin_84 ?_
    refine j_if_eq C 103 dX4_begin_87 (by decide) (fun c4 => ?_) (fun c4 => ?_)
    · have hE := (if_pos c4).symm.trans hE
      have hG := hG.1 c4
      refine j_iconst C 0 dX4_begin_103 ic_0 ?_
      refine j_istore_n C dX4_begin_104 (by decide) rfl ?_
      refine j_lv [1, 2, 3, 0] rfl ?_
      exact w_m_begin_105 B hk0 hE hG
    · have hE := (if_neg c4).symm.trans hE
      have hG := hG.2 c4
      refine j_aload_n C 0 dX4_begin_90 rfl ?_
      refine j_iload_n C 2 dX4_begin_91 rfl ?_
      refine j_iconst C 5 dX4_begin_92 ic_5 ?_
      refine j_st (st' := [.int (nI 5), .int (nI (x9.toNatClampNeg)), .ref (a 0)]) ((congrArg (fun x => ([.int 5, .int x, .ref (a 0)] : List Value)) (jk_self hv1 (by decide))).trans (congrArg (fun x => ([.int x, .int (nI (x9.toNatClampNeg)), .ref (a 0)] : List Value)) ix_5)) ?_
      refine j_cIV C B.2.1 (c_m_timeOf l D z a u (x9.toNatClampNeg) 5 (jk_lt hv1) (by decide)) gv_4_103 dd_m_timeOf ⟨⟨rfl, rfl⟩, Nat.le_of_ble_eq_true rfl, Nat.le_of_ble_eq_true rfl⟩ 0 4 pl_md rfl rfl rfl rfl (Nat.le_of_ble_eq_true rfl) dX4_begin_93 ?_
      refine j_if_le C 103 dX4_begin_96 (by decide) (fun c5 => ?_) (fun c5 => ?_)
      · have hE := (if_pos c5).symm.trans hE
        have hG := hG.1 c5
        refine j_iconst C 0 dX4_begin_103 ic_0 ?_
        refine j_istore_n C dX4_begin_104 (by decide) rfl ?_
        refine j_lv [1, 2, 3, 0] rfl ?_
        exact w_m_begin_105 B hk0 hE hG
      · have hE := (if_neg c5).symm.trans hE
        have hG := hG.2 c5
        refine j_iconst C 1 dX4_begin_99 ic_1 ?_
        refine j_goto C 104 dX4_begin_100 (by decide) ?_
        refine j_istore_n C dX4_begin_104 (by decide) rfl ?_
        refine j_lv [1, 2, 3, 0] rfl ?_
        exact w_m_begin_105 B hk0 hE hG
def f_m_begin_54 (u : St) (k0 : Nat) (x9 : Int32) : St := (f_m_begin_71 (up2 (up2 u 5 (x9.toNatClampNeg) (0 : Int32)) 8 (x9.toNatClampNeg) (((up2 u 5 (x9.toNatClampNeg) (0 : Int32)) 8 (x9.toNatClampNeg)) + (1 : Int32))) k0 x9)
def g_m_begin_54 (u : St) (k0 : Nat) (x9 : Int32) : Prop := ((vp_in x9 8) ∧ (g_m_begin_71 (up2 (up2 u 5 (x9.toNatClampNeg) (0 : Int32)) 8 (x9.toNatClampNeg) (((up2 u 5 (x9.toNatClampNeg) (0 : Int32)) 8 (x9.toNatClampNeg)) + (1 : Int32))) k0 x9))
set_option maxRecDepth 20000 in
set_option maxHeartbeats 1000000 in
theorem w_m_begin_54 {F : St} {u : St} (B : jk_BV p l e R s m args below meth c cX4_begin 4 RX4 TT D clA (tyl z) (rW z a) A Q rm_m_begin F) {k0 : Nat} (hk0 : k0 < 2) {x9 : Int32} (hE : f_m_begin_54 u k0 x9 = F) (hG : g_m_begin_54 u k0 x9) : JJ p l e R s m args below meth c 0 0 4 D clA (rW z a) A Q 54 [(0, .ref (a 0)), (1, .int (nI k0)), (2, .int x9)] u [] := by
  have C := B.1
  unfold f_m_begin_54 at hE
  unfold g_m_begin_54 at hG
  refine j_aload_n C 0 dX4_begin_54 rfl ?_
  refine j_get C kf_4 0 pl_md 5 (by decide) lk_4_23 rfl dX4_begin_55 ?_
  refine j_iload_n C 2 dX4_begin_58 rfl ?_
  refine j_iconst C 0 dX4_begin_59 ic_0 ?_
  obtain ⟨hv1, hG⟩ := hG
  have lhv1 := jk_lt hv1
  refine j_zast C 5 1 pl_a_remembered rfl (x9.toNatClampNeg) (jk_self hv1 (by decide)) (jk_lt hv1) (by decide) rfl pu_a_remembered dX4_begin_60 ?_
  refine j_aload_n C 0 dX4_begin_61 rfl ?_
  refine j_get C kf_4 0 pl_md 8 (by decide) lk_4_32 rfl dX4_begin_62 ?_
  refine j_iload_n C 2 dX4_begin_65 rfl ?_
  refine j_dup2 C dX4_begin_66 rfl rfl ?_
  refine j_iald C 8 0 pl_a_greens rfl (x9.toNatClampNeg) (jk_self hv1 (by decide)) (jk_lt hv1) (by decide) dX4_begin_67 ?_
  refine j_iconst C 1 dX4_begin_68 ic_1 ?_
  refine j_iadd C dX4_begin_69 ?_
  refine j_iast C 8 0 pl_a_greens rfl (x9.toNatClampNeg) (jk_self hv1 (by decide)) (jk_lt hv1) (by decide) pu_a_greens dX4_begin_70 ?_
  exact w_m_begin_71 B hk0 hE hG
def f_m_begin_35 (u : St) (k0 : Nat) (x9 : Int32) : St := (f_m_begin_54 (up2 (up2 u 15 k0 (f_m_timeOf u (x9.toNatClampNeg) 1)) 16 k0 (0 : Int32)) k0 x9)
def g_m_begin_35 (u : St) (k0 : Nat) (x9 : Int32) : Prop := ((vp_in x9 8) ∧ (g_m_begin_54 (up2 (up2 u 15 k0 (f_m_timeOf u (x9.toNatClampNeg) 1)) 16 k0 (0 : Int32)) k0 x9))
set_option maxRecDepth 20000 in
set_option maxHeartbeats 1000000 in
theorem w_m_begin_35 {F : St} {u : St} (B : jk_BV p l e R s m args below meth c cX4_begin 4 RX4 TT D clA (tyl z) (rW z a) A Q rm_m_begin F) {k0 : Nat} (hk0 : k0 < 2) {x9 : Int32} (hE : f_m_begin_35 u k0 x9 = F) (hG : g_m_begin_35 u k0 x9) : JJ p l e R s m args below meth c 0 0 4 D clA (rW z a) A Q 35 [(0, .ref (a 0)), (1, .int (nI k0)), (2, .int x9)] u [] := by
  have C := B.1
  unfold f_m_begin_35 at hE
  unfold g_m_begin_35 at hG
  refine j_aload_n C 0 dX4_begin_35 rfl ?_
  refine j_get C kf_4 0 pl_md 15 (by decide) lk_4_53 rfl dX4_begin_36 ?_
  refine j_iload_n C 1 dX4_begin_39 rfl ?_
  refine j_aload_n C 0 dX4_begin_40 rfl ?_
  refine j_iload_n C 2 dX4_begin_41 rfl ?_
  refine j_iconst C 1 dX4_begin_42 ic_1 ?_
  obtain ⟨hv1, hG⟩ := hG
  have lhv1 := jk_lt hv1
  refine j_st (st' := [.int (nI 1), .int (nI (x9.toNatClampNeg)), .ref (a 0), .int (nI k0), .ref (a 15)]) ((congrArg (fun x => ([.int 1, .int x, .ref (a 0), .int (nI k0), .ref (a 15)] : List Value)) (jk_self hv1 (by decide))).trans (congrArg (fun x => ([.int x, .int (nI (x9.toNatClampNeg)), .ref (a 0), .int (nI k0), .ref (a 15)] : List Value)) ix_1)) ?_
  refine j_cIV C B.2.1 (c_m_timeOf l D z a u (x9.toNatClampNeg) 1 (jk_lt hv1) (by decide)) gv_4_103 dd_m_timeOf ⟨⟨rfl, rfl⟩, Nat.le_of_ble_eq_true rfl, Nat.le_of_ble_eq_true rfl⟩ 0 4 pl_md rfl rfl rfl rfl (Nat.le_of_ble_eq_true rfl) dX4_begin_43 ?_
  refine j_iast C 15 0 pl_a_left rfl k0 rfl hk0 (by decide) pu_a_left dX4_begin_46 ?_
  refine j_aload_n C 0 dX4_begin_47 rfl ?_
  refine j_get C kf_4 0 pl_md 16 (by decide) lk_4_56 rfl dX4_begin_48 ?_
  refine j_iload_n C 1 dX4_begin_51 rfl ?_
  refine j_iconst C 0 dX4_begin_52 ic_0 ?_
  refine j_iast C 16 0 pl_a_pressure rfl k0 rfl hk0 (by decide) pu_a_pressure dX4_begin_53 ?_
  exact w_m_begin_54 B hk0 hE hG
def f_m_begin (u : St) (k0 : Nat) : St := (f_m_begin_35 (up2 (up2 (up2 (up2 u 11 k0 (u 12 k0)) 12 k0 (-1 : Int32)) 13 k0 (1 : Int32)) 14 k0 (0 : Int32)) k0 (u 12 k0))
def g_m_begin (u : St) (k0 : Nat) : Prop := (g_m_begin_35 (up2 (up2 (up2 (up2 u 11 k0 (u 12 k0)) 12 k0 (-1 : Int32)) 13 k0 (1 : Int32)) 14 k0 (0 : Int32)) k0 (u 12 k0))
set_option maxRecDepth 20000 in
set_option maxHeartbeats 1000000 in
theorem w_m_begin_0 {F : St} {u : St} (B : jk_BV p l e R s m args below meth c cX4_begin 4 RX4 TT D clA (tyl z) (rW z a) A Q rm_m_begin F) {k0 : Nat} (hk0 : k0 < 2) (hE : f_m_begin u k0 = F) (hG : g_m_begin u k0) : JJ p l e R s m args below meth c 0 0 4 D clA (rW z a) A Q 0 [(0, .ref (a 0)), (1, .int (nI k0))] u [] := by
  have C := B.1
  unfold f_m_begin at hE
  unfold g_m_begin at hG
  refine j_aload_n C 0 dX4_begin_0 rfl ?_
  refine j_get C kf_4 0 pl_md 12 (by decide) lk_4_44 rfl dX4_begin_1 ?_
  refine j_iload_n C 1 dX4_begin_4 rfl ?_
  refine j_iald C 12 0 pl_a_next rfl k0 rfl hk0 (by decide) dX4_begin_5 ?_
  refine j_istore_n C dX4_begin_6 (by decide) rfl ?_
  refine j_aload_n C 1 dX4_begin_7 rfl ?_
  refine j_get C kf_4 0 pl_md 11 (by decide) lk_4_41 rfl dX4_begin_8 ?_
  refine j_iload_n C 2 dX4_begin_11 rfl ?_
  refine j_iload_n C 0 dX4_begin_12 rfl ?_
  refine j_iast C 11 0 pl_a_now rfl k0 rfl hk0 (by decide) pu_a_now dX4_begin_13 ?_
  refine j_aload_n C 1 dX4_begin_14 rfl ?_
  refine j_get C kf_4 0 pl_md 12 (by decide) lk_4_44 rfl dX4_begin_15 ?_
  refine j_iload_n C 2 dX4_begin_18 rfl ?_
  refine j_iconst C (-1) dX4_begin_19 ic_m1 ?_
  refine j_iast C 12 0 pl_a_next rfl k0 rfl hk0 (by decide) pu_a_next dX4_begin_20 ?_
  refine j_aload_n C 1 dX4_begin_21 rfl ?_
  refine j_get C kf_4 0 pl_md 13 (by decide) lk_4_47 rfl dX4_begin_22 ?_
  refine j_iload_n C 2 dX4_begin_25 rfl ?_
  refine j_iconst C 1 dX4_begin_26 ic_1 ?_
  refine j_iast C 13 0 pl_a_phase rfl k0 rfl hk0 (by decide) pu_a_phase dX4_begin_27 ?_
  refine j_aload_n C 1 dX4_begin_28 rfl ?_
  refine j_get C kf_4 0 pl_md 14 (by decide) lk_4_50 rfl dX4_begin_29 ?_
  refine j_iload_n C 2 dX4_begin_32 rfl ?_
  refine j_iconst C 0 dX4_begin_33 ic_0 ?_
  refine j_iast C 14 0 pl_a_age rfl k0 rfl hk0 (by decide) pu_a_age dX4_begin_34 ?_
  refine j_lv [1, 2, 0] rfl ?_
  exact w_m_begin_35 B hk0 hE hG
theorem c_m_begin (l : Launch) (D : va_G) (z : Nat → ClassId) (a : Nat → Nat) (u : St) (k0 : Nat) (hk0 : k0 < 2) (hG : g_m_begin u k0) : CtV l yX4_begin (.code yX4_begin cX4_begin 4 none :: TT) rm_m_begin D clA (tyl z) (rW z a) [.ref (a 0), .int (nI k0)] u (f_m_begin u k0) :=
  jk_metV (own := RX4) (by decide) rfl (Nat.le_of_ble_eq_true rfl) (fun _ _ _ _ _ _ _ _ _ _ _ B => w_m_begin_0 B hk0 rfl hG)
def rm_m_tick : Room := { frames := 4, cells := 0, slots := 0, locals := 90 }
def f_m_tick_171  : Nat → Nat → St → St
  | 0, i, u => u
  | n + 1, i, u => (if (u 13 i) = (0 : Int32) then (if (u 12 i) < (0 : Int32) then (f_m_tick_171 n (i + 1) u) else (f_m_tick_171 n (i + 1) (f_m_begin u i))) else (f_m_tick_171 n (i + 1) u))
def g_m_tick_171  : Nat → Nat → St → Prop
  | 0, i, u => True
  | n + 1, i, u => (((u 13 i) = (0 : Int32) → (((u 12 i) < (0 : Int32) → (g_m_tick_171 n (i + 1) u)) ∧ (¬ (u 12 i) < (0 : Int32) → ((g_m_begin u i) ∧ (g_m_tick_171 n (i + 1) (f_m_begin u i)))))) ∧ (¬ (u 13 i) = (0 : Int32) → (g_m_tick_171 n (i + 1) u)))
set_option maxRecDepth 20000 in
set_option maxHeartbeats 1000000 in
theorem w_m_tick_171 {F : St} (B : jk_BV p l e R s m args below meth c cX4_tick 5 RX4 TT D clA (tyl z) (rW z a) A Q rm_m_tick F)  : ∀ (n i : Nat) (u : St), i + n = 2 → f_m_tick_171 n i u = F → g_m_tick_171 n i u → JJ p l e R s m args below meth c 0 0 5 D clA (rW z a) A Q 171 [(1, .int (nI i)), (0, .ref (a 0))] u [] := by
  have C := B.1
  intro n
  induction n with
  | zero =>
    intro i u hin hE hG
    obtain rfl : i = 2 := by omega
    have hge : (2 : Int32) ≤ nI 2 := by decide
    refine j_iload_n C 0 dX4_tick_171 rfl ?_
    refine j_iconst C 2 dX4_tick_172 ic_2 ?_
    refine j_icmp_ge C 205 dX4_tick_173 (by decide) (fun _ => ?_) (fun hq => absurd hge hq)
    exact B.2.2 _ _ _ dX4_tick_205 hE
  | succ n ih =>
    intro i u hin hE hG
    have hlt : i < 2 := by omega
    have hnge : ¬ (2 : Int32) ≤ nI i := lt2 i hlt
    refine j_iload_n C 0 dX4_tick_171 rfl ?_
    refine j_iconst C 2 dX4_tick_172 ic_2 ?_
    refine j_icmp_ge C 205 dX4_tick_173 (by decide) (fun hq => absurd hq hnge) (fun _ => ?_)
    refine j_aload_n C 1 dX4_tick_176 rfl ?_
    refine j_get C kf_4 0 pl_md 13 (by decide) lk_4_47 rfl dX4_tick_177 ?_
    refine j_iload_n C 0 dX4_tick_180 rfl ?_
    refine j_iald C 13 0 pl_a_phase rfl i rfl hlt (by decide) dX4_tick_181 ?_
    refine j_if_ne C 199 dX4_tick_182 (by decide) (fun c1 => ?_) (fun c1 => ?_)
    · have hE := (if_neg c1).symm.trans hE
      have hG := hG.2 c1
      refine j_iinc C 0 (nI (i + 1)) dX4_tick_199 rfl (nI_1 _) (by decide) rfl ?_
      refine j_goto C 171 dX4_tick_202 (by decide) ?_
      exact ih (i + 1) u (by omega) hE hG
    · have hE := (if_pos c1).symm.trans hE
      have hG := hG.1 c1
      refine j_aload_n C 1 dX4_tick_185 rfl ?_
      refine j_get C kf_4 0 pl_md 12 (by decide) lk_4_44 rfl dX4_tick_186 ?_
      refine j_iload_n C 0 dX4_tick_189 rfl ?_
      refine j_iald C 12 0 pl_a_next rfl i rfl hlt (by decide) dX4_tick_190 ?_
      refine j_if_lt C 199 dX4_tick_191 (by decide) (fun c2 => ?_) (fun c2 => ?_)
      · have hE := (if_pos c2).symm.trans hE
        have hG := hG.1 c2
        refine j_iinc C 0 (nI (i + 1)) dX4_tick_199 rfl (nI_1 _) (by decide) rfl ?_
        refine j_goto C 171 dX4_tick_202 (by decide) ?_
        exact ih (i + 1) u (by omega) hE hG
      · have hE := (if_neg c2).symm.trans hE
        have hG := hG.2 c2
        refine j_aload_n C 1 dX4_tick_194 rfl ?_
        refine j_iload_n C 0 dX4_tick_195 rfl ?_
        obtain ⟨hg3, hG⟩ := hG
        refine j_cVV C B.2.1 (c_m_begin l D z a u i hlt hg3) gv_4_144 dd_m_begin ⟨⟨rfl, rfl⟩, Nat.le_of_ble_eq_true rfl, Nat.le_of_ble_eq_true rfl⟩ 0 4 pl_md rfl rfl rfl rfl (Nat.le_of_ble_eq_true rfl) dX4_tick_196 ?_
        refine j_iinc C 0 (nI (i + 1)) dX4_tick_199 rfl (nI_1 _) (by decide) rfl ?_
        refine j_goto C 171 dX4_tick_202 (by decide) ?_
        exact ih (i + 1) (f_m_begin u i) (by omega) hE hG
def f_m_tick_169 (u : St)  : St := (f_m_tick_171 2 0 u)
def g_m_tick_169 (u : St)  : Prop := (g_m_tick_171 2 0 u)
set_option maxRecDepth 20000 in
set_option maxHeartbeats 1000000 in
theorem w_m_tick_169 {F : St} {u : St} (B : jk_BV p l e R s m args below meth c cX4_tick 5 RX4 TT D clA (tyl z) (rW z a) A Q rm_m_tick F)  (hE : f_m_tick_169 u = F) (hG : g_m_tick_169 u) : JJ p l e R s m args below meth c 0 0 5 D clA (rW z a) A Q 169 [(0, .ref (a 0))] u [] := by
  have C := B.1
  unfold f_m_tick_169 at hE
  unfold g_m_tick_169 at hG
  refine j_iconst C 0 dX4_tick_169 ic_0 ?_
  refine j_istore_n C dX4_tick_170 (by decide) rfl ?_
  refine j_lq (congrArg (fun x => ([(1, .int x), (0, .ref (a 0))] : List (Nat × Value))) ix_0) ?_
  exact w_m_tick_171 B 2 0 u (by omega) hE hG
def f_m_tick_86  : Nat → Nat → St → St
  | 0, i, u => (f_m_tick_169 u)
  | n + 1, i, u => (if (f_m_calledOf u i (u 0 20)) < (0 : Int32) then (if (f_m_comesAlong u ((f_m_first u i (u 0 20)).toNatClampNeg)) = (0 : Int32) then (if (f_m_comesAlong u ((f_m_second u i (u 0 20)).toNatClampNeg)) = (0 : Int32) then (f_m_tick_86 n (i + 1) (up2 u 12 i (-1 : Int32))) else (f_m_tick_86 n (i + 1) (up2 u 12 i (f_m_second u i (u 0 20))))) else (f_m_tick_86 n (i + 1) (up2 u 12 i (f_m_first u i (u 0 20))))) else (f_m_tick_86 n (i + 1) (up2 u 12 i (f_m_calledOf u i (u 0 20)))))
def g_m_tick_86  : Nat → Nat → St → Prop
  | 0, i, u => (g_m_tick_169 u)
  | n + 1, i, u => ((g_m_calledOf u i (u 0 20)) ∧ ((g_m_first u i (u 0 20)) ∧ ((g_m_second u i (u 0 20)) ∧ (((f_m_calledOf u i (u 0 20)) < (0 : Int32) → ((vp_in (f_m_first u i (u 0 20)) 8) ∧ (((f_m_comesAlong u ((f_m_first u i (u 0 20)).toNatClampNeg)) = (0 : Int32) → ((vp_in (f_m_second u i (u 0 20)) 8) ∧ (((f_m_comesAlong u ((f_m_second u i (u 0 20)).toNatClampNeg)) = (0 : Int32) → (g_m_tick_86 n (i + 1) (up2 u 12 i (-1 : Int32)))) ∧ (¬ (f_m_comesAlong u ((f_m_second u i (u 0 20)).toNatClampNeg)) = (0 : Int32) → (g_m_tick_86 n (i + 1) (up2 u 12 i (f_m_second u i (u 0 20)))))))) ∧ (¬ (f_m_comesAlong u ((f_m_first u i (u 0 20)).toNatClampNeg)) = (0 : Int32) → (g_m_tick_86 n (i + 1) (up2 u 12 i (f_m_first u i (u 0 20)))))))) ∧ (¬ (f_m_calledOf u i (u 0 20)) < (0 : Int32) → (g_m_tick_86 n (i + 1) (up2 u 12 i (f_m_calledOf u i (u 0 20)))))))))
set_option maxRecDepth 20000 in
set_option maxHeartbeats 1000000 in
theorem w_m_tick_86 {F : St} (B : jk_BV p l e R s m args below meth c cX4_tick 5 RX4 TT D clA (tyl z) (rW z a) A Q rm_m_tick F)  : ∀ (n i : Nat) (u : St), i + n = 2 → f_m_tick_86 n i u = F → g_m_tick_86 n i u → JJ p l e R s m args below meth c 0 0 5 D clA (rW z a) A Q 86 [(1, .int (nI i)), (0, .ref (a 0))] u [] := by
  have C := B.1
  intro n
  induction n with
  | zero =>
    intro i u hin hE hG
    obtain rfl : i = 2 := by omega
    have hge : (2 : Int32) ≤ nI 2 := by decide
    refine j_iload_n C 0 dX4_tick_86 rfl ?_
    refine j_iconst C 2 dX4_tick_87 ic_2 ?_
    refine j_icmp_ge C 169 dX4_tick_88 (by decide) (fun _ => ?_) (fun hq => absurd hge hq)
    refine j_lv [1] rfl ?_
    exact w_m_tick_169 B hE hG
  | succ n ih =>
    intro i u hin hE hG
    have hlt : i < 2 := by omega
    have hnge : ¬ (2 : Int32) ≤ nI i := lt2 i hlt
    refine j_iload_n C 0 dX4_tick_86 rfl ?_
    refine j_iconst C 2 dX4_tick_87 ic_2 ?_
    refine j_icmp_ge C 169 dX4_tick_88 (by decide) (fun hq => absurd hq hnge) (fun _ => ?_)
    refine j_aload_n C 1 dX4_tick_91 rfl ?_
    refine j_iload_n C 0 dX4_tick_92 rfl ?_
    refine j_aload_n C 1 dX4_tick_93 rfl ?_
    refine j_get C kf_4 0 pl_md 20 (by decide) lk_4_113 rfl dX4_tick_94 ?_
    obtain ⟨hg1, hG⟩ := hG
    refine j_cIV C B.2.1 (c_m_calledOf l D z a u i (u 0 20) hlt hg1) gv_4_123 dd_m_calledOf ⟨⟨rfl, rfl⟩, Nat.le_of_ble_eq_true rfl, Nat.le_of_ble_eq_true rfl⟩ 0 4 pl_md rfl rfl rfl rfl (Nat.le_of_ble_eq_true rfl) dX4_tick_97 ?_
    refine j_istore_n C dX4_tick_100 (by decide) rfl ?_
    refine j_aload_n C 2 dX4_tick_101 rfl ?_
    refine j_iload_n C 1 dX4_tick_102 rfl ?_
    refine j_aload_n C 2 dX4_tick_103 rfl ?_
    refine j_get C kf_4 0 pl_md 20 (by decide) lk_4_113 rfl dX4_tick_104 ?_
    obtain ⟨hg2, hG⟩ := hG
    refine j_cIV C B.2.1 (c_m_first l D z a u i (u 0 20) hlt hg2) gv_4_93 dd_m_first ⟨⟨rfl, rfl⟩, Nat.le_of_ble_eq_true rfl, Nat.le_of_ble_eq_true rfl⟩ 0 4 pl_md rfl rfl rfl rfl (Nat.le_of_ble_eq_true rfl) dX4_tick_107 ?_
    refine j_istore_n C dX4_tick_110 (by decide) rfl ?_
    refine j_aload_n C 3 dX4_tick_111 rfl ?_
    refine j_iload_n C 2 dX4_tick_112 rfl ?_
    refine j_aload_n C 3 dX4_tick_113 rfl ?_
    refine j_get C kf_4 0 pl_md 20 (by decide) lk_4_113 rfl dX4_tick_114 ?_
    obtain ⟨hg3, hG⟩ := hG
    refine j_cIV C B.2.1 (c_m_second l D z a u i (u 0 20) hlt hg3) gv_4_97 dd_m_second ⟨⟨rfl, rfl⟩, Nat.le_of_ble_eq_true rfl, Nat.le_of_ble_eq_true rfl⟩ 0 4 pl_md rfl rfl rfl rfl (Nat.le_of_ble_eq_true rfl) dX4_tick_117 ?_
    refine j_istore C dX4_tick_120 (by decide) rfl ?_
    refine j_aload_n C 4 dX4_tick_122 rfl ?_
    refine j_get C kf_4 0 pl_md 12 (by decide) lk_4_44 rfl dX4_tick_123 ?_
    refine j_iload_n C 3 dX4_tick_126 rfl ?_
    refine j_iload_n C 2 dX4_tick_127 rfl ?_
    refine j_if_lt C 135 dX4_tick_128 (by decide) (fun c4 => ?_) (fun c4 => ?_)
    · have hE := (if_pos c4).symm.trans hE
      have hG := hG.1 c4
      refine j_aload_n C 4 dX4_tick_135 rfl ?_
      refine j_iload_n C 1 dX4_tick_136 rfl ?_
      obtain ⟨hv5, hG⟩ := hG
      have lhv5 := jk_lt hv5
      refine j_st (st' := [.int (nI ((f_m_first u i (u 0 20)).toNatClampNeg)), .ref (a 0), .int (nI i), .ref (a 12)]) (congrArg (fun x => ([.int x, .ref (a 0), .int (nI i), .ref (a 12)] : List Value)) (jk_self hv5 (by decide))) ?_
      refine j_cIV C B.2.1 (c_m_comesAlong l D z a u ((f_m_first u i (u 0 20)).toNatClampNeg) (jk_lt hv5)) gv_4_141 dd_m_comesAlong ⟨⟨rfl, rfl⟩, Nat.le_of_ble_eq_true rfl, Nat.le_of_ble_eq_true rfl⟩ 0 4 pl_md rfl rfl rfl rfl (Nat.le_of_ble_eq_true rfl) dX4_tick_137 ?_
      refine j_if_eq C 147 dX4_tick_140 (by decide) (fun c6 => ?_) (fun c6 => ?_)
      · have hE := (if_pos c6).symm.trans hE
        have hG := hG.1 c6
        refine j_aload_n C 4 dX4_tick_147 rfl ?_
        refine j_iload C 0 dX4_tick_148 rfl ?_
        obtain ⟨hv7, hG⟩ := hG
        have lhv7 := jk_lt hv7
        refine j_st (st' := [.int (nI ((f_m_second u i (u 0 20)).toNatClampNeg)), .ref (a 0), .int (nI i), .ref (a 12)]) (congrArg (fun x => ([.int x, .ref (a 0), .int (nI i), .ref (a 12)] : List Value)) (jk_self hv7 (by decide))) ?_
        refine j_cIV C B.2.1 (c_m_comesAlong l D z a u ((f_m_second u i (u 0 20)).toNatClampNeg) (jk_lt hv7)) gv_4_141 dd_m_comesAlong ⟨⟨rfl, rfl⟩, Nat.le_of_ble_eq_true rfl, Nat.le_of_ble_eq_true rfl⟩ 0 4 pl_md rfl rfl rfl rfl (Nat.le_of_ble_eq_true rfl) dX4_tick_150 ?_
        refine j_if_eq C 161 dX4_tick_153 (by decide) (fun c8 => ?_) (fun c8 => ?_)
        · have hE := (if_pos c8).symm.trans hE
          have hG := hG.1 c8
          refine j_iconst C (-1) dX4_tick_161 ic_m1 ?_
          refine j_iast C 12 0 pl_a_next rfl i rfl hlt (by decide) pu_a_next dX4_tick_162 ?_
          refine j_iinc C 3 (nI (i + 1)) dX4_tick_163 rfl (nI_1 _) (by decide) rfl ?_
          refine j_goto C 86 dX4_tick_166 (by decide) ?_
          refine j_lv [0, 4] rfl ?_
          exact ih (i + 1) (up2 u 12 i (-1 : Int32)) (by omega) hE hG
        · have hE := (if_neg c8).symm.trans hE
          have hG := hG.2 c8
          refine j_iload C 0 dX4_tick_156 rfl ?_
          refine j_goto C 162 dX4_tick_158 (by decide) ?_
          refine j_iast C 12 0 pl_a_next rfl i rfl hlt (by decide) pu_a_next dX4_tick_162 ?_
          refine j_iinc C 3 (nI (i + 1)) dX4_tick_163 rfl (nI_1 _) (by decide) rfl ?_
          refine j_goto C 86 dX4_tick_166 (by decide) ?_
          refine j_lv [0, 4] rfl ?_
          exact ih (i + 1) (up2 u 12 i (f_m_second u i (u 0 20))) (by omega) hE hG
      · have hE := (if_neg c6).symm.trans hE
        have hG := hG.2 c6
        refine j_iload_n C 1 dX4_tick_143 rfl ?_
        refine j_goto C 162 dX4_tick_144 (by decide) ?_
        refine j_iast C 12 0 pl_a_next rfl i rfl hlt (by decide) pu_a_next dX4_tick_162 ?_
        refine j_iinc C 3 (nI (i + 1)) dX4_tick_163 rfl (nI_1 _) (by decide) rfl ?_
        refine j_goto C 86 dX4_tick_166 (by decide) ?_
        refine j_lv [0, 4] rfl ?_
        exact ih (i + 1) (up2 u 12 i (f_m_first u i (u 0 20))) (by omega) hE hG
    · have hE := (if_neg c4).symm.trans hE
      have hG := hG.2 c4
      refine j_iload_n C 2 dX4_tick_131 rfl ?_
      refine j_goto C 162 dX4_tick_132 (by decide) ?_
      refine j_iast C 12 0 pl_a_next rfl i rfl hlt (by decide) pu_a_next dX4_tick_162 ?_
      refine j_iinc C 3 (nI (i + 1)) dX4_tick_163 rfl (nI_1 _) (by decide) rfl ?_
      refine j_goto C 86 dX4_tick_166 (by decide) ?_
      refine j_lv [0, 4] rfl ?_
      exact ih (i + 1) (up2 u 12 i (f_m_calledOf u i (u 0 20))) (by omega) hE hG
def f_m_tick_24  : Nat → Nat → St → St
  | 0, i, u => (if ((f_m_cross u) 0 21) = (0 : Int32) then (f_m_tick_169 (f_m_cross u)) else (if ((f_m_cross u) 13 0) = (0 : Int32) then (if ((f_m_cross u) 13 1) = (0 : Int32) then (f_m_tick_86 2 0 (up2 (up2 (f_m_cross u) 0 21 (0 : Int32)) 0 20 ((1 : Int32) - ((up2 (f_m_cross u) 0 21 (0 : Int32)) 0 20)))) else (f_m_tick_169 (f_m_cross u))) else (f_m_tick_169 (f_m_cross u))))
  | n + 1, i, u => (f_m_tick_24 n (i + 1) (f_m_goOn u i))
def g_m_tick_24  : Nat → Nat → St → Prop
  | 0, i, u => ((g_m_cross u) ∧ ((((f_m_cross u) 0 21) = (0 : Int32) → (g_m_tick_169 (f_m_cross u))) ∧ (¬ ((f_m_cross u) 0 21) = (0 : Int32) → ((((f_m_cross u) 13 0) = (0 : Int32) → ((((f_m_cross u) 13 1) = (0 : Int32) → (g_m_tick_86 2 0 (up2 (up2 (f_m_cross u) 0 21 (0 : Int32)) 0 20 ((1 : Int32) - ((up2 (f_m_cross u) 0 21 (0 : Int32)) 0 20))))) ∧ (¬ ((f_m_cross u) 13 1) = (0 : Int32) → (g_m_tick_169 (f_m_cross u))))) ∧ (¬ ((f_m_cross u) 13 0) = (0 : Int32) → (g_m_tick_169 (f_m_cross u)))))))
  | n + 1, i, u => ((g_m_goOn u i) ∧ (g_m_tick_24 n (i + 1) (f_m_goOn u i)))
set_option maxRecDepth 20000 in
set_option maxHeartbeats 1000000 in
theorem w_m_tick_24 {F : St} (B : jk_BV p l e R s m args below meth c cX4_tick 5 RX4 TT D clA (tyl z) (rW z a) A Q rm_m_tick F)  : ∀ (n i : Nat) (u : St), i + n = 2 → f_m_tick_24 n i u = F → g_m_tick_24 n i u → JJ p l e R s m args below meth c 0 0 5 D clA (rW z a) A Q 24 [(1, .int (nI i)), (0, .ref (a 0))] u [] := by
  have C := B.1
  intro n
  induction n with
  | zero =>
    intro i u hin hE hG
    obtain rfl : i = 2 := by omega
    have hge : (2 : Int32) ≤ nI 2 := by decide
    refine j_iload_n C 0 dX4_tick_24 rfl ?_
    refine j_iconst C 2 dX4_tick_25 ic_2 ?_
    refine j_icmp_ge C 40 dX4_tick_26 (by decide) (fun _ => ?_) (fun hq => absurd hge hq)
    refine j_aload_n C 1 dX4_tick_40 rfl ?_
    obtain ⟨hg1, hG⟩ := hG
    refine j_cVV C B.2.1 (c_m_cross l D z a u hg1) gv_4_138 dd_m_cross ⟨⟨rfl, rfl⟩, Nat.le_of_ble_eq_true rfl, Nat.le_of_ble_eq_true rfl⟩ 0 4 pl_md rfl rfl rfl rfl (Nat.le_of_ble_eq_true rfl) dX4_tick_41 ?_
    refine j_aload_n C 1 dX4_tick_44 rfl ?_
    refine j_get C kf_4 0 pl_md 21 (by decide) lk_4_119 rfl dX4_tick_45 ?_
    refine j_if_eq C 169 dX4_tick_48 (by decide) (fun c2 => ?_) (fun c2 => ?_)
    · have hE := (if_pos c2).symm.trans hE
      have hG := hG.1 c2
      refine j_lv [1] rfl ?_
      exact w_m_tick_169 B hE hG
    · have hE := (if_neg c2).symm.trans hE
      have hG := hG.2 c2
      refine j_aload_n C 1 dX4_tick_51 rfl ?_
      refine j_get C kf_4 0 pl_md 13 (by decide) lk_4_47 rfl dX4_tick_52 ?_
      refine j_iconst C 0 dX4_tick_55 ic_0 ?_
      refine j_iald C 13 0 pl_a_phase rfl 0 ix_0 (by decide) (by decide) dX4_tick_56 ?_
      refine j_if_ne C 169 dX4_tick_57 (by decide) (fun c3 => ?_) (fun c3 => ?_)
      · have hE := (if_neg c3).symm.trans hE
        have hG := hG.2 c3
        refine j_lv [1] rfl ?_
        exact w_m_tick_169 B hE hG
      · have hE := (if_pos c3).symm.trans hE
        have hG := hG.1 c3
        refine j_aload_n C 1 dX4_tick_60 rfl ?_
        refine j_get C kf_4 0 pl_md 13 (by decide) lk_4_47 rfl dX4_tick_61 ?_
        refine j_iconst C 1 dX4_tick_64 ic_1 ?_
        refine j_iald C 13 0 pl_a_phase rfl 1 ix_1 (by decide) (by decide) dX4_tick_65 ?_
        refine j_if_ne C 169 dX4_tick_66 (by decide) (fun c4 => ?_) (fun c4 => ?_)
        · have hE := (if_neg c4).symm.trans hE
          have hG := hG.2 c4
          refine j_lv [1] rfl ?_
          exact w_m_tick_169 B hE hG
        · have hE := (if_pos c4).symm.trans hE
          have hG := hG.1 c4
          refine j_aload_n C 1 dX4_tick_69 rfl ?_
          refine j_iconst C 0 dX4_tick_70 ic_0 ?_
          refine j_put C kf_4 0 pl_md 21 (by decide) lk_4_119 rfl rfl rfl (Nat.le_of_ble_eq_true rfl) pu_md_crossing dX4_tick_71 ?_
          refine j_aload_n C 1 dX4_tick_74 rfl ?_
          refine j_iconst C 1 dX4_tick_75 ic_1 ?_
          refine j_aload_n C 1 dX4_tick_76 rfl ?_
          refine j_get C kf_4 0 pl_md 20 (by decide) lk_4_113 rfl dX4_tick_77 ?_
          refine j_isub C dX4_tick_80 ?_
          refine j_put C kf_4 0 pl_md 20 (by decide) lk_4_113 rfl rfl rfl (Nat.le_of_ble_eq_true rfl) pu_md_side dX4_tick_81 ?_
          refine j_iconst C 0 dX4_tick_84 ic_0 ?_
          refine j_istore_n C dX4_tick_85 (by decide) rfl ?_
          refine j_lq (congrArg (fun x => ([(1, .int x), (0, .ref (a 0))] : List (Nat × Value))) ix_0) ?_
          exact w_m_tick_86 B 2 0 (up2 (up2 (f_m_cross u) 0 21 (0 : Int32)) 0 20 ((1 : Int32) - ((up2 (f_m_cross u) 0 21 (0 : Int32)) 0 20))) (by omega) hE hG
  | succ n ih =>
    intro i u hin hE hG
    have hlt : i < 2 := by omega
    have hnge : ¬ (2 : Int32) ≤ nI i := lt2 i hlt
    refine j_iload_n C 0 dX4_tick_24 rfl ?_
    refine j_iconst C 2 dX4_tick_25 ic_2 ?_
    refine j_icmp_ge C 40 dX4_tick_26 (by decide) (fun hq => absurd hq hnge) (fun _ => ?_)
    refine j_aload_n C 1 dX4_tick_29 rfl ?_
    refine j_iload_n C 0 dX4_tick_30 rfl ?_
    obtain ⟨hg1, hG⟩ := hG
    refine j_cVV C B.2.1 (c_m_goOn l D z a u i hlt hg1) gv_4_135 dd_m_goOn ⟨⟨rfl, rfl⟩, Nat.le_of_ble_eq_true rfl, Nat.le_of_ble_eq_true rfl⟩ 0 4 pl_md rfl rfl rfl rfl (Nat.le_of_ble_eq_true rfl) dX4_tick_31 ?_
    refine j_iinc C 0 (nI (i + 1)) dX4_tick_34 rfl (nI_1 _) (by decide) rfl ?_
    refine j_goto C 24 dX4_tick_37 (by decide) ?_
    exact ih (i + 1) (f_m_goOn u i) (by omega) hE hG
def f_m_tick_6  : Nat → Nat → St → St
  | 0, i, u => (f_m_tick_24 2 0 u)
  | n + 1, i, u => (f_m_tick_6 n (i + 1) (f_m_ageRing u i))
def g_m_tick_6  : Nat → Nat → St → Prop
  | 0, i, u => (g_m_tick_24 2 0 u)
  | n + 1, i, u => ((g_m_ageRing u i) ∧ (g_m_tick_6 n (i + 1) (f_m_ageRing u i)))
set_option maxRecDepth 20000 in
set_option maxHeartbeats 1000000 in
theorem w_m_tick_6 {F : St} (B : jk_BV p l e R s m args below meth c cX4_tick 5 RX4 TT D clA (tyl z) (rW z a) A Q rm_m_tick F)  : ∀ (n i : Nat) (u : St), i + n = 2 → f_m_tick_6 n i u = F → g_m_tick_6 n i u → JJ p l e R s m args below meth c 0 0 5 D clA (rW z a) A Q 6 [(1, .int (nI i)), (0, .ref (a 0))] u [] := by
  have C := B.1
  intro n
  induction n with
  | zero =>
    intro i u hin hE hG
    obtain rfl : i = 2 := by omega
    have hge : (2 : Int32) ≤ nI 2 := by decide
    refine j_iload_n C 0 dX4_tick_6 rfl ?_
    refine j_iconst C 2 dX4_tick_7 ic_2 ?_
    refine j_icmp_ge C 22 dX4_tick_8 (by decide) (fun _ => ?_) (fun hq => absurd hge hq)
    refine j_iconst C 0 dX4_tick_22 ic_0 ?_
    refine j_istore_n C dX4_tick_23 (by decide) rfl ?_
    refine j_lq (congrArg (fun x => ([(1, .int x), (0, .ref (a 0))] : List (Nat × Value))) ix_0) ?_
    exact w_m_tick_24 B 2 0 u (by omega) hE hG
  | succ n ih =>
    intro i u hin hE hG
    have hlt : i < 2 := by omega
    have hnge : ¬ (2 : Int32) ≤ nI i := lt2 i hlt
    refine j_iload_n C 0 dX4_tick_6 rfl ?_
    refine j_iconst C 2 dX4_tick_7 ic_2 ?_
    refine j_icmp_ge C 22 dX4_tick_8 (by decide) (fun hq => absurd hq hnge) (fun _ => ?_)
    refine j_aload_n C 1 dX4_tick_11 rfl ?_
    refine j_iload_n C 0 dX4_tick_12 rfl ?_
    obtain ⟨hg1, hG⟩ := hG
    refine j_cVV C B.2.1 (c_m_ageRing l D z a u i hlt hg1) gv_4_132 dd_m_ageRing ⟨⟨rfl, rfl⟩, Nat.le_of_ble_eq_true rfl, Nat.le_of_ble_eq_true rfl⟩ 0 4 pl_md rfl rfl rfl rfl (Nat.le_of_ble_eq_true rfl) dX4_tick_13 ?_
    refine j_iinc C 0 (nI (i + 1)) dX4_tick_16 rfl (nI_1 _) (by decide) rfl ?_
    refine j_goto C 6 dX4_tick_19 (by decide) ?_
    exact ih (i + 1) (f_m_ageRing u i) (by omega) hE hG
def f_m_tick (u : St)  : St := (f_m_tick_6 2 0 (f_m_wait0 u))
def g_m_tick (u : St)  : Prop := (g_m_tick_6 2 0 (f_m_wait0 u))
set_option maxRecDepth 20000 in
set_option maxHeartbeats 1000000 in
theorem w_m_tick_0 {F : St} {u : St} (B : jk_BV p l e R s m args below meth c cX4_tick 5 RX4 TT D clA (tyl z) (rW z a) A Q rm_m_tick F)  (hE : f_m_tick u = F) (hG : g_m_tick u) : JJ p l e R s m args below meth c 0 0 5 D clA (rW z a) A Q 0 [(0, .ref (a 0))] u [] := by
  have C := B.1
  unfold f_m_tick at hE
  unfold g_m_tick at hG
  refine j_aload_n C 0 dX4_tick_0 rfl ?_
  refine j_cVV C B.2.1 (c_m_wait0 l D z a u) gv_4_129 dd_m_wait0 ⟨⟨rfl, rfl⟩, Nat.le_of_ble_eq_true rfl, Nat.le_of_ble_eq_true rfl⟩ 0 4 pl_md rfl rfl rfl rfl (Nat.le_of_ble_eq_true rfl) dX4_tick_1 ?_
  refine j_iconst C 0 dX4_tick_4 ic_0 ?_
  refine j_istore_n C dX4_tick_5 (by decide) rfl ?_
  refine j_lq (congrArg (fun x => ([(1, .int x), (0, .ref (a 0))] : List (Nat × Value))) ix_0) ?_
  exact w_m_tick_6 B 2 0 (f_m_wait0 u) (by omega) hE hG
theorem c_m_tick (l : Launch) (D : va_G) (z : Nat → ClassId) (a : Nat → Nat) (u : St)  (hG : g_m_tick u) : CtV l yX4_tick (.code yX4_tick cX4_tick 5 none :: TT) rm_m_tick D clA (tyl z) (rW z a) [.ref (a 0)] u (f_m_tick u) :=
  jk_metV (own := RX4) (by decide) rfl (Nat.le_of_ble_eq_true rfl) (fun _ _ _ _ _ _ _ _ _ _ _ B => w_m_tick_0 B rfl hG)
end WLK

section WLK
variable {p : Program} {l : Launch} {e : Env} {R : Room} {s : State} {m : MethodId} {args : Array Value} {below : List Frame} {meth : Method} {c : Code} {D : va_G} {z : Nat → ClassId} {a : Nat → Nat} {A : Nat → Prop} {Q : State → Prop}
def rm_ring : Room := { frames := 3, cells := 0, slots := 0, locals := 63 }
def f_ring (u : St) (x0 : Int32) (x1 : Int32) : Int32 := (if (f_isRing x0) = (0 : Int32) then (-1 : Int32) else (if x1 = (0 : Int32) then (u 30 (x0.toNatClampNeg)) else (if x1 = (1 : Int32) then (u 31 (x0.toNatClampNeg)) else (if x1 = (2 : Int32) then (u 32 (x0.toNatClampNeg)) else (if x1 = (3 : Int32) then (u 33 (x0.toNatClampNeg)) else (if x1 = (4 : Int32) then (u 34 (x0.toNatClampNeg)) else (if x1 = (5 : Int32) then (f_number (f_mayEnd u (x0.toNatClampNeg))) else (if x1 = (6 : Int32) then (u 35 (x0.toNatClampNeg)) else (-1 : Int32)))))))))
def g_ring (u : St) (x0 : Int32) (x1 : Int32) : Prop := (((f_isRing x0) = (0 : Int32) → True) ∧ (¬ (f_isRing x0) = (0 : Int32) → ((vp_in x0 2) ∧ ((x1 = (0 : Int32) → True) ∧ (¬ x1 = (0 : Int32) → ((x1 = (1 : Int32) → True) ∧ (¬ x1 = (1 : Int32) → ((x1 = (2 : Int32) → True) ∧ (¬ x1 = (2 : Int32) → ((x1 = (3 : Int32) → True) ∧ (¬ x1 = (3 : Int32) → ((x1 = (4 : Int32) → True) ∧ (¬ x1 = (4 : Int32) → ((x1 = (5 : Int32) → (g_mayEnd u (x0.toNatClampNeg))) ∧ (¬ x1 = (5 : Int32) → True)))))))))))))))
set_option maxRecDepth 20000 in
set_option maxHeartbeats 1000000 in
theorem w_ring_0 {Fr : Int32} {u : St} (B : jk_BI p l e R s m args below meth c cX3_ring 4 RX3 TT .int D clA (tyl z) (cW z a) A Q rm_ring (Fr, u)) (x0 : Int32) (x1 : Int32) (hE : f_ring u x0 x1 = Fr) (hG : g_ring u x0 x1) : JJ p l e R s m args below meth c 0 0 4 D clA (cW z a) A Q 0 [(0, .ref (a 0)), (1, .int x0), (2, .int x1)] u [] := by
  have C := B.1
  unfold f_ring at hE
  unfold g_ring at hG
  refine j_iload_n C 1 dX3_ring_0 rfl ?_
  refine j_cIS C B.2.1 (c_isRing l D z a u x0) gv_3_53 dd_isRing ⟨⟨rfl, rfl⟩, Nat.le_of_ble_eq_true rfl, Nat.le_of_ble_eq_true rfl⟩ rfl rfl (Nat.le_of_ble_eq_true rfl) dX3_ring_1 ?_
  refine j_if_ne C 9 dX3_ring_4 (by decide) (fun c1 => ?_) (fun c1 => ?_)
  · have hE := (if_neg c1).symm.trans hE
    have hG := hG.2 c1
    refine j_aload_n C 0 dX3_ring_9 rfl ?_
    refine j_get C kf_3 0 pl_desk 1 (by decide) lk_3_18 rfl dX3_ring_10 ?_
    refine j_iload_n C 1 dX3_ring_13 rfl ?_
    obtain ⟨hv2, hG⟩ := hG
    have lhv2 := jk_lt hv2
    refine j_aald C 2 3 pl_rgs rfl (x0.toNatClampNeg) (jk_self hv2 (by decide)) (jk_lt hv2) (by decide) rfl dX3_ring_14 ?_
    refine j_astore_n C dX3_ring_15 (by decide) rfl ?_
    refine j_iload_n C 3 dX3_ring_16 rfl ?_
    by_cases t0 : x1 = (0 : Int32)
    · have hE := (if_pos t0).symm.trans hE
      refine j_tableIn C 60 dX3_ring_17 (by rw [t0]; decide) (by rw [t0]; decide) (by rw [t0]; rfl) (by decide) ?_
      refine j_aload_n C 0 dX3_ring_60 rfl ?_
      refine j_get C kf_2 (23 + (x0.toNatClampNeg)) (pl_rg (jk_lt hv2)) 2 (by decide) lk_3_137 rfl dX3_ring_61 ?_
      exact B.2.2 _ _ _ _ dX3_ring_64 rfl (congrArg (fun x => (x, u)) hE)
    · have hE := (if_neg t0).symm.trans hE
      have hG := hG.2 t0
      by_cases t1 : x1 = (1 : Int32)
      · have hE := (if_pos t1).symm.trans hE
        refine j_tableIn C 65 dX3_ring_17 (by rw [t1]; decide) (by rw [t1]; decide) (by rw [t1]; rfl) (by decide) ?_
        refine j_aload_n C 0 dX3_ring_65 rfl ?_
        refine j_get C kf_2 (23 + (x0.toNatClampNeg)) (pl_rg (jk_lt hv2)) 3 (by decide) lk_3_140 rfl dX3_ring_66 ?_
        exact B.2.2 _ _ _ _ dX3_ring_69 rfl (congrArg (fun x => (x, u)) hE)
      · have hE := (if_neg t1).symm.trans hE
        have hG := hG.2 t1
        by_cases t2 : x1 = (2 : Int32)
        · have hE := (if_pos t2).symm.trans hE
          refine j_tableIn C 70 dX3_ring_17 (by rw [t2]; decide) (by rw [t2]; decide) (by rw [t2]; rfl) (by decide) ?_
          refine j_aload_n C 0 dX3_ring_70 rfl ?_
          refine j_get C kf_2 (23 + (x0.toNatClampNeg)) (pl_rg (jk_lt hv2)) 4 (by decide) lk_3_143 rfl dX3_ring_71 ?_
          exact B.2.2 _ _ _ _ dX3_ring_74 rfl (congrArg (fun x => (x, u)) hE)
        · have hE := (if_neg t2).symm.trans hE
          have hG := hG.2 t2
          by_cases t3 : x1 = (3 : Int32)
          · have hE := (if_pos t3).symm.trans hE
            refine j_tableIn C 75 dX3_ring_17 (by rw [t3]; decide) (by rw [t3]; decide) (by rw [t3]; rfl) (by decide) ?_
            refine j_aload_n C 0 dX3_ring_75 rfl ?_
            refine j_get C kf_2 (23 + (x0.toNatClampNeg)) (pl_rg (jk_lt hv2)) 5 (by decide) lk_3_146 rfl dX3_ring_76 ?_
            exact B.2.2 _ _ _ _ dX3_ring_79 rfl (congrArg (fun x => (x, u)) hE)
          · have hE := (if_neg t3).symm.trans hE
            have hG := hG.2 t3
            by_cases t4 : x1 = (4 : Int32)
            · have hE := (if_pos t4).symm.trans hE
              refine j_tableIn C 80 dX3_ring_17 (by rw [t4]; decide) (by rw [t4]; decide) (by rw [t4]; rfl) (by decide) ?_
              refine j_aload_n C 0 dX3_ring_80 rfl ?_
              refine j_get C kf_2 (23 + (x0.toNatClampNeg)) (pl_rg (jk_lt hv2)) 6 (by decide) lk_3_149 rfl dX3_ring_81 ?_
              exact B.2.2 _ _ _ _ dX3_ring_84 rfl (congrArg (fun x => (x, u)) hE)
            · have hE := (if_neg t4).symm.trans hE
              have hG := hG.2 t4
              by_cases t5 : x1 = (5 : Int32)
              · have hE := (if_pos t5).symm.trans hE
                have hG := hG.1 t5
                refine j_tableIn C 85 dX3_ring_17 (by rw [t5]; decide) (by rw [t5]; decide) (by rw [t5]; rfl) (by decide) ?_
                refine j_aload_n C 1 dX3_ring_85 rfl ?_
                refine j_aload_n C 0 dX3_ring_86 rfl ?_
                have hg3 := hG
                refine j_cIV C B.2.1 (c_mayEnd l D z a u (x0.toNatClampNeg) (jk_lt hv2) hg3) gv_3_152 dd_mayEnd ⟨⟨rfl, rfl⟩, Nat.le_of_ble_eq_true rfl, Nat.le_of_ble_eq_true rfl⟩ 0 3 pl_desk rfl rfl rfl rfl (Nat.le_of_ble_eq_true rfl) dX3_ring_87 ?_
                refine j_cIS C B.2.1 (c_number l D z a u (f_mayEnd u (x0.toNatClampNeg))) gv_3_124 dd_number ⟨⟨rfl, rfl⟩, Nat.le_of_ble_eq_true rfl, Nat.le_of_ble_eq_true rfl⟩ rfl rfl (Nat.le_of_ble_eq_true rfl) dX3_ring_90 ?_
                exact B.2.2 _ _ _ _ dX3_ring_93 rfl (congrArg (fun x => (x, u)) hE)
              · have hE := (if_neg t5).symm.trans hE
                by_cases t6 : x1 = (6 : Int32)
                · have hE := (if_pos t6).symm.trans hE
                  refine j_tableIn C 94 dX3_ring_17 (by rw [t6]; decide) (by rw [t6]; decide) (by rw [t6]; rfl) (by decide) ?_
                  refine j_aload_n C 0 dX3_ring_94 rfl ?_
                  refine j_get C kf_2 (23 + (x0.toNatClampNeg)) (pl_rg (jk_lt hv2)) 7 (by decide) lk_3_100 rfl dX3_ring_95 ?_
                  exact B.2.2 _ _ _ _ dX3_ring_98 rfl (congrArg (fun x => (x, u)) hE)
                · have hE := (if_neg t6).symm.trans hE
                  refine j_tableOut C 99 dX3_ring_17 (jk_out6 t0 t1 t2 t3 t4 t5 t6) (by decide) ?_
                  refine j_iconst C (-1) dX3_ring_99 ic_m1 ?_
                  exact B.2.2 _ _ _ _ dX3_ring_100 rfl (congrArg (fun x => (x, u)) hE)
  · have hE := (if_pos c1).symm.trans hE
    refine j_iconst C (-1) dX3_ring_7 ic_m1 ?_
    exact B.2.2 _ _ _ _ dX3_ring_8 rfl (congrArg (fun x => (x, u)) hE)
theorem c_ring (l : Launch) (D : va_G) (z : Nat → ClassId) (a : Nat → Nat) (u : St) (x0 : Int32) (x1 : Int32) (hG : g_ring u x0 x1) : CtI l yX3_ring (.code yX3_ring cX3_ring 4 (some .int) :: TT) rm_ring D clA (tyl z) (cW z a) [.ref (a 0), .int x0, .int x1] u (f_ring u x0 x1) u :=
  jk_metI (own := RX3) (by decide) rfl (Nat.le_of_ble_eq_true rfl) (fun _ _ _ _ _ _ _ _ _ _ _ B => w_ring_0 B x0 x1 rfl hG)
def rm_state : Room := { frames := 1, cells := 0, slots := 0, locals := 20 }
def f_state (u : St) (x0 : Int32) : Int32 := (if x0 = (0 : Int32) then (u 0 0) else (if x0 = (1 : Int32) then (u 0 1) else (if x0 = (2 : Int32) then (f_number (u 0 2)) else (if x0 = (3 : Int32) then (u 1 0) else (if x0 = (4 : Int32) then (u 0 3) else (-1 : Int32))))))
set_option maxRecDepth 20000 in
set_option maxHeartbeats 1000000 in
theorem w_state_0 {Fr : Int32} {u : St} (B : jk_BI p l e R s m args below meth c cX3_state 2 RX3 TT .int D clA (tyl z) (cW z a) A Q rm_state (Fr, u)) (x0 : Int32) (hE : f_state u x0 = Fr) : JJ p l e R s m args below meth c 0 0 2 D clA (cW z a) A Q 0 [(0, .ref (a 0)), (1, .int x0)] u [] := by
  have C := B.1
  unfold f_state at hE
  refine j_iload_n C 1 dX3_state_0 rfl ?_
  by_cases t0 : x0 = (0 : Int32)
  · have hE := (if_pos t0).symm.trans hE
    refine j_tableIn C 36 dX3_state_1 (by rw [t0]; decide) (by rw [t0]; decide) (by rw [t0]; rfl) (by decide) ?_
    refine j_aload_n C 0 dX3_state_36 rfl ?_
    refine j_get C kf_3 0 pl_desk 4 (by decide) lk_3_156 rfl dX3_state_37 ?_
    exact B.2.2 _ _ _ _ dX3_state_40 rfl (congrArg (fun x => (x, u)) hE)
  · have hE := (if_neg t0).symm.trans hE
    by_cases t1 : x0 = (1 : Int32)
    · have hE := (if_pos t1).symm.trans hE
      refine j_tableIn C 41 dX3_state_1 (by rw [t1]; decide) (by rw [t1]; decide) (by rw [t1]; rfl) (by decide) ?_
      refine j_aload_n C 0 dX3_state_41 rfl ?_
      refine j_get C kf_3 0 pl_desk 5 (by decide) lk_3_106 rfl dX3_state_42 ?_
      exact B.2.2 _ _ _ _ dX3_state_45 rfl (congrArg (fun x => (x, u)) hE)
    · have hE := (if_neg t1).symm.trans hE
      by_cases t2 : x0 = (2 : Int32)
      · have hE := (if_pos t2).symm.trans hE
        refine j_tableIn C 46 dX3_state_1 (by rw [t2]; decide) (by rw [t2]; decide) (by rw [t2]; rfl) (by decide) ?_
        refine j_aload_n C 0 dX3_state_46 rfl ?_
        refine j_get C kf_3 0 pl_desk 6 (by decide) lk_3_103 rfl dX3_state_47 ?_
        refine j_cIS C B.2.1 (c_number l D z a u (u 0 2)) gv_3_124 dd_number ⟨⟨rfl, rfl⟩, Nat.le_of_ble_eq_true rfl, Nat.le_of_ble_eq_true rfl⟩ rfl rfl (Nat.le_of_ble_eq_true rfl) dX3_state_50 ?_
        exact B.2.2 _ _ _ _ dX3_state_53 rfl (congrArg (fun x => (x, u)) hE)
      · have hE := (if_neg t2).symm.trans hE
        by_cases t3 : x0 = (3 : Int32)
        · have hE := (if_pos t3).symm.trans hE
          refine j_tableIn C 54 dX3_state_1 (by rw [t3]; decide) (by rw [t3]; decide) (by rw [t3]; rfl) (by decide) ?_
          refine j_aload_n C 0 dX3_state_54 rfl ?_
          refine j_get C kf_3 0 pl_desk 2 (by decide) lk_3_28 rfl dX3_state_55 ?_
          refine j_get C kf_0 3 pl_guard 3 (by decide) lk_3_159 rfl dX3_state_58 ?_
          exact B.2.2 _ _ _ _ dX3_state_61 rfl (congrArg (fun x => (x, u)) hE)
        · have hE := (if_neg t3).symm.trans hE
          by_cases t4 : x0 = (4 : Int32)
          · have hE := (if_pos t4).symm.trans hE
            refine j_tableIn C 62 dX3_state_1 (by rw [t4]; decide) (by rw [t4]; decide) (by rw [t4]; rfl) (by decide) ?_
            refine j_aload_n C 0 dX3_state_62 rfl ?_
            refine j_get C kf_3 0 pl_desk 7 (by decide) lk_3_162 rfl dX3_state_63 ?_
            exact B.2.2 _ _ _ _ dX3_state_66 rfl (congrArg (fun x => (x, u)) hE)
          · have hE := (if_neg t4).symm.trans hE
            refine j_tableOut C 67 dX3_state_1 (jk_out4 t0 t1 t2 t3 t4) (by decide) ?_
            refine j_iconst C (-1) dX3_state_67 ic_m1 ?_
            exact B.2.2 _ _ _ _ dX3_state_68 rfl (congrArg (fun x => (x, u)) hE)
theorem c_state (l : Launch) (D : va_G) (z : Nat → ClassId) (a : Nat → Nat) (u : St) (x0 : Int32) : CtI l yX3_state (.code yX3_state cX3_state 2 (some .int) :: TT) rm_state D clA (tyl z) (cW z a) [.ref (a 0), .int x0] u (f_state u x0) u :=
  jk_metI (own := RX3) (by decide) rfl (Nat.le_of_ble_eq_true rfl) (fun _ _ _ _ _ _ _ _ _ _ _ B => w_state_0 B x0 rfl)
def rm_check : Room := { frames := 3, cells := 0, slots := 0, locals := 63 }
def f_check_2  : Nat → Nat → St → Int32 × St
  | 0, i, u => (if (f_anyInTheWay u) = (0 : Int32) then ((f_number (1 : Int32)), u) else ((f_number (0 : Int32)), u))
  | n + 1, i, u => (f_check_2 n (i + 1) (up2 u 2 i (f_toldLight u i)))
set_option maxRecDepth 20000 in
set_option maxHeartbeats 1000000 in
theorem w_check_2 {F : Int32 × St} (B : jk_BI p l e R s m args below meth c cX3_check 2 RX3 TT .int D clA (tyl z) (cW z a) A Q rm_check F)  : ∀ (n i : Nat) (u : St), i + n = 8 → f_check_2 n i u = F → JJ p l e R s m args below meth c 0 0 2 D clA (cW z a) A Q 2 [(1, .int (nI i)), (0, .ref (a 0))] u [] := by
  have C := B.1
  intro n
  induction n with
  | zero =>
    intro i u hin hE
    obtain rfl : i = 8 := by omega
    have hge : (8 : Int32) ≤ nI 8 := by decide
    refine j_iload_n C 0 dX3_check_2 rfl ?_
    refine j_bipush C 8 dX3_check_3 bp_8 ?_
    refine j_icmp_ge C 25 dX3_check_5 (by decide) (fun _ => ?_) (fun hq => absurd hge hq)
    refine j_aload_n C 1 dX3_check_25 rfl ?_
    refine j_get C kf_3 0 pl_desk 3 (by decide) lk_3_32 rfl dX3_check_26 ?_
    refine j_cIS C B.2.1 (c_anyInTheWay l D z a u) gv_3_168 dd_anyInTheWay ⟨⟨rfl, rfl⟩, Nat.le_of_ble_eq_true rfl, Nat.le_of_ble_eq_true rfl⟩ rfl rfl (Nat.le_of_ble_eq_true rfl) dX3_check_29 ?_
    refine j_if_ne C 39 dX3_check_32 (by decide) (fun c1 => ?_) (fun c1 => ?_)
    · have hE := (if_neg c1).symm.trans hE
      refine j_iconst C 0 dX3_check_39 ic_0 ?_
      refine j_cIS C B.2.1 (c_number l D z a u (0 : Int32)) gv_3_124 dd_number ⟨⟨rfl, rfl⟩, Nat.le_of_ble_eq_true rfl, Nat.le_of_ble_eq_true rfl⟩ rfl rfl (Nat.le_of_ble_eq_true rfl) dX3_check_40 ?_
      exact B.2.2 _ _ _ _ dX3_check_43 rfl hE
    · have hE := (if_pos c1).symm.trans hE
      refine j_iconst C 1 dX3_check_35 ic_1 ?_
      refine j_goto C 40 dX3_check_36 (by decide) ?_
      refine j_cIS C B.2.1 (c_number l D z a u (1 : Int32)) gv_3_124 dd_number ⟨⟨rfl, rfl⟩, Nat.le_of_ble_eq_true rfl, Nat.le_of_ble_eq_true rfl⟩ rfl rfl (Nat.le_of_ble_eq_true rfl) dX3_check_40 ?_
      exact B.2.2 _ _ _ _ dX3_check_43 rfl hE
  | succ n ih =>
    intro i u hin hE
    have hlt : i < 8 := by omega
    have hnge : ¬ (8 : Int32) ≤ nI i := lt8 i hlt
    refine j_iload_n C 0 dX3_check_2 rfl ?_
    refine j_bipush C 8 dX3_check_3 bp_8 ?_
    refine j_icmp_ge C 25 dX3_check_5 (by decide) (fun hq => absurd hq hnge) (fun _ => ?_)
    refine j_aload_n C 1 dX3_check_8 rfl ?_
    refine j_get C kf_3 0 pl_desk 3 (by decide) lk_3_32 rfl dX3_check_9 ?_
    refine j_iload_n C 0 dX3_check_12 rfl ?_
    refine j_aload_n C 1 dX3_check_13 rfl ?_
    refine j_iload_n C 0 dX3_check_14 rfl ?_
    refine j_cIV C B.2.1 (c_toldLight l D z a u i hlt) gv_3_165 dd_toldLight ⟨⟨rfl, rfl⟩, Nat.le_of_ble_eq_true rfl, Nat.le_of_ble_eq_true rfl⟩ 0 3 pl_desk rfl rfl rfl rfl (Nat.le_of_ble_eq_true rfl) dX3_check_15 ?_
    refine j_iast C 4 0 pl_lights rfl i rfl hlt (by decide) pu_lights dX3_check_18 ?_
    refine j_iinc C 0 (nI (i + 1)) dX3_check_19 rfl (nI_1 _) (by decide) rfl ?_
    refine j_goto C 2 dX3_check_22 (by decide) ?_
    exact ih (i + 1) (up2 u 2 i (f_toldLight u i)) (by omega) hE
def f_check (u : St)  : Int32 × St := (f_check_2 8 0 u)
set_option maxRecDepth 20000 in
set_option maxHeartbeats 1000000 in
theorem w_check_0 {F : Int32 × St} {u : St} (B : jk_BI p l e R s m args below meth c cX3_check 2 RX3 TT .int D clA (tyl z) (cW z a) A Q rm_check F)  (hE : f_check u = F) : JJ p l e R s m args below meth c 0 0 2 D clA (cW z a) A Q 0 [(0, .ref (a 0))] u [] := by
  have C := B.1
  unfold f_check at hE
  refine j_iconst C 0 dX3_check_0 ic_0 ?_
  refine j_istore_n C dX3_check_1 (by decide) rfl ?_
  refine j_lq (congrArg (fun x => ([(1, .int x), (0, .ref (a 0))] : List (Nat × Value))) ix_0) ?_
  exact w_check_2 B 8 0 u (by omega) hE
theorem c_check (l : Launch) (D : va_G) (z : Nat → ClassId) (a : Nat → Nat) (u : St)  : CtI l yX3_check (.code yX3_check cX3_check 2 (some .int) :: TT) rm_check D clA (tyl z) (cW z a) [.ref (a 0)] u (f_check u).1 (f_check u).2 :=
  jk_metI (own := RX3) (by decide) rfl (Nat.le_of_ble_eq_true rfl) (fun _ _ _ _ _ _ _ _ _ _ _ B => w_check_0 B rfl)
end WLK

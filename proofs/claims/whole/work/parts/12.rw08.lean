section WLK
variable {p : Program} {l : Launch} {e : Env} {R : Room} {s : State} {m : MethodId} {args : Array Value} {below : List Frame} {meth : Method} {c : Code} {D : va_G} {z : Nat → ClassId} {a : Nat → Nat} {A : Nat → Prop} {Q : State → Prop}
def rm_m_ring : Room := { frames := 2, cells := 0, slots := 0, locals := 44 }
def f_m_ring (u : St) (x0 : Int32) (x1 : Int32) : Int32 × St := (if x0 < (0 : Int32) then ((-1 : Int32), (up2 u 0 0 (0 : Int32))) else (if x0 ≤ (1 : Int32) then (if ((up2 u 0 0 (0 : Int32)) 13 (x0.toNatClampNeg)) = (1 : Int32) then (if x1 = (0 : Int32) then (((up2 u 0 0 (0 : Int32)) 11 (x0.toNatClampNeg)), (up2 u 0 0 (0 : Int32))) else (if x1 = (1 : Int32) then (((up2 u 0 0 (0 : Int32)) 13 (x0.toNatClampNeg)), (up2 u 0 0 (0 : Int32))) else (if x1 = (2 : Int32) then (((up2 u 0 0 (0 : Int32)) 14 (x0.toNatClampNeg)), (up2 u 0 0 (0 : Int32))) else (if x1 = (3 : Int32) then (((up2 u 0 0 (0 : Int32)) 15 (x0.toNatClampNeg)), (up2 u 0 0 (0 : Int32))) else (if x1 = (4 : Int32) then (((up2 u 0 0 (0 : Int32)) 16 (x0.toNatClampNeg)), (up2 u 0 0 (0 : Int32))) else (if x1 = (5 : Int32) then (if (f_m_mayEnd (up2 u 0 0 (0 : Int32)) (x0.toNatClampNeg)) = (0 : Int32) then ((0 : Int32), (up2 u 0 0 (0 : Int32))) else ((1 : Int32), (up2 u 0 0 (0 : Int32)))) else (if x1 = (6 : Int32) then (((up2 u 0 0 (0 : Int32)) 12 (x0.toNatClampNeg)), (up2 u 0 0 (0 : Int32))) else ((-1 : Int32), (up2 u 0 0 (0 : Int32)))))))))) else (if x1 = (0 : Int32) then (((up2 u 0 0 (0 : Int32)) 11 (x0.toNatClampNeg)), (up2 u 0 0 (0 : Int32))) else (if x1 = (1 : Int32) then (((up2 u 0 0 (0 : Int32)) 13 (x0.toNatClampNeg)), (up2 u 0 0 (0 : Int32))) else (if x1 = (2 : Int32) then (((up2 u 0 0 (0 : Int32)) 14 (x0.toNatClampNeg)), (up2 u 0 0 (0 : Int32))) else (if x1 = (3 : Int32) then ((0 : Int32), (up2 u 0 0 (0 : Int32))) else (if x1 = (4 : Int32) then ((0 : Int32), (up2 u 0 0 (0 : Int32))) else (if x1 = (5 : Int32) then (if (f_m_mayEnd (up2 u 0 0 (0 : Int32)) (x0.toNatClampNeg)) = (0 : Int32) then ((0 : Int32), (up2 u 0 0 (0 : Int32))) else ((1 : Int32), (up2 u 0 0 (0 : Int32)))) else (if x1 = (6 : Int32) then (((up2 u 0 0 (0 : Int32)) 12 (x0.toNatClampNeg)), (up2 u 0 0 (0 : Int32))) else ((-1 : Int32), (up2 u 0 0 (0 : Int32))))))))))) else ((-1 : Int32), (up2 u 0 0 (0 : Int32)))))
def g_m_ring (u : St) (x0 : Int32) (x1 : Int32) : Prop := ((x0 < (0 : Int32) → True) ∧ (¬ x0 < (0 : Int32) → ((x0 ≤ (1 : Int32) → ((vp_in x0 2) ∧ ((((up2 u 0 0 (0 : Int32)) 13 (x0.toNatClampNeg)) = (1 : Int32) → ((x1 = (0 : Int32) → True) ∧ (¬ x1 = (0 : Int32) → ((x1 = (1 : Int32) → True) ∧ (¬ x1 = (1 : Int32) → ((x1 = (2 : Int32) → True) ∧ (¬ x1 = (2 : Int32) → ((x1 = (3 : Int32) → True) ∧ (¬ x1 = (3 : Int32) → ((x1 = (4 : Int32) → True) ∧ (¬ x1 = (4 : Int32) → ((x1 = (5 : Int32) → (g_m_mayEnd (up2 u 0 0 (0 : Int32)) (x0.toNatClampNeg))) ∧ (¬ x1 = (5 : Int32) → True))))))))))))) ∧ (¬ ((up2 u 0 0 (0 : Int32)) 13 (x0.toNatClampNeg)) = (1 : Int32) → ((x1 = (0 : Int32) → True) ∧ (¬ x1 = (0 : Int32) → ((x1 = (1 : Int32) → True) ∧ (¬ x1 = (1 : Int32) → ((x1 = (2 : Int32) → True) ∧ (¬ x1 = (2 : Int32) → ((x1 = (3 : Int32) → True) ∧ (¬ x1 = (3 : Int32) → ((x1 = (4 : Int32) → True) ∧ (¬ x1 = (4 : Int32) → ((x1 = (5 : Int32) → (g_m_mayEnd (up2 u 0 0 (0 : Int32)) (x0.toNatClampNeg))) ∧ (¬ x1 = (5 : Int32) → True)))))))))))))))) ∧ (¬ x0 ≤ (1 : Int32) → True))))
set_option maxRecDepth 20000 in
set_option maxHeartbeats 1000000 in
theorem w_m_ring_0 {F : Int32 × St} {u : St} (B : jk_BI p l e R s m args below meth c cX4_ring 4 RX4 TT .int D clA (tyl z) (rW z a) A Q rm_m_ring F) (x0 : Int32) (x1 : Int32) (hE : f_m_ring u x0 x1 = F) (hG : g_m_ring u x0 x1) : JJ p l e R s m args below meth c 0 0 4 D clA (rW z a) A Q 0 [(0, .ref (a 0)), (1, .int x0), (2, .int x1)] u [] := by
  have C := B.1
  unfold f_m_ring at hE
  unfold g_m_ring at hG
  refine j_aload_n C 0 dX4_ring_0 rfl ?_
  refine j_iconst C 0 dX4_ring_1 ic_0 ?_
  refine j_put C kf_4 0 pl_md 0 (by decide) lk_4_71 rfl rfl rfl (Nat.le_of_ble_eq_true rfl) pu_md_thrown dX4_ring_2 ?_
  refine j_iload_n C 1 dX4_ring_5 rfl ?_
  refine j_if_lt C 14 dX4_ring_6 (by decide) (fun c1 => ?_) (fun c1 => ?_)
  · have hE := (if_pos c1).symm.trans hE
    refine j_iconst C (-1) dX4_ring_14 ic_m1 ?_
    exact B.2.2 _ _ _ _ dX4_ring_15 rfl hE
  · have hE := (if_neg c1).symm.trans hE
    have hG := hG.2 c1
    refine j_iload_n C 1 dX4_ring_9 rfl ?_
    refine j_iconst C 1 dX4_ring_10 ic_1 ?_
    refine j_icmp_le C 16 dX4_ring_11 (by decide) (fun c2 => ?_) (fun c2 => ?_)
    · have hE := (if_pos c2).symm.trans hE
      have hG := hG.1 c2
      refine j_aload_n C 0 dX4_ring_16 rfl ?_
      refine j_get C kf_4 0 pl_md 13 (by decide) lk_4_47 rfl dX4_ring_17 ?_
      refine j_iload_n C 1 dX4_ring_20 rfl ?_
      obtain ⟨hv3, hG⟩ := hG
      have lhv3 := jk_lt hv3
      refine j_iald C 13 0 pl_a_phase rfl (x0.toNatClampNeg) (jk_self hv3 (by decide)) (jk_lt hv3) (by decide) dX4_ring_21 ?_
      refine j_iconst C 1 dX4_ring_22 ic_1 ?_
      refine j_icmp_ne C 30 dX4_ring_23 (by decide) (fun c4 => ?_) (fun c4 => ?_)
      · have hE := (if_neg c4).symm.trans hE
        have hG := hG.2 c4
        refine j_iconst C 0 dX4_ring_30 ic_0 ?_
        refine j_istore_n C dX4_ring_31 (by decide) rfl ?_
        refine j_iload_n C 3 dX4_ring_32 rfl ?_
        refine j_if_ne C 45 dX4_ring_33 (by decide) (fun c5 => ?_) (fun c5 => ?_)
        · have hE := (if_neg c5).symm.trans hE
          have hG := hG.2 c5
          refine j_iload_n C 3 dX4_ring_45 rfl ?_
          refine j_iconst C 1 dX4_ring_46 ic_1 ?_
          refine j_icmp_ne C 59 dX4_ring_47 (by decide) (fun c6 => ?_) (fun c6 => ?_)
          · have hE := (if_neg c6).symm.trans hE
            have hG := hG.2 c6
            refine j_iload_n C 3 dX4_ring_59 rfl ?_
            refine j_iconst C 2 dX4_ring_60 ic_2 ?_
            refine j_icmp_ne C 73 dX4_ring_61 (by decide) (fun c7 => ?_) (fun c7 => ?_)
            · have hE := (if_neg c7).symm.trans hE
              have hG := hG.2 c7
              refine j_iload_n C 3 dX4_ring_73 rfl ?_
              refine j_iconst C 3 dX4_ring_74 ic_3 ?_
              refine j_icmp_ne C 95 dX4_ring_75 (by decide) (fun c8 => ?_) (fun c8 => ?_)
              · have hE := (if_neg c8).symm.trans hE
                have hG := hG.2 c8
                refine j_iload_n C 3 dX4_ring_95 rfl ?_
                refine j_iconst C 4 dX4_ring_96 ic_4 ?_
                refine j_icmp_ne C 117 dX4_ring_97 (by decide) (fun c9 => ?_) (fun c9 => ?_)
                · have hE := (if_neg c9).symm.trans hE
                  have hG := hG.2 c9
                  refine j_iload_n C 3 dX4_ring_117 rfl ?_
                  refine j_iconst C 5 dX4_ring_118 ic_5 ?_
                  refine j_icmp_ne C 138 dX4_ring_119 (by decide) (fun c10 => ?_) (fun c10 => ?_)
                  · have hE := (if_neg c10).symm.trans hE
                    refine j_iload_n C 3 dX4_ring_138 rfl ?_
                    refine j_bipush C 6 dX4_ring_139 bp_6 ?_
                    refine j_icmp_ne C 153 dX4_ring_141 (by decide) (fun c11 => ?_) (fun c11 => ?_)
                    · have hE := (if_neg c11).symm.trans hE
                      refine j_iconst C (-1) dX4_ring_153 ic_m1 ?_
                      exact B.2.2 _ _ _ _ dX4_ring_154 rfl hE
                    · have hE := (if_pos c11).symm.trans hE
                      refine j_aload_n C 1 dX4_ring_144 rfl ?_
                      refine j_get C kf_4 0 pl_md 12 (by decide) lk_4_44 rfl dX4_ring_145 ?_
                      refine j_iload_n C 2 dX4_ring_148 rfl ?_
                      refine j_iald C 12 0 pl_a_next rfl (x0.toNatClampNeg) (jk_self hv3 (by decide)) (jk_lt hv3) (by decide) dX4_ring_149 ?_
                      refine j_goto C 154 dX4_ring_150 (by decide) ?_
                      exact B.2.2 _ _ _ _ dX4_ring_154 rfl hE
                  · have hE := (if_pos c10).symm.trans hE
                    have hG := hG.1 c10
                    refine j_aload_n C 1 dX4_ring_122 rfl ?_
                    refine j_iload_n C 2 dX4_ring_123 rfl ?_
                    have hg12 := hG
                    refine j_st (st' := [.int (nI (x0.toNatClampNeg)), .ref (a 0)]) (congrArg (fun x => ([.int x, .ref (a 0)] : List Value)) (jk_self hv3 (by decide))) ?_
                    refine j_cIV C B.2.1 (c_m_mayEnd l D z a (up2 u 0 0 (0 : Int32)) (x0.toNatClampNeg) (jk_lt hv3) hg12) gv_4_110 dd_m_mayEnd ⟨⟨rfl, rfl⟩, Nat.le_of_ble_eq_true rfl, Nat.le_of_ble_eq_true rfl⟩ 0 4 pl_md rfl rfl rfl rfl (Nat.le_of_ble_eq_true rfl) dX4_ring_124 ?_
                    refine j_if_eq C 134 dX4_ring_127 (by decide) (fun c13 => ?_) (fun c13 => ?_)
                    · have hE := (if_pos c13).symm.trans hE
                      refine j_iconst C 0 dX4_ring_134 ic_0 ?_
                      refine j_goto C 154 dX4_ring_135 (by decide) ?_
                      exact B.2.2 _ _ _ _ dX4_ring_154 rfl hE
                    · have hE := (if_neg c13).symm.trans hE
                      refine j_iconst C 1 dX4_ring_130 ic_1 ?_
                      refine j_goto C 154 dX4_ring_131 (by decide) ?_
                      exact B.2.2 _ _ _ _ dX4_ring_154 rfl hE
                · have hE := (if_pos c9).symm.trans hE
                  refine j_iload_n C 0 dX4_ring_100 rfl ?_
                  refine j_if_eq C 113 dX4_ring_101 (by decide) (fun _ => ?_) (fun hq => False.elim (by revert hq; decide))
                  refine j_iconst C 0 dX4_ring_113 ic_0 ?_
                  refine j_goto C 154 dX4_ring_114 (by decide) ?_
                  exact B.2.2 _ _ _ _ dX4_ring_154 rfl hE
              · have hE := (if_pos c8).symm.trans hE
                refine j_iload_n C 0 dX4_ring_78 rfl ?_
                refine j_if_eq C 91 dX4_ring_79 (by decide) (fun _ => ?_) (fun hq => False.elim (by revert hq; decide))
                refine j_iconst C 0 dX4_ring_91 ic_0 ?_
                refine j_goto C 154 dX4_ring_92 (by decide) ?_
                exact B.2.2 _ _ _ _ dX4_ring_154 rfl hE
            · have hE := (if_pos c7).symm.trans hE
              refine j_aload_n C 1 dX4_ring_64 rfl ?_
              refine j_get C kf_4 0 pl_md 14 (by decide) lk_4_50 rfl dX4_ring_65 ?_
              refine j_iload_n C 2 dX4_ring_68 rfl ?_
              refine j_iald C 14 0 pl_a_age rfl (x0.toNatClampNeg) (jk_self hv3 (by decide)) (jk_lt hv3) (by decide) dX4_ring_69 ?_
              refine j_goto C 154 dX4_ring_70 (by decide) ?_
              exact B.2.2 _ _ _ _ dX4_ring_154 rfl hE
          · have hE := (if_pos c6).symm.trans hE
            refine j_aload_n C 1 dX4_ring_50 rfl ?_
            refine j_get C kf_4 0 pl_md 13 (by decide) lk_4_47 rfl dX4_ring_51 ?_
            refine j_iload_n C 2 dX4_ring_54 rfl ?_
            refine j_iald C 13 0 pl_a_phase rfl (x0.toNatClampNeg) (jk_self hv3 (by decide)) (jk_lt hv3) (by decide) dX4_ring_55 ?_
            refine j_goto C 154 dX4_ring_56 (by decide) ?_
            exact B.2.2 _ _ _ _ dX4_ring_154 rfl hE
        · have hE := (if_pos c5).symm.trans hE
          refine j_aload_n C 1 dX4_ring_36 rfl ?_
          refine j_get C kf_4 0 pl_md 11 (by decide) lk_4_41 rfl dX4_ring_37 ?_
          refine j_iload_n C 2 dX4_ring_40 rfl ?_
          refine j_iald C 11 0 pl_a_now rfl (x0.toNatClampNeg) (jk_self hv3 (by decide)) (jk_lt hv3) (by decide) dX4_ring_41 ?_
          refine j_goto C 154 dX4_ring_42 (by decide) ?_
          exact B.2.2 _ _ _ _ dX4_ring_154 rfl hE
      · have hE := (if_pos c4).symm.trans hE
        have hG := hG.1 c4
        refine j_iconst C 1 dX4_ring_26 ic_1 ?_
        refine j_goto C 31 dX4_ring_27 (by decide) ?_
        refine j_istore_n C dX4_ring_31 (by decide) rfl ?_
        refine j_iload_n C 3 dX4_ring_32 rfl ?_
        refine j_if_ne C 45 dX4_ring_33 (by decide) (fun c14 => ?_) (fun c14 => ?_)
        · have hE := (if_neg c14).symm.trans hE
          have hG := hG.2 c14
          refine j_iload_n C 3 dX4_ring_45 rfl ?_
          refine j_iconst C 1 dX4_ring_46 ic_1 ?_
          refine j_icmp_ne C 59 dX4_ring_47 (by decide) (fun c15 => ?_) (fun c15 => ?_)
          · have hE := (if_neg c15).symm.trans hE
            have hG := hG.2 c15
            refine j_iload_n C 3 dX4_ring_59 rfl ?_
            refine j_iconst C 2 dX4_ring_60 ic_2 ?_
            refine j_icmp_ne C 73 dX4_ring_61 (by decide) (fun c16 => ?_) (fun c16 => ?_)
            · have hE := (if_neg c16).symm.trans hE
              have hG := hG.2 c16
              refine j_iload_n C 3 dX4_ring_73 rfl ?_
              refine j_iconst C 3 dX4_ring_74 ic_3 ?_
              refine j_icmp_ne C 95 dX4_ring_75 (by decide) (fun c17 => ?_) (fun c17 => ?_)
              · have hE := (if_neg c17).symm.trans hE
                have hG := hG.2 c17
                refine j_iload_n C 3 dX4_ring_95 rfl ?_
                refine j_iconst C 4 dX4_ring_96 ic_4 ?_
                refine j_icmp_ne C 117 dX4_ring_97 (by decide) (fun c18 => ?_) (fun c18 => ?_)
                · have hE := (if_neg c18).symm.trans hE
                  have hG := hG.2 c18
                  refine j_iload_n C 3 dX4_ring_117 rfl ?_
                  refine j_iconst C 5 dX4_ring_118 ic_5 ?_
                  refine j_icmp_ne C 138 dX4_ring_119 (by decide) (fun c19 => ?_) (fun c19 => ?_)
                  · have hE := (if_neg c19).symm.trans hE
                    refine j_iload_n C 3 dX4_ring_138 rfl ?_
                    refine j_bipush C 6 dX4_ring_139 bp_6 ?_
                    refine j_icmp_ne C 153 dX4_ring_141 (by decide) (fun c20 => ?_) (fun c20 => ?_)
                    · have hE := (if_neg c20).symm.trans hE
                      refine j_iconst C (-1) dX4_ring_153 ic_m1 ?_
                      exact B.2.2 _ _ _ _ dX4_ring_154 rfl hE
                    · have hE := (if_pos c20).symm.trans hE
                      refine j_aload_n C 1 dX4_ring_144 rfl ?_
                      refine j_get C kf_4 0 pl_md 12 (by decide) lk_4_44 rfl dX4_ring_145 ?_
                      refine j_iload_n C 2 dX4_ring_148 rfl ?_
                      refine j_iald C 12 0 pl_a_next rfl (x0.toNatClampNeg) (jk_self hv3 (by decide)) (jk_lt hv3) (by decide) dX4_ring_149 ?_
                      refine j_goto C 154 dX4_ring_150 (by decide) ?_
                      exact B.2.2 _ _ _ _ dX4_ring_154 rfl hE
                  · have hE := (if_pos c19).symm.trans hE
                    have hG := hG.1 c19
                    refine j_aload_n C 1 dX4_ring_122 rfl ?_
                    refine j_iload_n C 2 dX4_ring_123 rfl ?_
                    have hg21 := hG
                    refine j_st (st' := [.int (nI (x0.toNatClampNeg)), .ref (a 0)]) (congrArg (fun x => ([.int x, .ref (a 0)] : List Value)) (jk_self hv3 (by decide))) ?_
                    refine j_cIV C B.2.1 (c_m_mayEnd l D z a (up2 u 0 0 (0 : Int32)) (x0.toNatClampNeg) (jk_lt hv3) hg21) gv_4_110 dd_m_mayEnd ⟨⟨rfl, rfl⟩, Nat.le_of_ble_eq_true rfl, Nat.le_of_ble_eq_true rfl⟩ 0 4 pl_md rfl rfl rfl rfl (Nat.le_of_ble_eq_true rfl) dX4_ring_124 ?_
                    refine j_if_eq C 134 dX4_ring_127 (by decide) (fun c22 => ?_) (fun c22 => ?_)
                    · have hE := (if_pos c22).symm.trans hE
                      refine j_iconst C 0 dX4_ring_134 ic_0 ?_
                      refine j_goto C 154 dX4_ring_135 (by decide) ?_
                      exact B.2.2 _ _ _ _ dX4_ring_154 rfl hE
                    · have hE := (if_neg c22).symm.trans hE
                      refine j_iconst C 1 dX4_ring_130 ic_1 ?_
                      refine j_goto C 154 dX4_ring_131 (by decide) ?_
                      exact B.2.2 _ _ _ _ dX4_ring_154 rfl hE
                · have hE := (if_pos c18).symm.trans hE
                  refine j_iload_n C 0 dX4_ring_100 rfl ?_
                  refine j_if_eq C 113 dX4_ring_101 (by decide) (fun hq => False.elim (by revert hq; decide)) (fun _ => ?_)
                  refine j_aload_n C 1 dX4_ring_104 rfl ?_
                  refine j_get C kf_4 0 pl_md 16 (by decide) lk_4_56 rfl dX4_ring_105 ?_
                  refine j_iload_n C 2 dX4_ring_108 rfl ?_
                  refine j_iald C 16 0 pl_a_pressure rfl (x0.toNatClampNeg) (jk_self hv3 (by decide)) (jk_lt hv3) (by decide) dX4_ring_109 ?_
                  refine j_goto C 154 dX4_ring_110 (by decide) ?_
                  exact B.2.2 _ _ _ _ dX4_ring_154 rfl hE
              · have hE := (if_pos c17).symm.trans hE
                refine j_iload_n C 0 dX4_ring_78 rfl ?_
                refine j_if_eq C 91 dX4_ring_79 (by decide) (fun hq => False.elim (by revert hq; decide)) (fun _ => ?_)
                refine j_aload_n C 1 dX4_ring_82 rfl ?_
                refine j_get C kf_4 0 pl_md 15 (by decide) lk_4_53 rfl dX4_ring_83 ?_
                refine j_iload_n C 2 dX4_ring_86 rfl ?_
                refine j_iald C 15 0 pl_a_left rfl (x0.toNatClampNeg) (jk_self hv3 (by decide)) (jk_lt hv3) (by decide) dX4_ring_87 ?_
                refine j_goto C 154 dX4_ring_88 (by decide) ?_
                exact B.2.2 _ _ _ _ dX4_ring_154 rfl hE
            · have hE := (if_pos c16).symm.trans hE
              refine j_aload_n C 1 dX4_ring_64 rfl ?_
              refine j_get C kf_4 0 pl_md 14 (by decide) lk_4_50 rfl dX4_ring_65 ?_
              refine j_iload_n C 2 dX4_ring_68 rfl ?_
              refine j_iald C 14 0 pl_a_age rfl (x0.toNatClampNeg) (jk_self hv3 (by decide)) (jk_lt hv3) (by decide) dX4_ring_69 ?_
              refine j_goto C 154 dX4_ring_70 (by decide) ?_
              exact B.2.2 _ _ _ _ dX4_ring_154 rfl hE
          · have hE := (if_pos c15).symm.trans hE
            refine j_aload_n C 1 dX4_ring_50 rfl ?_
            refine j_get C kf_4 0 pl_md 13 (by decide) lk_4_47 rfl dX4_ring_51 ?_
            refine j_iload_n C 2 dX4_ring_54 rfl ?_
            refine j_iald C 13 0 pl_a_phase rfl (x0.toNatClampNeg) (jk_self hv3 (by decide)) (jk_lt hv3) (by decide) dX4_ring_55 ?_
            refine j_goto C 154 dX4_ring_56 (by decide) ?_
            exact B.2.2 _ _ _ _ dX4_ring_154 rfl hE
        · have hE := (if_pos c14).symm.trans hE
          refine j_aload_n C 1 dX4_ring_36 rfl ?_
          refine j_get C kf_4 0 pl_md 11 (by decide) lk_4_41 rfl dX4_ring_37 ?_
          refine j_iload_n C 2 dX4_ring_40 rfl ?_
          refine j_iald C 11 0 pl_a_now rfl (x0.toNatClampNeg) (jk_self hv3 (by decide)) (jk_lt hv3) (by decide) dX4_ring_41 ?_
          refine j_goto C 154 dX4_ring_42 (by decide) ?_
          exact B.2.2 _ _ _ _ dX4_ring_154 rfl hE
    · have hE := (if_neg c2).symm.trans hE
      refine j_iconst C (-1) dX4_ring_14 ic_m1 ?_
      exact B.2.2 _ _ _ _ dX4_ring_15 rfl hE
theorem c_m_ring (l : Launch) (D : va_G) (z : Nat → ClassId) (a : Nat → Nat) (u : St) (x0 : Int32) (x1 : Int32) (hG : g_m_ring u x0 x1) : CtI l yX4_ring (.code yX4_ring cX4_ring 4 (some .int) :: TT) rm_m_ring D clA (tyl z) (rW z a) [.ref (a 0), .int x0, .int x1] u (f_m_ring u x0 x1).1 (f_m_ring u x0 x1).2 :=
  jk_metI (own := RX4) (by decide) rfl (Nat.le_of_ble_eq_true rfl) (fun _ _ _ _ _ _ _ _ _ _ _ B => w_m_ring_0 B x0 x1 rfl hG)
def rm_m_state : Room := { frames := 0, cells := 0, slots := 0, locals := 0 }
def f_m_state (u : St) (x0 : Int32) : Int32 × St := (if x0 = (0 : Int32) then (((up2 u 0 0 (0 : Int32)) 0 19), (up2 u 0 0 (0 : Int32))) else (if x0 = (1 : Int32) then (((up2 u 0 0 (0 : Int32)) 0 20), (up2 u 0 0 (0 : Int32))) else (if x0 = (2 : Int32) then (if ((up2 u 0 0 (0 : Int32)) 0 21) = (0 : Int32) then ((0 : Int32), (up2 u 0 0 (0 : Int32))) else ((1 : Int32), (up2 u 0 0 (0 : Int32)))) else (if x0 = (3 : Int32) then (((up2 u 0 0 (0 : Int32)) 0 23), (up2 u 0 0 (0 : Int32))) else (if x0 = (4 : Int32) then (((up2 u 0 0 (0 : Int32)) 0 22), (up2 u 0 0 (0 : Int32))) else ((-1 : Int32), (up2 u 0 0 (0 : Int32))))))))
set_option maxRecDepth 20000 in
set_option maxHeartbeats 1000000 in
theorem w_m_state_0 {F : Int32 × St} {u : St} (B : jk_BI p l e R s m args below meth c cX4_state 2 RX4 TT .int D clA (tyl z) (rW z a) A Q rm_m_state F) (x0 : Int32) (hE : f_m_state u x0 = F) : JJ p l e R s m args below meth c 0 0 2 D clA (rW z a) A Q 0 [(0, .ref (a 0)), (1, .int x0)] u [] := by
  have C := B.1
  unfold f_m_state at hE
  refine j_aload_n C 0 dX4_state_0 rfl ?_
  refine j_iconst C 0 dX4_state_1 ic_0 ?_
  refine j_put C kf_4 0 pl_md 0 (by decide) lk_4_71 rfl rfl rfl (Nat.le_of_ble_eq_true rfl) pu_md_thrown dX4_state_2 ?_
  refine j_iload_n C 1 dX4_state_5 rfl ?_
  refine j_if_ne C 16 dX4_state_6 (by decide) (fun c1 => ?_) (fun c1 => ?_)
  · have hE := (if_neg c1).symm.trans hE
    refine j_iload_n C 1 dX4_state_16 rfl ?_
    refine j_iconst C 1 dX4_state_17 ic_1 ?_
    refine j_icmp_ne C 28 dX4_state_18 (by decide) (fun c2 => ?_) (fun c2 => ?_)
    · have hE := (if_neg c2).symm.trans hE
      refine j_iload_n C 1 dX4_state_28 rfl ?_
      refine j_iconst C 2 dX4_state_29 ic_2 ?_
      refine j_icmp_ne C 48 dX4_state_30 (by decide) (fun c3 => ?_) (fun c3 => ?_)
      · have hE := (if_neg c3).symm.trans hE
        refine j_iload_n C 1 dX4_state_48 rfl ?_
        refine j_iconst C 3 dX4_state_49 ic_3 ?_
        refine j_icmp_ne C 60 dX4_state_50 (by decide) (fun c4 => ?_) (fun c4 => ?_)
        · have hE := (if_neg c4).symm.trans hE
          refine j_iload_n C 1 dX4_state_60 rfl ?_
          refine j_iconst C 4 dX4_state_61 ic_4 ?_
          refine j_icmp_ne C 72 dX4_state_62 (by decide) (fun c5 => ?_) (fun c5 => ?_)
          · have hE := (if_neg c5).symm.trans hE
            refine j_iconst C (-1) dX4_state_72 ic_m1 ?_
            exact B.2.2 _ _ _ _ dX4_state_73 rfl hE
          · have hE := (if_pos c5).symm.trans hE
            refine j_aload_n C 0 dX4_state_65 rfl ?_
            refine j_get C kf_4 0 pl_md 22 (by decide) lk_4_126 rfl dX4_state_66 ?_
            refine j_goto C 73 dX4_state_69 (by decide) ?_
            exact B.2.2 _ _ _ _ dX4_state_73 rfl hE
        · have hE := (if_pos c4).symm.trans hE
          refine j_aload_n C 0 dX4_state_53 rfl ?_
          refine j_get C kf_4 0 pl_md 23 (by decide) lk_4_157 rfl dX4_state_54 ?_
          refine j_goto C 73 dX4_state_57 (by decide) ?_
          exact B.2.2 _ _ _ _ dX4_state_73 rfl hE
      · have hE := (if_pos c3).symm.trans hE
        refine j_aload_n C 0 dX4_state_33 rfl ?_
        refine j_get C kf_4 0 pl_md 21 (by decide) lk_4_119 rfl dX4_state_34 ?_
        refine j_if_eq C 44 dX4_state_37 (by decide) (fun c6 => ?_) (fun c6 => ?_)
        · have hE := (if_pos c6).symm.trans hE
          refine j_iconst C 0 dX4_state_44 ic_0 ?_
          refine j_goto C 73 dX4_state_45 (by decide) ?_
          exact B.2.2 _ _ _ _ dX4_state_73 rfl hE
        · have hE := (if_neg c6).symm.trans hE
          refine j_iconst C 1 dX4_state_40 ic_1 ?_
          refine j_goto C 73 dX4_state_41 (by decide) ?_
          exact B.2.2 _ _ _ _ dX4_state_73 rfl hE
    · have hE := (if_pos c2).symm.trans hE
      refine j_aload_n C 0 dX4_state_21 rfl ?_
      refine j_get C kf_4 0 pl_md 20 (by decide) lk_4_113 rfl dX4_state_22 ?_
      refine j_goto C 73 dX4_state_25 (by decide) ?_
      exact B.2.2 _ _ _ _ dX4_state_73 rfl hE
  · have hE := (if_pos c1).symm.trans hE
    refine j_aload_n C 0 dX4_state_9 rfl ?_
    refine j_get C kf_4 0 pl_md 19 (by decide) lk_4_164 rfl dX4_state_10 ?_
    refine j_goto C 73 dX4_state_13 (by decide) ?_
    exact B.2.2 _ _ _ _ dX4_state_73 rfl hE
theorem c_m_state (l : Launch) (D : va_G) (z : Nat → ClassId) (a : Nat → Nat) (u : St) (x0 : Int32) : CtI l yX4_state (.code yX4_state cX4_state 2 (some .int) :: TT) rm_m_state D clA (tyl z) (rW z a) [.ref (a 0), .int x0] u (f_m_state u x0).1 (f_m_state u x0).2 :=
  jk_metI (own := RX4) (by decide) rfl (Nat.le_of_ble_eq_true rfl) (fun _ _ _ _ _ _ _ _ _ _ _ B => w_m_state_0 B x0 rfl)
def rm_m_check : Room := { frames := 0, cells := 0, slots := 0, locals := 0 }
def f_m_check (u : St)  : Int32 × St := ((1 : Int32), (up2 u 0 0 (0 : Int32)))
set_option maxRecDepth 20000 in
set_option maxHeartbeats 1000000 in
theorem w_m_check_0 {F : Int32 × St} {u : St} (B : jk_BI p l e R s m args below meth c cX4_check 1 RX4 TT .int D clA (tyl z) (rW z a) A Q rm_m_check F)  (hE : f_m_check u = F) : JJ p l e R s m args below meth c 0 0 1 D clA (rW z a) A Q 0 [(0, .ref (a 0))] u [] := by
  have C := B.1
  unfold f_m_check at hE
  refine j_aload_n C 0 dX4_check_0 rfl ?_
  refine j_iconst C 0 dX4_check_1 ic_0 ?_
  refine j_put C kf_4 0 pl_md 0 (by decide) lk_4_71 rfl rfl rfl (Nat.le_of_ble_eq_true rfl) pu_md_thrown dX4_check_2 ?_
  refine j_iconst C 1 dX4_check_5 ic_1 ?_
  exact B.2.2 _ _ _ _ dX4_check_6 rfl hE
theorem c_m_check (l : Launch) (D : va_G) (z : Nat → ClassId) (a : Nat → Nat) (u : St)  : CtI l yX4_check (.code yX4_check cX4_check 1 (some .int) :: TT) rm_m_check D clA (tyl z) (rW z a) [.ref (a 0)] u (f_m_check u).1 (f_m_check u).2 :=
  jk_metI (own := RX4) (by decide) rfl (Nat.le_of_ble_eq_true rfl) (fun _ _ _ _ _ _ _ _ _ _ _ B => w_m_check_0 B rfl)
end WLK

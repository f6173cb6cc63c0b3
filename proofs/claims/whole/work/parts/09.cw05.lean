section WLK
variable {p : Program} {l : Launch} {e : Env} {R : Room} {s : State} {m : MethodId} {args : Array Value} {below : List Frame} {meth : Method} {c : Code} {D : va_G} {z : Nat → ClassId} {a : Nat → Nat} {A : Nat → Prop} {Q : State → Prop}
def rm_comingAlongOn : Room := { frames := 2, cells := 0, slots := 0, locals := 41 }
def f_comingAlongOn (u : St) (r : Nat) (x0 : Int32) : Int32 := (if (f_M_comesAlong u ((f_R_first u r x0).toNatClampNeg)) = (0 : Int32) then (if (f_M_comesAlong u ((f_R_second u r x0).toNatClampNeg)) = (0 : Int32) then (-1 : Int32) else (f_R_second u r x0)) else (f_R_first u r x0))
def g_comingAlongOn (u : St) (r : Nat) (x0 : Int32) : Prop := ((g_R_first u r x0) ∧ ((vp_in (f_R_first u r x0) 8) ∧ (((f_M_comesAlong u ((f_R_first u r x0).toNatClampNeg)) = (0 : Int32) → ((g_R_second u r x0) ∧ ((vp_in (f_R_second u r x0) 8) ∧ (((f_M_comesAlong u ((f_R_second u r x0).toNatClampNeg)) = (0 : Int32) → True) ∧ (¬ (f_M_comesAlong u ((f_R_second u r x0).toNatClampNeg)) = (0 : Int32) → (g_R_second u r x0)))))) ∧ (¬ (f_M_comesAlong u ((f_R_first u r x0).toNatClampNeg)) = (0 : Int32) → (g_R_first u r x0)))))
set_option maxRecDepth 20000 in
set_option maxHeartbeats 1000000 in
theorem w_comingAlongOn_0 {Fr : Int32} {u : St} (B : jk_BI p l e R s m args below meth c cX3_comingAlongOn 3 RX3 TT .int D clA (tyl z) (cW z a) A Q rm_comingAlongOn (Fr, u)) {r : Nat} (hr : r < 2) (x0 : Int32) (hE : f_comingAlongOn u r x0 = Fr) (hG : g_comingAlongOn u r x0) : JJ p l e R s m args below meth c 0 0 3 D clA (cW z a) A Q 0 [(0, .ref (a 0)), (1, .ref (a (23 + r))), (2, .int x0)] u [] := by
  have C := B.1
  unfold f_comingAlongOn at hE
  unfold g_comingAlongOn at hG
  refine j_aload_n C 0 dX3_comingAlongOn_0 rfl ?_
  refine j_get C kf_3 0 pl_desk 0 (by decide) lk_3_11 rfl dX3_comingAlongOn_1 ?_
  refine j_aload_n C 1 dX3_comingAlongOn_4 rfl ?_
  refine j_iload_n C 2 dX3_comingAlongOn_5 rfl ?_
  obtain ⟨hg1, hG⟩ := hG
  refine j_cIV C B.2.1 (c_R_first l D z a u r x0 hr hg1) gv_3_56 dd_R_first ⟨⟨rfl, rfl⟩, Nat.le_of_ble_eq_true rfl, Nat.le_of_ble_eq_true rfl⟩ (23 + r) 2 (pl_rg hr) rfl rfl rfl rfl (Nat.le_of_ble_eq_true rfl) dX3_comingAlongOn_6 ?_
  obtain ⟨hv2, hG⟩ := hG
  have lhv2 := jk_lt hv2
  refine j_aald C 1 2 pl_mvs rfl ((f_R_first u r x0).toNatClampNeg) (jk_self hv2 (by decide)) (jk_lt hv2) (by decide) rfl dX3_comingAlongOn_9 ?_
  refine j_cIV C B.2.1 (c_M_comesAlong l D z a u ((f_R_first u r x0).toNatClampNeg) (jk_lt hv2)) gv_3_240 dd_M_comesAlong ⟨⟨rfl, rfl⟩, Nat.le_of_ble_eq_true rfl, Nat.le_of_ble_eq_true rfl⟩ (7 + ((f_R_first u r x0).toNatClampNeg)) 1 (pl_mv (jk_lt hv2)) rfl rfl rfl rfl (Nat.le_of_ble_eq_true rfl) dX3_comingAlongOn_10 ?_
  refine j_if_eq C 22 dX3_comingAlongOn_13 (by decide) (fun c3 => ?_) (fun c3 => ?_)
  · have hE := (if_pos c3).symm.trans hE
    have hG := hG.1 c3
    refine j_aload_n C 0 dX3_comingAlongOn_22 rfl ?_
    refine j_get C kf_3 0 pl_desk 0 (by decide) lk_3_11 rfl dX3_comingAlongOn_23 ?_
    refine j_aload_n C 1 dX3_comingAlongOn_26 rfl ?_
    refine j_iload_n C 2 dX3_comingAlongOn_27 rfl ?_
    obtain ⟨hg4, hG⟩ := hG
    refine j_cIV C B.2.1 (c_R_second l D z a u r x0 hr hg4) gv_3_63 dd_R_second ⟨⟨rfl, rfl⟩, Nat.le_of_ble_eq_true rfl, Nat.le_of_ble_eq_true rfl⟩ (23 + r) 2 (pl_rg hr) rfl rfl rfl rfl (Nat.le_of_ble_eq_true rfl) dX3_comingAlongOn_28 ?_
    obtain ⟨hv5, hG⟩ := hG
    have lhv5 := jk_lt hv5
    refine j_aald C 1 2 pl_mvs rfl ((f_R_second u r x0).toNatClampNeg) (jk_self hv5 (by decide)) (jk_lt hv5) (by decide) rfl dX3_comingAlongOn_31 ?_
    refine j_cIV C B.2.1 (c_M_comesAlong l D z a u ((f_R_second u r x0).toNatClampNeg) (jk_lt hv5)) gv_3_240 dd_M_comesAlong ⟨⟨rfl, rfl⟩, Nat.le_of_ble_eq_true rfl, Nat.le_of_ble_eq_true rfl⟩ (7 + ((f_R_second u r x0).toNatClampNeg)) 1 (pl_mv (jk_lt hv5)) rfl rfl rfl rfl (Nat.le_of_ble_eq_true rfl) dX3_comingAlongOn_32 ?_
    refine j_if_eq C 46 dX3_comingAlongOn_35 (by decide) (fun c6 => ?_) (fun c6 => ?_)
    · have hE := (if_pos c6).symm.trans hE
      refine j_iconst C (-1) dX3_comingAlongOn_46 ic_m1 ?_
      exact B.2.2 _ _ _ _ dX3_comingAlongOn_47 rfl (congrArg (fun x => (x, u)) hE)
    · have hE := (if_neg c6).symm.trans hE
      have hG := hG.2 c6
      refine j_aload_n C 1 dX3_comingAlongOn_38 rfl ?_
      refine j_iload_n C 2 dX3_comingAlongOn_39 rfl ?_
      have hg7 := hG
      refine j_cIV C B.2.1 (c_R_second l D z a u r x0 hr hg7) gv_3_63 dd_R_second ⟨⟨rfl, rfl⟩, Nat.le_of_ble_eq_true rfl, Nat.le_of_ble_eq_true rfl⟩ (23 + r) 2 (pl_rg hr) rfl rfl rfl rfl (Nat.le_of_ble_eq_true rfl) dX3_comingAlongOn_40 ?_
      refine j_goto C 47 dX3_comingAlongOn_43 (by decide) ?_
      exact B.2.2 _ _ _ _ dX3_comingAlongOn_47 rfl (congrArg (fun x => (x, u)) hE)
  · have hE := (if_neg c3).symm.trans hE
    have hG := hG.2 c3
    refine j_aload_n C 1 dX3_comingAlongOn_16 rfl ?_
    refine j_iload_n C 2 dX3_comingAlongOn_17 rfl ?_
    have hg8 := hG
    refine j_cIV C B.2.1 (c_R_first l D z a u r x0 hr hg8) gv_3_56 dd_R_first ⟨⟨rfl, rfl⟩, Nat.le_of_ble_eq_true rfl, Nat.le_of_ble_eq_true rfl⟩ (23 + r) 2 (pl_rg hr) rfl rfl rfl rfl (Nat.le_of_ble_eq_true rfl) dX3_comingAlongOn_18 ?_
    exact B.2.2 _ _ _ _ dX3_comingAlongOn_21 rfl (congrArg (fun x => (x, u)) hE)
theorem c_comingAlongOn (l : Launch) (D : va_G) (z : Nat → ClassId) (a : Nat → Nat) (u : St) (r : Nat) (x0 : Int32) (hr : r < 2) (hG : g_comingAlongOn u r x0) : CtI l yX3_comingAlongOn (.code yX3_comingAlongOn cX3_comingAlongOn 3 (some .int) :: TT) rm_comingAlongOn D clA (tyl z) (cW z a) [.ref (a 0), .ref (a (23 + r)), .int x0] u (f_comingAlongOn u r x0) u :=
  jk_metI (own := RX3) (by decide) rfl (Nat.le_of_ble_eq_true rfl) (fun _ _ _ _ _ _ _ _ _ _ _ B => w_comingAlongOn_0 B hr x0 rfl hG)
def rm_countWaits : Room := { frames := 3, cells := 0, slots := 0, locals := 63 }
def f_countWaits_2  : Nat → Nat → St → St
  | 0, i, u => u
  | n + 1, i, u => (f_countWaits_2 n (i + 1) (f_M_countWait u i (f_isCalled u i)))
set_option maxRecDepth 20000 in
set_option maxHeartbeats 1000000 in
theorem w_countWaits_2 {F : St} (B : jk_BV p l e R s m args below meth c cX3_countWaits 2 RX3 TT D clA (tyl z) (cW z a) A Q rm_countWaits F)  : ∀ (n i : Nat) (u : St), i + n = 8 → f_countWaits_2 n i u = F → JJ p l e R s m args below meth c 0 0 2 D clA (cW z a) A Q 2 [(1, .int (nI i)), (0, .ref (a 0))] u [] := by
  have C := B.1
  intro n
  induction n with
  | zero =>
    intro i u hin hE
    obtain rfl : i = 8 := by omega
    have hge : (8 : Int32) ≤ nI 8 := by decide
    refine j_iload_n C 0 dX3_countWaits_2 rfl ?_
    refine j_bipush C 8 dX3_countWaits_3 bp_8 ?_
    refine j_icmp_ge C 28 dX3_countWaits_5 (by decide) (fun _ => ?_) (fun hq => absurd hge hq)
    exact B.2.2 _ _ _ dX3_countWaits_28 hE
  | succ n ih =>
    intro i u hin hE
    have hlt : i < 8 := by omega
    have hnge : ¬ (8 : Int32) ≤ nI i := lt8 i hlt
    refine j_iload_n C 0 dX3_countWaits_2 rfl ?_
    refine j_bipush C 8 dX3_countWaits_3 bp_8 ?_
    refine j_icmp_ge C 28 dX3_countWaits_5 (by decide) (fun hq => absurd hq hnge) (fun _ => ?_)
    refine j_aload_n C 1 dX3_countWaits_8 rfl ?_
    refine j_get C kf_3 0 pl_desk 0 (by decide) lk_3_11 rfl dX3_countWaits_9 ?_
    refine j_iload_n C 0 dX3_countWaits_12 rfl ?_
    refine j_aald C 1 2 pl_mvs rfl i rfl hlt (by decide) rfl dX3_countWaits_13 ?_
    refine j_aload_n C 1 dX3_countWaits_14 rfl ?_
    refine j_iload_n C 0 dX3_countWaits_15 rfl ?_
    refine j_cIV C B.2.1 (c_isCalled l D z a u i hlt) gv_3_121 dd_isCalled ⟨⟨rfl, rfl⟩, Nat.le_of_ble_eq_true rfl, Nat.le_of_ble_eq_true rfl⟩ 0 3 pl_desk rfl rfl rfl rfl (Nat.le_of_ble_eq_true rfl) dX3_countWaits_16 ?_
    refine j_cVV C B.2.1 (c_M_countWait l D z a u i (f_isCalled u i) hlt) gv_3_194 dd_M_countWait ⟨⟨rfl, rfl⟩, Nat.le_of_ble_eq_true rfl, Nat.le_of_ble_eq_true rfl⟩ (7 + i) 1 (pl_mv hlt) rfl rfl rfl rfl (Nat.le_of_ble_eq_true rfl) dX3_countWaits_19 ?_
    refine j_iinc C 0 (nI (i + 1)) dX3_countWaits_22 rfl (nI_1 _) (by decide) rfl ?_
    refine j_goto C 2 dX3_countWaits_25 (by decide) ?_
    exact ih (i + 1) (f_M_countWait u i (f_isCalled u i)) (by omega) hE
def f_countWaits (u : St)  : St := (f_countWaits_2 8 0 u)
set_option maxRecDepth 20000 in
set_option maxHeartbeats 1000000 in
theorem w_countWaits_0 {F : St} {u : St} (B : jk_BV p l e R s m args below meth c cX3_countWaits 2 RX3 TT D clA (tyl z) (cW z a) A Q rm_countWaits F)  (hE : f_countWaits u = F) : JJ p l e R s m args below meth c 0 0 2 D clA (cW z a) A Q 0 [(0, .ref (a 0))] u [] := by
  have C := B.1
  unfold f_countWaits at hE
  refine j_iconst C 0 dX3_countWaits_0 ic_0 ?_
  refine j_istore_n C dX3_countWaits_1 (by decide) rfl ?_
  refine j_lq (congrArg (fun x => ([(1, .int x), (0, .ref (a 0))] : List (Nat × Value))) ix_0) ?_
  exact w_countWaits_2 B 8 0 u (by omega) hE
theorem c_countWaits (l : Launch) (D : va_G) (z : Nat → ClassId) (a : Nat → Nat) (u : St)  : CtV l yX3_countWaits (.code yX3_countWaits cX3_countWaits 2 none :: TT) rm_countWaits D clA (tyl z) (cW z a) [.ref (a 0)] u (f_countWaits u) :=
  jk_metV (own := RX3) (by decide) rfl (Nat.le_of_ble_eq_true rfl) (fun _ _ _ _ _ _ _ _ _ _ _ B => w_countWaits_0 B rfl)
def rm_advanceRings : Room := { frames := 4, cells := 0, slots := 0, locals := 85 }
def f_advanceRings_24  : Nat → Nat → Int32 → St → St
  | 0, i, x9, u => u
  | n + 1, i, x9, u => (if (u 31 i) = (1 : Int32) then (f_advanceRings_24 n (i + 1) x9 (f_R_advanceGreen u i ((u 30 i).toNatClampNeg) x9)) else (if (u 31 i) = (0 : Int32) then (f_advanceRings_24 n (i + 1) x9 u) else (f_advanceRings_24 n (i + 1) x9 (f_R_advanceEnding u i ((u 30 i).toNatClampNeg)))))
def g_advanceRings_24  : Nat → Nat → Int32 → St → Prop
  | 0, i, x9, u => True
  | n + 1, i, x9, u => (((u 31 i) = (1 : Int32) → ((vp_in (u 30 i) 8) ∧ (g_advanceRings_24 n (i + 1) x9 (f_R_advanceGreen u i ((u 30 i).toNatClampNeg) x9)))) ∧ (¬ (u 31 i) = (1 : Int32) → (((u 31 i) = (0 : Int32) → (g_advanceRings_24 n (i + 1) x9 u)) ∧ (¬ (u 31 i) = (0 : Int32) → ((vp_in (u 30 i) 8) ∧ (g_advanceRings_24 n (i + 1) x9 (f_R_advanceEnding u i ((u 30 i).toNatClampNeg))))))))
set_option maxRecDepth 20000 in
set_option maxHeartbeats 1000000 in
theorem w_advanceRings_24 {F : St} (B : jk_BV p l e R s m args below meth c cX3_advanceRings 4 RX3 TT D clA (tyl z) (cW z a) A Q rm_advanceRings F)  : ∀ (n i : Nat) (x9 : Int32) (u : St), i + n = 2 → f_advanceRings_24 n i x9 u = F → g_advanceRings_24 n i x9 u → JJ p l e R s m args below meth c 0 0 4 D clA (cW z a) A Q 24 [(2, .int (nI i)), (1, .int x9), (0, .ref (a 0))] u [] := by
  have C := B.1
  intro n
  induction n with
  | zero =>
    intro i x9 u hin hE hG
    obtain rfl : i = 2 := by omega
    have hge : (2 : Int32) ≤ nI 2 := by decide
    refine j_iload_n C 0 dX3_advanceRings_24 rfl ?_
    refine j_iconst C 2 dX3_advanceRings_25 ic_2 ?_
    refine j_icmp_ge C 87 dX3_advanceRings_26 (by decide) (fun _ => ?_) (fun hq => absurd hge hq)
    exact B.2.2 _ _ _ dX3_advanceRings_87 hE
  | succ n ih =>
    intro i x9 u hin hE hG
    have hlt : i < 2 := by omega
    have hnge : ¬ (2 : Int32) ≤ nI i := lt2 i hlt
    refine j_iload_n C 0 dX3_advanceRings_24 rfl ?_
    refine j_iconst C 2 dX3_advanceRings_25 ic_2 ?_
    refine j_icmp_ge C 87 dX3_advanceRings_26 (by decide) (fun hq => absurd hq hnge) (fun _ => ?_)
    refine j_aload_n C 2 dX3_advanceRings_29 rfl ?_
    refine j_get C kf_3 0 pl_desk 1 (by decide) lk_3_18 rfl dX3_advanceRings_30 ?_
    refine j_iload_n C 0 dX3_advanceRings_33 rfl ?_
    refine j_aald C 2 3 pl_rgs rfl i rfl hlt (by decide) rfl dX3_advanceRings_34 ?_
    refine j_astore_n C dX3_advanceRings_35 (by decide) rfl ?_
    refine j_aload_n C 0 dX3_advanceRings_36 rfl ?_
    refine j_get C kf_2 (23 + i) (pl_rg hlt) 3 (by decide) lk_3_140 rfl dX3_advanceRings_37 ?_
    refine j_iconst C 1 dX3_advanceRings_40 ic_1 ?_
    refine j_icmp_ne C 61 dX3_advanceRings_41 (by decide) (fun c1 => ?_) (fun c1 => ?_)
    · have hE := (if_neg c1).symm.trans hE
      have hG := hG.2 c1
      refine j_aload_n C 0 dX3_advanceRings_61 rfl ?_
      refine j_get C kf_2 (23 + i) (pl_rg hlt) 3 (by decide) lk_3_140 rfl dX3_advanceRings_62 ?_
      refine j_if_eq C 81 dX3_advanceRings_65 (by decide) (fun c2 => ?_) (fun c2 => ?_)
      · have hE := (if_pos c2).symm.trans hE
        have hG := hG.1 c2
        refine j_iinc C 1 (nI (i + 1)) dX3_advanceRings_81 rfl (nI_1 _) (by decide) rfl ?_
        refine j_goto C 24 dX3_advanceRings_84 (by decide) ?_
        refine j_lv [0, 2, 3] rfl ?_
        exact ih (i + 1) x9 u (by omega) hE hG
      · have hE := (if_neg c2).symm.trans hE
        have hG := hG.2 c2
        refine j_aload_n C 0 dX3_advanceRings_68 rfl ?_
        refine j_aload_n C 3 dX3_advanceRings_69 rfl ?_
        refine j_get C kf_3 0 pl_desk 0 (by decide) lk_3_11 rfl dX3_advanceRings_70 ?_
        refine j_aload_n C 0 dX3_advanceRings_73 rfl ?_
        refine j_get C kf_2 (23 + i) (pl_rg hlt) 2 (by decide) lk_3_137 rfl dX3_advanceRings_74 ?_
        obtain ⟨hv3, hG⟩ := hG
        have lhv3 := jk_lt hv3
        refine j_aald C 1 2 pl_mvs rfl ((u 30 i).toNatClampNeg) (jk_self hv3 (by decide)) (jk_lt hv3) (by decide) rfl dX3_advanceRings_77 ?_
        refine j_cVV C B.2.1 (c_R_advanceEnding l D z a u i ((u 30 i).toNatClampNeg) hlt (jk_lt hv3)) gv_3_205 dd_R_advanceEnding ⟨⟨rfl, rfl⟩, Nat.le_of_ble_eq_true rfl, Nat.le_of_ble_eq_true rfl⟩ (23 + i) 2 (pl_rg hlt) rfl rfl rfl rfl (Nat.le_of_ble_eq_true rfl) dX3_advanceRings_78 ?_
        refine j_iinc C 1 (nI (i + 1)) dX3_advanceRings_81 rfl (nI_1 _) (by decide) rfl ?_
        refine j_goto C 24 dX3_advanceRings_84 (by decide) ?_
        refine j_lv [0, 2, 3] rfl ?_
        exact ih (i + 1) x9 (f_R_advanceEnding u i ((u 30 i).toNatClampNeg)) (by omega) hE hG
    · have hE := (if_pos c1).symm.trans hE
      have hG := hG.1 c1
      refine j_aload_n C 0 dX3_advanceRings_44 rfl ?_
      refine j_aload_n C 3 dX3_advanceRings_45 rfl ?_
      refine j_get C kf_3 0 pl_desk 0 (by decide) lk_3_11 rfl dX3_advanceRings_46 ?_
      refine j_aload_n C 0 dX3_advanceRings_49 rfl ?_
      refine j_get C kf_2 (23 + i) (pl_rg hlt) 2 (by decide) lk_3_137 rfl dX3_advanceRings_50 ?_
      obtain ⟨hv4, hG⟩ := hG
      have lhv4 := jk_lt hv4
      refine j_aald C 1 2 pl_mvs rfl ((u 30 i).toNatClampNeg) (jk_self hv4 (by decide)) (jk_lt hv4) (by decide) rfl dX3_advanceRings_53 ?_
      refine j_iload_n C 2 dX3_advanceRings_54 rfl ?_
      refine j_cVV C B.2.1 (c_R_advanceGreen l D z a u i ((u 30 i).toNatClampNeg) x9 hlt (jk_lt hv4)) gv_3_201 dd_R_advanceGreen ⟨⟨rfl, rfl⟩, Nat.le_of_ble_eq_true rfl, Nat.le_of_ble_eq_true rfl⟩ (23 + i) 2 (pl_rg hlt) rfl rfl rfl rfl (Nat.le_of_ble_eq_true rfl) dX3_advanceRings_55 ?_
      refine j_goto C 81 dX3_advanceRings_58 (by decide) ?_
      refine j_iinc C 1 (nI (i + 1)) dX3_advanceRings_81 rfl (nI_1 _) (by decide) rfl ?_
      refine j_goto C 24 dX3_advanceRings_84 (by decide) ?_
      refine j_lv [0, 2, 3] rfl ?_
      exact ih (i + 1) x9 (f_R_advanceGreen u i ((u 30 i).toNatClampNeg) x9) (by omega) hE hG
def f_advanceRings (u : St)  : St := (if (f_isAnyCalledOn u (0 : Int32)) = (0 : Int32) then (if (f_isAnyCalledOn u (1 : Int32)) = (0 : Int32) then (f_advanceRings_24 2 0 (0 : Int32) u) else (f_advanceRings_24 2 0 (1 : Int32) u)) else (f_advanceRings_24 2 0 (1 : Int32) u))
def g_advanceRings (u : St)  : Prop := (((f_isAnyCalledOn u (0 : Int32)) = (0 : Int32) → (((f_isAnyCalledOn u (1 : Int32)) = (0 : Int32) → (g_advanceRings_24 2 0 (0 : Int32) u)) ∧ (¬ (f_isAnyCalledOn u (1 : Int32)) = (0 : Int32) → (g_advanceRings_24 2 0 (1 : Int32) u)))) ∧ (¬ (f_isAnyCalledOn u (0 : Int32)) = (0 : Int32) → (g_advanceRings_24 2 0 (1 : Int32) u)))
set_option maxRecDepth 20000 in
set_option maxHeartbeats 1000000 in
theorem w_advanceRings_0 {F : St} {u : St} (B : jk_BV p l e R s m args below meth c cX3_advanceRings 4 RX3 TT D clA (tyl z) (cW z a) A Q rm_advanceRings F)  (hE : f_advanceRings u = F) (hG : g_advanceRings u) : JJ p l e R s m args below meth c 0 0 4 D clA (cW z a) A Q 0 [(0, .ref (a 0))] u [] := by
  have C := B.1
  unfold f_advanceRings at hE
  unfold g_advanceRings at hG
  refine j_aload_n C 0 dX3_advanceRings_0 rfl ?_
  refine j_iconst C 0 dX3_advanceRings_1 ic_0 ?_
  refine j_cIV C B.2.1 (c_isAnyCalledOn l D z a u (0 : Int32)) gv_3_198 dd_isAnyCalledOn ⟨⟨rfl, rfl⟩, Nat.le_of_ble_eq_true rfl, Nat.le_of_ble_eq_true rfl⟩ 0 3 pl_desk rfl rfl rfl rfl (Nat.le_of_ble_eq_true rfl) dX3_advanceRings_2 ?_
  refine j_if_ne C 16 dX3_advanceRings_5 (by decide) (fun c1 => ?_) (fun c1 => ?_)
  · have hE := (if_neg c1).symm.trans hE
    have hG := hG.2 c1
    refine j_iconst C 1 dX3_advanceRings_16 ic_1 ?_
    refine j_goto C 21 dX3_advanceRings_17 (by decide) ?_
    refine j_istore_n C dX3_advanceRings_21 (by decide) rfl ?_
    refine j_iconst C 0 dX3_advanceRings_22 ic_0 ?_
    refine j_istore_n C dX3_advanceRings_23 (by decide) rfl ?_
    refine j_lq (congrArg (fun x => ([(2, .int x), (1, .int 1), (0, .ref (a 0))] : List (Nat × Value))) ix_0) ?_
    exact w_advanceRings_24 B 2 0 (1 : Int32) u (by omega) hE hG
  · have hE := (if_pos c1).symm.trans hE
    have hG := hG.1 c1
    refine j_aload_n C 0 dX3_advanceRings_8 rfl ?_
    refine j_iconst C 1 dX3_advanceRings_9 ic_1 ?_
    refine j_cIV C B.2.1 (c_isAnyCalledOn l D z a u (1 : Int32)) gv_3_198 dd_isAnyCalledOn ⟨⟨rfl, rfl⟩, Nat.le_of_ble_eq_true rfl, Nat.le_of_ble_eq_true rfl⟩ 0 3 pl_desk rfl rfl rfl rfl (Nat.le_of_ble_eq_true rfl) dX3_advanceRings_10 ?_
    refine j_if_eq C 20 dX3_advanceRings_13 (by decide) (fun c2 => ?_) (fun c2 => ?_)
    · have hE := (if_pos c2).symm.trans hE
      have hG := hG.1 c2
      refine j_iconst C 0 dX3_advanceRings_20 ic_0 ?_
      refine j_istore_n C dX3_advanceRings_21 (by decide) rfl ?_
      refine j_iconst C 0 dX3_advanceRings_22 ic_0 ?_
      refine j_istore_n C dX3_advanceRings_23 (by decide) rfl ?_
      refine j_lq (congrArg (fun x => ([(2, .int x), (1, .int 0), (0, .ref (a 0))] : List (Nat × Value))) ix_0) ?_
      exact w_advanceRings_24 B 2 0 (0 : Int32) u (by omega) hE hG
    · have hE := (if_neg c2).symm.trans hE
      have hG := hG.2 c2
      refine j_iconst C 1 dX3_advanceRings_16 ic_1 ?_
      refine j_goto C 21 dX3_advanceRings_17 (by decide) ?_
      refine j_istore_n C dX3_advanceRings_21 (by decide) rfl ?_
      refine j_iconst C 0 dX3_advanceRings_22 ic_0 ?_
      refine j_istore_n C dX3_advanceRings_23 (by decide) rfl ?_
      refine j_lq (congrArg (fun x => ([(2, .int x), (1, .int 1), (0, .ref (a 0))] : List (Nat × Value))) ix_0) ?_
      exact w_advanceRings_24 B 2 0 (1 : Int32) u (by omega) hE hG
theorem c_advanceRings (l : Launch) (D : va_G) (z : Nat → ClassId) (a : Nat → Nat) (u : St)  (hG : g_advanceRings u) : CtV l yX3_advanceRings (.code yX3_advanceRings cX3_advanceRings 4 none :: TT) rm_advanceRings D clA (tyl z) (cW z a) [.ref (a 0)] u (f_advanceRings u) :=
  jk_metV (own := RX3) (by decide) rfl (Nat.le_of_ble_eq_true rfl) (fun _ _ _ _ _ _ _ _ _ _ _ B => w_advanceRings_0 B rfl hG)
def rm_goOnWithinSide : Room := { frames := 4, cells := 0, slots := 0, locals := 85 }
def f_goOnWithinSide_45 (u : St) (r : Nat) : St := (if (f_isIdle u r) = (0 : Int32) then u else (if (u 0 2) = (0 : Int32) then (up2 u 35 r (f_calledOn u r (u 0 1))) else u))
def g_goOnWithinSide_45 (u : St) (r : Nat) : Prop := (((f_isIdle u r) = (0 : Int32) → True) ∧ (¬ (f_isIdle u r) = (0 : Int32) → (((u 0 2) = (0 : Int32) → (g_calledOn u r (u 0 1))) ∧ (¬ (u 0 2) = (0 : Int32) → True))))
set_option maxRecDepth 20000 in
set_option maxHeartbeats 1000000 in
theorem w_goOnWithinSide_45 {F : St} {u : St} (B : jk_BV p l e R s m args below meth c cX3_goOnWithinSide 3 RX3 TT D clA (tyl z) (cW z a) A Q rm_goOnWithinSide F) {r : Nat} (hr : r < 2) (hE : f_goOnWithinSide_45 u r = F) (hG : g_goOnWithinSide_45 u r) : JJ p l e R s m args below meth c 0 0 3 D clA (cW z a) A Q 45 [(0, .ref (a 0)), (1, .ref (a (23 + r)))] u [] := by
  have C := B.1
  unfold f_goOnWithinSide_45 at hE
  unfold g_goOnWithinSide_45 at hG
  refine j_aload_n C 1 dX3_goOnWithinSide_45 rfl ?_
  refine j_cIS C B.2.1 (c_isIdle l D z a u r hr) gv_3_212 dd_isIdle ⟨⟨rfl, rfl⟩, Nat.le_of_ble_eq_true rfl, Nat.le_of_ble_eq_true rfl⟩ rfl rfl (Nat.le_of_ble_eq_true rfl) dX3_goOnWithinSide_46 ?_
  refine j_if_eq C 72 dX3_goOnWithinSide_49 (by decide) (fun c1 => ?_) (fun c1 => ?_)
  · have hE := (if_pos c1).symm.trans hE
    exact B.2.2 _ _ _ dX3_goOnWithinSide_72 hE
  · have hE := (if_neg c1).symm.trans hE
    have hG := hG.2 c1
    refine j_aload_n C 0 dX3_goOnWithinSide_52 rfl ?_
    refine j_get C kf_3 0 pl_desk 6 (by decide) lk_3_103 rfl dX3_goOnWithinSide_53 ?_
    refine j_if_ne C 72 dX3_goOnWithinSide_56 (by decide) (fun c2 => ?_) (fun c2 => ?_)
    · have hE := (if_neg c2).symm.trans hE
      exact B.2.2 _ _ _ dX3_goOnWithinSide_72 hE
    · have hE := (if_pos c2).symm.trans hE
      have hG := hG.1 c2
      refine j_aload_n C 1 dX3_goOnWithinSide_59 rfl ?_
      refine j_aload_n C 0 dX3_goOnWithinSide_60 rfl ?_
      refine j_aload_n C 1 dX3_goOnWithinSide_61 rfl ?_
      refine j_aload_n C 0 dX3_goOnWithinSide_62 rfl ?_
      refine j_get C kf_3 0 pl_desk 5 (by decide) lk_3_106 rfl dX3_goOnWithinSide_63 ?_
      have hg3 := hG
      refine j_cIV C B.2.1 (c_calledOn l D z a u r (u 0 1) hr hg3) gv_3_215 dd_calledOn ⟨⟨rfl, rfl⟩, Nat.le_of_ble_eq_true rfl, Nat.le_of_ble_eq_true rfl⟩ 0 3 pl_desk rfl rfl rfl rfl (Nat.le_of_ble_eq_true rfl) dX3_goOnWithinSide_66 ?_
      refine j_put C kf_2 (23 + r) (pl_rg hr) 7 (by decide) lk_3_100 rfl rfl rfl (Nat.le_of_ble_eq_true rfl) (pu_rg_next hr) dX3_goOnWithinSide_69 ?_
      exact B.2.2 _ _ _ dX3_goOnWithinSide_72 hE
def f_goOnWithinSide (u : St) (r : Nat) : St := (if (f_mayEnd u r) = (0 : Int32) then (f_goOnWithinSide_45 u r) else (if (u 30 r) = (f_R_first u r (u 0 1)) then (if (f_isCalled u ((f_R_second u r (u 0 1)).toNatClampNeg)) = (0 : Int32) then (f_goOnWithinSide_45 u r) else (f_goOnWithinSide_45 (f_R_endGreen u r (f_R_second u r (u 0 1))) r)) else (f_goOnWithinSide_45 u r)))
def g_goOnWithinSide (u : St) (r : Nat) : Prop := ((g_R_second u r (u 0 1)) ∧ ((g_mayEnd u r) ∧ (((f_mayEnd u r) = (0 : Int32) → (g_goOnWithinSide_45 u r)) ∧ (¬ (f_mayEnd u r) = (0 : Int32) → ((g_R_first u r (u 0 1)) ∧ (((u 30 r) = (f_R_first u r (u 0 1)) → ((vp_in (f_R_second u r (u 0 1)) 8) ∧ (((f_isCalled u ((f_R_second u r (u 0 1)).toNatClampNeg)) = (0 : Int32) → (g_goOnWithinSide_45 u r)) ∧ (¬ (f_isCalled u ((f_R_second u r (u 0 1)).toNatClampNeg)) = (0 : Int32) → (g_goOnWithinSide_45 (f_R_endGreen u r (f_R_second u r (u 0 1))) r))))) ∧ (¬ (u 30 r) = (f_R_first u r (u 0 1)) → (g_goOnWithinSide_45 u r))))))))
set_option maxRecDepth 20000 in
set_option maxHeartbeats 1000000 in
theorem w_goOnWithinSide_0 {F : St} {u : St} (B : jk_BV p l e R s m args below meth c cX3_goOnWithinSide 3 RX3 TT D clA (tyl z) (cW z a) A Q rm_goOnWithinSide F) {r : Nat} (hr : r < 2) (hE : f_goOnWithinSide u r = F) (hG : g_goOnWithinSide u r) : JJ p l e R s m args below meth c 0 0 3 D clA (cW z a) A Q 0 [(0, .ref (a 0)), (1, .ref (a (23 + r)))] u [] := by
  have C := B.1
  unfold f_goOnWithinSide at hE
  unfold g_goOnWithinSide at hG
  refine j_aload_n C 1 dX3_goOnWithinSide_0 rfl ?_
  refine j_aload_n C 0 dX3_goOnWithinSide_1 rfl ?_
  refine j_get C kf_3 0 pl_desk 5 (by decide) lk_3_106 rfl dX3_goOnWithinSide_2 ?_
  obtain ⟨hg1, hG⟩ := hG
  refine j_cIV C B.2.1 (c_R_second l D z a u r (u 0 1) hr hg1) gv_3_63 dd_R_second ⟨⟨rfl, rfl⟩, Nat.le_of_ble_eq_true rfl, Nat.le_of_ble_eq_true rfl⟩ (23 + r) 2 (pl_rg hr) rfl rfl rfl rfl (Nat.le_of_ble_eq_true rfl) dX3_goOnWithinSide_5 ?_
  refine j_istore_n C dX3_goOnWithinSide_8 (by decide) rfl ?_
  refine j_aload_n C 1 dX3_goOnWithinSide_9 rfl ?_
  refine j_aload_n C 2 dX3_goOnWithinSide_10 rfl ?_
  obtain ⟨hg2, hG⟩ := hG
  refine j_cIV C B.2.1 (c_mayEnd l D z a u r hr hg2) gv_3_152 dd_mayEnd ⟨⟨rfl, rfl⟩, Nat.le_of_ble_eq_true rfl, Nat.le_of_ble_eq_true rfl⟩ 0 3 pl_desk rfl rfl rfl rfl (Nat.le_of_ble_eq_true rfl) dX3_goOnWithinSide_11 ?_
  refine j_if_eq C 45 dX3_goOnWithinSide_14 (by decide) (fun c3 => ?_) (fun c3 => ?_)
  · have hE := (if_pos c3).symm.trans hE
    have hG := hG.1 c3
    refine j_lv [1, 2] rfl ?_
    exact w_goOnWithinSide_45 B hr hE hG
  · have hE := (if_neg c3).symm.trans hE
    have hG := hG.2 c3
    refine j_aload_n C 2 dX3_goOnWithinSide_17 rfl ?_
    refine j_get C kf_2 (23 + r) (pl_rg hr) 2 (by decide) lk_3_137 rfl dX3_goOnWithinSide_18 ?_
    refine j_aload_n C 2 dX3_goOnWithinSide_21 rfl ?_
    refine j_aload_n C 1 dX3_goOnWithinSide_22 rfl ?_
    refine j_get C kf_3 0 pl_desk 5 (by decide) lk_3_106 rfl dX3_goOnWithinSide_23 ?_
    obtain ⟨hg4, hG⟩ := hG
    refine j_cIV C B.2.1 (c_R_first l D z a u r (u 0 1) hr hg4) gv_3_56 dd_R_first ⟨⟨rfl, rfl⟩, Nat.le_of_ble_eq_true rfl, Nat.le_of_ble_eq_true rfl⟩ (23 + r) 2 (pl_rg hr) rfl rfl rfl rfl (Nat.le_of_ble_eq_true rfl) dX3_goOnWithinSide_26 ?_
    refine j_icmp_ne C 45 dX3_goOnWithinSide_29 (by decide) (fun c5 => ?_) (fun c5 => ?_)
    · have hE := (if_neg c5).symm.trans hE
      have hG := hG.2 c5
      refine j_lv [1, 2] rfl ?_
      exact w_goOnWithinSide_45 B hr hE hG
    · have hE := (if_pos c5).symm.trans hE
      have hG := hG.1 c5
      refine j_aload_n C 1 dX3_goOnWithinSide_32 rfl ?_
      refine j_iload_n C 0 dX3_goOnWithinSide_33 rfl ?_
      obtain ⟨hv6, hG⟩ := hG
      have lhv6 := jk_lt hv6
      refine j_st (st' := [.int (nI ((f_R_second u r (u 0 1)).toNatClampNeg)), .ref (a 0)]) (congrArg (fun x => ([.int x, .ref (a 0)] : List Value)) (jk_self hv6 (by decide))) ?_
      refine j_cIV C B.2.1 (c_isCalled l D z a u ((f_R_second u r (u 0 1)).toNatClampNeg) (jk_lt hv6)) gv_3_121 dd_isCalled ⟨⟨rfl, rfl⟩, Nat.le_of_ble_eq_true rfl, Nat.le_of_ble_eq_true rfl⟩ 0 3 pl_desk rfl rfl rfl rfl (Nat.le_of_ble_eq_true rfl) dX3_goOnWithinSide_34 ?_
      refine j_if_eq C 45 dX3_goOnWithinSide_37 (by decide) (fun c7 => ?_) (fun c7 => ?_)
      · have hE := (if_pos c7).symm.trans hE
        have hG := hG.1 c7
        refine j_lv [1, 2] rfl ?_
        exact w_goOnWithinSide_45 B hr hE hG
      · have hE := (if_neg c7).symm.trans hE
        have hG := hG.2 c7
        refine j_aload_n C 2 dX3_goOnWithinSide_40 rfl ?_
        refine j_iload_n C 0 dX3_goOnWithinSide_41 rfl ?_
        refine j_cVV C B.2.1 (c_R_endGreen l D z a u r (f_R_second u r (u 0 1)) hr) gv_3_209 dd_R_endGreen ⟨⟨rfl, rfl⟩, Nat.le_of_ble_eq_true rfl, Nat.le_of_ble_eq_true rfl⟩ (23 + r) 2 (pl_rg hr) rfl rfl rfl rfl (Nat.le_of_ble_eq_true rfl) dX3_goOnWithinSide_42 ?_
        refine j_lv [1, 2] rfl ?_
        exact w_goOnWithinSide_45 B hr hE hG
theorem c_goOnWithinSide (l : Launch) (D : va_G) (z : Nat → ClassId) (a : Nat → Nat) (u : St) (r : Nat) (hr : r < 2) (hG : g_goOnWithinSide u r) : CtV l yX3_goOnWithinSide (.code yX3_goOnWithinSide cX3_goOnWithinSide 3 none :: TT) rm_goOnWithinSide D clA (tyl z) (cW z a) [.ref (a 0), .ref (a (23 + r))] u (f_goOnWithinSide u r) :=
  jk_metV (own := RX3) (by decide) rfl (Nat.le_of_ble_eq_true rfl) (fun _ _ _ _ _ _ _ _ _ _ _ B => w_goOnWithinSide_0 B hr rfl hG)
def rm_turnBackToFirst : Room := { frames := 3, cells := 0, slots := 0, locals := 63 }
def f_turnBackToFirst (u : St) (r : Nat) : St := (if (f_mayEnd u r) = (0 : Int32) then u else (if (u 30 r) = (f_R_second u r (u 0 1)) then (if (f_isCalled u ((f_R_first u r (u 0 1)).toNatClampNeg)) = (0 : Int32) then u else (f_R_endGreen u r (f_R_first u r (u 0 1)))) else u))
def g_turnBackToFirst (u : St) (r : Nat) : Prop := ((g_R_first u r (u 0 1)) ∧ ((g_mayEnd u r) ∧ (((f_mayEnd u r) = (0 : Int32) → True) ∧ (¬ (f_mayEnd u r) = (0 : Int32) → ((g_R_second u r (u 0 1)) ∧ (((u 30 r) = (f_R_second u r (u 0 1)) → (vp_in (f_R_first u r (u 0 1)) 8)) ∧ (¬ (u 30 r) = (f_R_second u r (u 0 1)) → True)))))))
set_option maxRecDepth 20000 in
set_option maxHeartbeats 1000000 in
theorem w_turnBackToFirst_0 {F : St} {u : St} (B : jk_BV p l e R s m args below meth c cX3_turnBackToFirst 3 RX3 TT D clA (tyl z) (cW z a) A Q rm_turnBackToFirst F) {r : Nat} (hr : r < 2) (hE : f_turnBackToFirst u r = F) (hG : g_turnBackToFirst u r) : JJ p l e R s m args below meth c 0 0 3 D clA (cW z a) A Q 0 [(0, .ref (a 0)), (1, .ref (a (23 + r)))] u [] := by
  have C := B.1
  unfold f_turnBackToFirst at hE
  unfold g_turnBackToFirst at hG
  refine j_aload_n C 1 dX3_turnBackToFirst_0 rfl ?_
  refine j_aload_n C 0 dX3_turnBackToFirst_1 rfl ?_
  refine j_get C kf_3 0 pl_desk 5 (by decide) lk_3_106 rfl dX3_turnBackToFirst_2 ?_
  obtain ⟨hg1, hG⟩ := hG
  refine j_cIV C B.2.1 (c_R_first l D z a u r (u 0 1) hr hg1) gv_3_56 dd_R_first ⟨⟨rfl, rfl⟩, Nat.le_of_ble_eq_true rfl, Nat.le_of_ble_eq_true rfl⟩ (23 + r) 2 (pl_rg hr) rfl rfl rfl rfl (Nat.le_of_ble_eq_true rfl) dX3_turnBackToFirst_5 ?_
  refine j_istore_n C dX3_turnBackToFirst_8 (by decide) rfl ?_
  refine j_aload_n C 1 dX3_turnBackToFirst_9 rfl ?_
  refine j_aload_n C 2 dX3_turnBackToFirst_10 rfl ?_
  obtain ⟨hg2, hG⟩ := hG
  refine j_cIV C B.2.1 (c_mayEnd l D z a u r hr hg2) gv_3_152 dd_mayEnd ⟨⟨rfl, rfl⟩, Nat.le_of_ble_eq_true rfl, Nat.le_of_ble_eq_true rfl⟩ 0 3 pl_desk rfl rfl rfl rfl (Nat.le_of_ble_eq_true rfl) dX3_turnBackToFirst_11 ?_
  refine j_if_eq C 45 dX3_turnBackToFirst_14 (by decide) (fun c3 => ?_) (fun c3 => ?_)
  · have hE := (if_pos c3).symm.trans hE
    exact B.2.2 _ _ _ dX3_turnBackToFirst_45 hE
  · have hE := (if_neg c3).symm.trans hE
    have hG := hG.2 c3
    refine j_aload_n C 2 dX3_turnBackToFirst_17 rfl ?_
    refine j_get C kf_2 (23 + r) (pl_rg hr) 2 (by decide) lk_3_137 rfl dX3_turnBackToFirst_18 ?_
    refine j_aload_n C 2 dX3_turnBackToFirst_21 rfl ?_
    refine j_aload_n C 1 dX3_turnBackToFirst_22 rfl ?_
    refine j_get C kf_3 0 pl_desk 5 (by decide) lk_3_106 rfl dX3_turnBackToFirst_23 ?_
    obtain ⟨hg4, hG⟩ := hG
    refine j_cIV C B.2.1 (c_R_second l D z a u r (u 0 1) hr hg4) gv_3_63 dd_R_second ⟨⟨rfl, rfl⟩, Nat.le_of_ble_eq_true rfl, Nat.le_of_ble_eq_true rfl⟩ (23 + r) 2 (pl_rg hr) rfl rfl rfl rfl (Nat.le_of_ble_eq_true rfl) dX3_turnBackToFirst_26 ?_
    refine j_icmp_ne C 45 dX3_turnBackToFirst_29 (by decide) (fun c5 => ?_) (fun c5 => ?_)
    · have hE := (if_neg c5).symm.trans hE
      exact B.2.2 _ _ _ dX3_turnBackToFirst_45 hE
    · have hE := (if_pos c5).symm.trans hE
      have hG := hG.1 c5
      refine j_aload_n C 1 dX3_turnBackToFirst_32 rfl ?_
      refine j_iload_n C 0 dX3_turnBackToFirst_33 rfl ?_
      have hv6 := hG
      have lhv6 := jk_lt hv6
      refine j_st (st' := [.int (nI ((f_R_first u r (u 0 1)).toNatClampNeg)), .ref (a 0)]) (congrArg (fun x => ([.int x, .ref (a 0)] : List Value)) (jk_self hv6 (by decide))) ?_
      refine j_cIV C B.2.1 (c_isCalled l D z a u ((f_R_first u r (u 0 1)).toNatClampNeg) (jk_lt hv6)) gv_3_121 dd_isCalled ⟨⟨rfl, rfl⟩, Nat.le_of_ble_eq_true rfl, Nat.le_of_ble_eq_true rfl⟩ 0 3 pl_desk rfl rfl rfl rfl (Nat.le_of_ble_eq_true rfl) dX3_turnBackToFirst_34 ?_
      refine j_if_eq C 45 dX3_turnBackToFirst_37 (by decide) (fun c7 => ?_) (fun c7 => ?_)
      · have hE := (if_pos c7).symm.trans hE
        exact B.2.2 _ _ _ dX3_turnBackToFirst_45 hE
      · have hE := (if_neg c7).symm.trans hE
        refine j_aload_n C 2 dX3_turnBackToFirst_40 rfl ?_
        refine j_iload_n C 0 dX3_turnBackToFirst_41 rfl ?_
        refine j_cVV C B.2.1 (c_R_endGreen l D z a u r (f_R_first u r (u 0 1)) hr) gv_3_209 dd_R_endGreen ⟨⟨rfl, rfl⟩, Nat.le_of_ble_eq_true rfl, Nat.le_of_ble_eq_true rfl⟩ (23 + r) 2 (pl_rg hr) rfl rfl rfl rfl (Nat.le_of_ble_eq_true rfl) dX3_turnBackToFirst_42 ?_
        exact B.2.2 _ _ _ dX3_turnBackToFirst_45 hE
theorem c_turnBackToFirst (l : Launch) (D : va_G) (z : Nat → ClassId) (a : Nat → Nat) (u : St) (r : Nat) (hr : r < 2) (hG : g_turnBackToFirst u r) : CtV l yX3_turnBackToFirst (.code yX3_turnBackToFirst cX3_turnBackToFirst 3 none :: TT) rm_turnBackToFirst D clA (tyl z) (cW z a) [.ref (a 0), .ref (a (23 + r))] u (f_turnBackToFirst u r) :=
  jk_metV (own := RX3) (by decide) rfl (Nat.le_of_ble_eq_true rfl) (fun _ _ _ _ _ _ _ _ _ _ _ B => w_turnBackToFirst_0 B hr rfl hG)
end WLK

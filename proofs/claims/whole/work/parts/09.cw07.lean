section WLK
variable {p : Program} {l : Launch} {e : Env} {R : Room} {s : State} {m : MethodId} {args : Array Value} {below : List Frame} {meth : Method} {c : Code} {D : va_G} {z : Nat → ClassId} {a : Nat → Nat} {A : Nat → Prop} {Q : State → Prop}
def rm_tick : Room := { frames := 5, cells := 0, slots := 0, locals := 108 }
def f_tick_89 (u : St)  : Int32 × St := ((f_beginGreens u).1, (f_showLightsToGuard (f_beginGreens u).2))
def g_tick_89 (u : St)  : Prop := ((g_beginGreens u) ∧ (g_showLightsToGuard (f_beginGreens u).2))
set_option maxRecDepth 20000 in
set_option maxHeartbeats 1000000 in
theorem w_tick_89 {F : Int32 × St} {u : St} (B : jk_BI p l e R s m args below meth c cX3_tick 2 RX3 TT .int D clA (tyl z) (cW z a) A Q rm_tick F)  (hE : f_tick_89 u = F) (hG : g_tick_89 u) : JJ p l e R s m args below meth c 0 0 2 D clA (cW z a) A Q 89 [(0, .ref (a 0))] u [] := by
  have C := B.1
  unfold f_tick_89 at hE
  unfold g_tick_89 at hG
  refine j_aload_n C 0 dX3_tick_89 rfl ?_
  obtain ⟨hg1, hG⟩ := hG
  refine j_cIV C B.2.1 (c_beginGreens l D z a u hg1) gv_3_188 dd_beginGreens ⟨⟨rfl, rfl⟩, Nat.le_of_ble_eq_true rfl, Nat.le_of_ble_eq_true rfl⟩ 0 3 pl_desk rfl rfl rfl rfl (Nat.le_of_ble_eq_true rfl) dX3_tick_90 ?_
  refine j_istore_n C dX3_tick_93 (by decide) rfl ?_
  refine j_aload_n C 1 dX3_tick_94 rfl ?_
  have hg2 := hG
  refine j_cVV C B.2.1 (c_showLightsToGuard l D z a (f_beginGreens u).2 hg2) gv_3_191 dd_showLightsToGuard ⟨⟨rfl, rfl⟩, Nat.le_of_ble_eq_true rfl, Nat.le_of_ble_eq_true rfl⟩ 0 3 pl_desk rfl rfl rfl rfl (Nat.le_of_ble_eq_true rfl) dX3_tick_95 ?_
  refine j_iload_n C 0 dX3_tick_98 rfl ?_
  exact B.2.2 _ _ _ _ dX3_tick_99 rfl hE
def f_tick_29  : Nat → Nat → St → Int32 × St
  | 0, i, u => (if ((f_leaveSideOrTurnBack u) 0 2) = (0 : Int32) then (f_tick_89 (f_leaveSideOrTurnBack u)) else (if ((f_leaveSideOrTurnBack u) 31 0) = (0 : Int32) then (if ((f_leaveSideOrTurnBack u) 31 1) = (0 : Int32) then (f_tick_89 (f_endCrossing (f_leaveSideOrTurnBack u))) else (f_tick_89 (f_leaveSideOrTurnBack u))) else (f_tick_89 (f_leaveSideOrTurnBack u))))
  | n + 1, i, u => (f_tick_29 n (i + 1) (f_goOnWithinSide u i))
def g_tick_29  : Nat → Nat → St → Prop
  | 0, i, u => ((g_leaveSideOrTurnBack u) ∧ ((((f_leaveSideOrTurnBack u) 0 2) = (0 : Int32) → (g_tick_89 (f_leaveSideOrTurnBack u))) ∧ (¬ ((f_leaveSideOrTurnBack u) 0 2) = (0 : Int32) → ((((f_leaveSideOrTurnBack u) 31 0) = (0 : Int32) → ((((f_leaveSideOrTurnBack u) 31 1) = (0 : Int32) → ((g_endCrossing (f_leaveSideOrTurnBack u)) ∧ (g_tick_89 (f_endCrossing (f_leaveSideOrTurnBack u))))) ∧ (¬ ((f_leaveSideOrTurnBack u) 31 1) = (0 : Int32) → (g_tick_89 (f_leaveSideOrTurnBack u))))) ∧ (¬ ((f_leaveSideOrTurnBack u) 31 0) = (0 : Int32) → (g_tick_89 (f_leaveSideOrTurnBack u)))))))
  | n + 1, i, u => ((g_goOnWithinSide u i) ∧ (g_tick_29 n (i + 1) (f_goOnWithinSide u i)))
set_option maxRecDepth 20000 in
set_option maxHeartbeats 1000000 in
theorem w_tick_29 {F : Int32 × St} (B : jk_BI p l e R s m args below meth c cX3_tick 2 RX3 TT .int D clA (tyl z) (cW z a) A Q rm_tick F)  : ∀ (n i : Nat) (u : St), i + n = 2 → f_tick_29 n i u = F → g_tick_29 n i u → JJ p l e R s m args below meth c 0 0 2 D clA (cW z a) A Q 29 [(1, .int (nI i)), (0, .ref (a 0))] u [] := by
  have C := B.1
  intro n
  induction n with
  | zero =>
    intro i u hin hE hG
    obtain rfl : i = 2 := by omega
    have hge : (2 : Int32) ≤ nI 2 := by decide
    refine j_iload_n C 0 dX3_tick_29 rfl ?_
    refine j_iconst C 2 dX3_tick_30 ic_2 ?_
    refine j_icmp_ge C 50 dX3_tick_31 (by decide) (fun _ => ?_) (fun hq => absurd hge hq)
    refine j_aload_n C 1 dX3_tick_50 rfl ?_
    obtain ⟨hg1, hG⟩ := hG
    refine j_cVV C B.2.1 (c_leaveSideOrTurnBack l D z a u hg1) gv_3_182 dd_leaveSideOrTurnBack ⟨⟨rfl, rfl⟩, Nat.le_of_ble_eq_true rfl, Nat.le_of_ble_eq_true rfl⟩ 0 3 pl_desk rfl rfl rfl rfl (Nat.le_of_ble_eq_true rfl) dX3_tick_51 ?_
    refine j_aload_n C 1 dX3_tick_54 rfl ?_
    refine j_get C kf_3 0 pl_desk 6 (by decide) lk_3_103 rfl dX3_tick_55 ?_
    refine j_if_eq C 89 dX3_tick_58 (by decide) (fun c2 => ?_) (fun c2 => ?_)
    · have hE := (if_pos c2).symm.trans hE
      have hG := hG.1 c2
      refine j_lv [1] rfl ?_
      exact w_tick_89 B hE hG
    · have hE := (if_neg c2).symm.trans hE
      have hG := hG.2 c2
      refine j_aload_n C 1 dX3_tick_61 rfl ?_
      refine j_get C kf_3 0 pl_desk 1 (by decide) lk_3_18 rfl dX3_tick_62 ?_
      refine j_iconst C 0 dX3_tick_65 ic_0 ?_
      refine j_aald C 2 3 pl_rgs rfl 0 ix_0 (by decide) (by decide) rfl dX3_tick_66 ?_
      refine j_get C kf_2 (23 + 0) (pl_rg (by decide)) 3 (by decide) lk_3_140 rfl dX3_tick_67 ?_
      refine j_if_ne C 89 dX3_tick_70 (by decide) (fun c3 => ?_) (fun c3 => ?_)
      · have hE := (if_neg c3).symm.trans hE
        have hG := hG.2 c3
        refine j_lv [1] rfl ?_
        exact w_tick_89 B hE hG
      · have hE := (if_pos c3).symm.trans hE
        have hG := hG.1 c3
        refine j_aload_n C 1 dX3_tick_73 rfl ?_
        refine j_get C kf_3 0 pl_desk 1 (by decide) lk_3_18 rfl dX3_tick_74 ?_
        refine j_iconst C 1 dX3_tick_77 ic_1 ?_
        refine j_aald C 2 3 pl_rgs rfl 1 ix_1 (by decide) (by decide) rfl dX3_tick_78 ?_
        refine j_get C kf_2 (23 + 1) (pl_rg (by decide)) 3 (by decide) lk_3_140 rfl dX3_tick_79 ?_
        refine j_if_ne C 89 dX3_tick_82 (by decide) (fun c4 => ?_) (fun c4 => ?_)
        · have hE := (if_neg c4).symm.trans hE
          have hG := hG.2 c4
          refine j_lv [1] rfl ?_
          exact w_tick_89 B hE hG
        · have hE := (if_pos c4).symm.trans hE
          have hG := hG.1 c4
          refine j_aload_n C 1 dX3_tick_85 rfl ?_
          obtain ⟨hg5, hG⟩ := hG
          refine j_cVV C B.2.1 (c_endCrossing l D z a (f_leaveSideOrTurnBack u) hg5) gv_3_185 dd_endCrossing ⟨⟨rfl, rfl⟩, Nat.le_of_ble_eq_true rfl, Nat.le_of_ble_eq_true rfl⟩ 0 3 pl_desk rfl rfl rfl rfl (Nat.le_of_ble_eq_true rfl) dX3_tick_86 ?_
          refine j_lv [1] rfl ?_
          exact w_tick_89 B hE hG
  | succ n ih =>
    intro i u hin hE hG
    have hlt : i < 2 := by omega
    have hnge : ¬ (2 : Int32) ≤ nI i := lt2 i hlt
    refine j_iload_n C 0 dX3_tick_29 rfl ?_
    refine j_iconst C 2 dX3_tick_30 ic_2 ?_
    refine j_icmp_ge C 50 dX3_tick_31 (by decide) (fun hq => absurd hq hnge) (fun _ => ?_)
    refine j_aload_n C 1 dX3_tick_34 rfl ?_
    refine j_aload_n C 1 dX3_tick_35 rfl ?_
    refine j_get C kf_3 0 pl_desk 1 (by decide) lk_3_18 rfl dX3_tick_36 ?_
    refine j_iload_n C 0 dX3_tick_39 rfl ?_
    refine j_aald C 2 3 pl_rgs rfl i rfl hlt (by decide) rfl dX3_tick_40 ?_
    obtain ⟨hg1, hG⟩ := hG
    refine j_cVV C B.2.1 (c_goOnWithinSide l D z a u i hlt hg1) gv_3_178 dd_goOnWithinSide ⟨⟨rfl, rfl⟩, Nat.le_of_ble_eq_true rfl, Nat.le_of_ble_eq_true rfl⟩ 0 3 pl_desk rfl rfl rfl rfl (Nat.le_of_ble_eq_true rfl) dX3_tick_41 ?_
    refine j_iinc C 0 (nI (i + 1)) dX3_tick_44 rfl (nI_1 _) (by decide) rfl ?_
    refine j_goto C 29 dX3_tick_47 (by decide) ?_
    exact ih (i + 1) (f_goOnWithinSide u i) (by omega) hE hG
def f_tick (u : St)  : Int32 × St := (if (f_isFlashing (up2 u 0 0 ((u 0 0) + (1 : Int32)))) = (0 : Int32) then (f_tick_29 2 0 (f_advanceRings (f_countWaits (up2 u 0 0 ((u 0 0) + (1 : Int32)))))) else ((0 : Int32), (up2 u 0 0 ((u 0 0) + (1 : Int32)))))
def g_tick (u : St)  : Prop := (((f_isFlashing (up2 u 0 0 ((u 0 0) + (1 : Int32)))) = (0 : Int32) → ((g_advanceRings (f_countWaits (up2 u 0 0 ((u 0 0) + (1 : Int32))))) ∧ (g_tick_29 2 0 (f_advanceRings (f_countWaits (up2 u 0 0 ((u 0 0) + (1 : Int32)))))))) ∧ (¬ (f_isFlashing (up2 u 0 0 ((u 0 0) + (1 : Int32)))) = (0 : Int32) → True))
set_option maxRecDepth 20000 in
set_option maxHeartbeats 1000000 in
theorem w_tick_0 {F : Int32 × St} {u : St} (B : jk_BI p l e R s m args below meth c cX3_tick 2 RX3 TT .int D clA (tyl z) (cW z a) A Q rm_tick F)  (hE : f_tick u = F) (hG : g_tick u) : JJ p l e R s m args below meth c 0 0 2 D clA (cW z a) A Q 0 [(0, .ref (a 0))] u [] := by
  have C := B.1
  unfold f_tick at hE
  unfold g_tick at hG
  refine j_aload_n C 0 dX3_tick_0 rfl ?_
  refine j_dup C dX3_tick_1 rfl ?_
  refine j_get C kf_3 0 pl_desk 4 (by decide) lk_3_156 rfl dX3_tick_2 ?_
  refine j_iconst C 1 dX3_tick_5 ic_1 ?_
  refine j_iadd C dX3_tick_6 ?_
  refine j_put C kf_3 0 pl_desk 4 (by decide) lk_3_156 rfl rfl rfl (Nat.le_of_ble_eq_true rfl) pu_desk_time dX3_tick_7 ?_
  refine j_aload_n C 0 dX3_tick_10 rfl ?_
  refine j_cIV C B.2.1 (c_isFlashing l D z a (up2 u 0 0 ((u 0 0) + (1 : Int32)))) gv_3_93 dd_isFlashing ⟨⟨rfl, rfl⟩, Nat.le_of_ble_eq_true rfl, Nat.le_of_ble_eq_true rfl⟩ 0 3 pl_desk rfl rfl rfl rfl (Nat.le_of_ble_eq_true rfl) dX3_tick_11 ?_
  refine j_if_eq C 19 dX3_tick_14 (by decide) (fun c1 => ?_) (fun c1 => ?_)
  · have hE := (if_pos c1).symm.trans hE
    have hG := hG.1 c1
    refine j_aload_n C 0 dX3_tick_19 rfl ?_
    refine j_cVV C B.2.1 (c_countWaits l D z a (up2 u 0 0 ((u 0 0) + (1 : Int32)))) gv_3_172 dd_countWaits ⟨⟨rfl, rfl⟩, Nat.le_of_ble_eq_true rfl, Nat.le_of_ble_eq_true rfl⟩ 0 3 pl_desk rfl rfl rfl rfl (Nat.le_of_ble_eq_true rfl) dX3_tick_20 ?_
    refine j_aload_n C 0 dX3_tick_23 rfl ?_
    obtain ⟨hg2, hG⟩ := hG
    refine j_cVV C B.2.1 (c_advanceRings l D z a (f_countWaits (up2 u 0 0 ((u 0 0) + (1 : Int32)))) hg2) gv_3_175 dd_advanceRings ⟨⟨rfl, rfl⟩, Nat.le_of_ble_eq_true rfl, Nat.le_of_ble_eq_true rfl⟩ 0 3 pl_desk rfl rfl rfl rfl (Nat.le_of_ble_eq_true rfl) dX3_tick_24 ?_
    refine j_iconst C 0 dX3_tick_27 ic_0 ?_
    refine j_istore_n C dX3_tick_28 (by decide) rfl ?_
    refine j_lq (congrArg (fun x => ([(1, .int x), (0, .ref (a 0))] : List (Nat × Value))) ix_0) ?_
    exact w_tick_29 B 2 0 (f_advanceRings (f_countWaits (up2 u 0 0 ((u 0 0) + (1 : Int32))))) (by omega) hE hG
  · have hE := (if_neg c1).symm.trans hE
    refine j_iconst C 0 dX3_tick_17 ic_0 ?_
    exact B.2.2 _ _ _ _ dX3_tick_18 rfl hE
theorem c_tick (l : Launch) (D : va_G) (z : Nat → ClassId) (a : Nat → Nat) (u : St)  (hG : g_tick u) : CtI l yX3_tick (.code yX3_tick cX3_tick 2 (some .int) :: TT) rm_tick D clA (tyl z) (cW z a) [.ref (a 0)] u (f_tick u).1 (f_tick u).2 :=
  jk_metI (own := RX3) (by decide) rfl (Nat.le_of_ble_eq_true rfl) (fun _ _ _ _ _ _ _ _ _ _ _ B => w_tick_0 B rfl hG)
def rm_run : Room := { frames := 6, cells := 0, slots := 0, locals := 129 }
def f_run_17 (x0 : Int32) : Nat → Nat → Int32 → Nat → St → Int32 × St
  | 0, i, x9, k9, u => (x9, u)
  | n + 1, i, x9, k9, u => (f_run_17 x0 n (i + 1) (x9 + (f_tick u).1) k9 (f_tick u).2)
def g_run_17 (x0 : Int32) : Nat → Nat → Int32 → Nat → St → Prop
  | 0, i, x9, k9, u => True
  | n + 1, i, x9, k9, u => ((g_tick u) ∧ (g_run_17 x0 n (i + 1) (x9 + (f_tick u).1) k9 (f_tick u).2))
set_option maxRecDepth 20000 in
set_option maxHeartbeats 1000000 in
theorem w_run_17 {F : Int32 × St} (B : jk_BI p l e R s m args below meth c cX3_run 4 RX3 TT .int D clA (tyl z) (cW z a) A Q rm_run F) (x0 : Int32) : ∀ (n i : Nat) (x9 : Int32) (k9 : Nat) (u : St), i + n = k9 → k9 < 501 → f_run_17 x0 n i x9 k9 u = F → g_run_17 x0 n i x9 k9 u → JJ p l e R s m args below meth c 0 0 4 D clA (cW z a) A Q 17 [(3, .int (nI i)), (2, .int x9), (1, .int (nI k9)), (0, .ref (a 0))] u [] := by
  have C := B.1
  intro n
  induction n with
  | zero =>
    intro i x9 k9 u hin hk9 hE hG
    obtain rfl : i = k9 := by omega
    have hge : nI i ≤ nI i := Int32.le_refl _
    refine j_iload_n C 0 dX3_run_17 rfl ?_
    refine j_iload_n C 2 dX3_run_18 rfl ?_
    refine j_icmp_ge C 35 dX3_run_19 (by decide) (fun _ => ?_) (fun hq => absurd hge hq)
    refine j_iload_n C 1 dX3_run_35 rfl ?_
    exact B.2.2 _ _ _ _ dX3_run_36 rfl hE
  | succ n ih =>
    intro i x9 k9 u hin hk9 hE hG
    have hlt : i < k9 := by omega
    have hnge : ¬ nI k9 ≤ nI i := nI_ge hlt (by omega)
    refine j_iload_n C 0 dX3_run_17 rfl ?_
    refine j_iload_n C 2 dX3_run_18 rfl ?_
    refine j_icmp_ge C 35 dX3_run_19 (by decide) (fun hq => absurd hq hnge) (fun _ => ?_)
    refine j_iload_n C 1 dX3_run_22 rfl ?_
    refine j_aload_n C 3 dX3_run_23 rfl ?_
    obtain ⟨hg1, hG⟩ := hG
    refine j_cIV C B.2.1 (c_tick l D z a u hg1) gv_3_89 dd_tick ⟨⟨rfl, rfl⟩, Nat.le_of_ble_eq_true rfl, Nat.le_of_ble_eq_true rfl⟩ 0 3 pl_desk rfl rfl rfl rfl (Nat.le_of_ble_eq_true rfl) dX3_run_24 ?_
    refine j_iadd C dX3_run_27 ?_
    refine j_istore_n C dX3_run_28 (by decide) rfl ?_
    refine j_iinc C 1 (nI (i + 1)) dX3_run_29 rfl (nI_1 _) (by decide) rfl ?_
    refine j_goto C 17 dX3_run_32 (by decide) ?_
    exact ih (i + 1) (x9 + (f_tick u).1) k9 (f_tick u).2 (by omega) hk9 hE hG
def f_run (u : St) (x0 : Int32) : Int32 × St := (if x0 < (0 : Int32) then ((-1 : Int32), u) else (if x0 ≤ (500 : Int32) then (f_run_17 x0 (x0.toNatClampNeg) 0 (0 : Int32) (x0.toNatClampNeg) u) else ((-1 : Int32), u)))
def g_run (u : St) (x0 : Int32) : Prop := ((x0 < (0 : Int32) → True) ∧ (¬ x0 < (0 : Int32) → ((x0 ≤ (500 : Int32) → ((vp_in x0 501) ∧ (g_run_17 x0 (x0.toNatClampNeg) 0 (0 : Int32) (x0.toNatClampNeg) u))) ∧ (¬ x0 ≤ (500 : Int32) → True))))
set_option maxRecDepth 20000 in
set_option maxHeartbeats 1000000 in
theorem w_run_0 {F : Int32 × St} {u : St} (B : jk_BI p l e R s m args below meth c cX3_run 4 RX3 TT .int D clA (tyl z) (cW z a) A Q rm_run F) (x0 : Int32) (hE : f_run u x0 = F) (hG : g_run u x0) : JJ p l e R s m args below meth c 0 0 4 D clA (cW z a) A Q 0 [(0, .ref (a 0)), (1, .int x0)] u [] := by
  have C := B.1
  unfold f_run at hE
  unfold g_run at hG
  refine j_iload_n C 1 dX3_run_0 rfl ?_
  refine j_if_lt C 11 dX3_run_1 (by decide) (fun c1 => ?_) (fun c1 => ?_)
  · have hE := (if_pos c1).symm.trans hE
    refine j_iconst C (-1) dX3_run_11 ic_m1 ?_
    exact B.2.2 _ _ _ _ dX3_run_12 rfl hE
  · have hE := (if_neg c1).symm.trans hE
    have hG := hG.2 c1
    refine j_iload_n C 1 dX3_run_4 rfl ?_
    refine j_sipush C 500 dX3_run_5 sp_500 ?_
    refine j_icmp_le C 13 dX3_run_8 (by decide) (fun c2 => ?_) (fun c2 => ?_)
    · have hE := (if_pos c2).symm.trans hE
      have hG := hG.1 c2
      refine j_iconst C 0 dX3_run_13 ic_0 ?_
      refine j_istore_n C dX3_run_14 (by decide) rfl ?_
      refine j_iconst C 0 dX3_run_15 ic_0 ?_
      refine j_istore_n C dX3_run_16 (by decide) rfl ?_
      obtain ⟨hv3, hG⟩ := hG
      have lhv3 := jk_lt hv3
      refine j_lv [0, 1, 3, 2] rfl ?_
      refine j_lq (congrArg (fun x => ([(3, .int x), (2, .int 0), (1, .int x0), (0, .ref (a 0))] : List (Nat × Value))) ix_0) ?_
      refine j_lq (congrArg (fun x => ([(3, .int (nI 0)), (2, .int 0), (1, .int x), (0, .ref (a 0))] : List (Nat × Value))) (jk_self hv3 (by decide))) ?_
      exact w_run_17 B x0 (x0.toNatClampNeg) 0 (0 : Int32) (x0.toNatClampNeg) u (Nat.zero_add _) (jk_lt hv3) hE hG
    · have hE := (if_neg c2).symm.trans hE
      refine j_iconst C (-1) dX3_run_11 ic_m1 ?_
      exact B.2.2 _ _ _ _ dX3_run_12 rfl hE
theorem c_run (l : Launch) (D : va_G) (z : Nat → ClassId) (a : Nat → Nat) (u : St) (x0 : Int32) (hG : g_run u x0) : CtI l yX3_run (.code yX3_run cX3_run 4 (some .int) :: TT) rm_run D clA (tyl z) (cW z a) [.ref (a 0), .int x0] u (f_run u x0).1 (f_run u x0).2 :=
  jk_metI (own := RX3) (by decide) rfl (Nat.le_of_ble_eq_true rfl) (fun _ _ _ _ _ _ _ _ _ _ _ B => w_run_0 B x0 rfl hG)
def rm_set : Room := { frames := 1, cells := 0, slots := 0, locals := 20 }
def f_set (u : St) (x0 : Int32) (x1 : Int32) (x2 : Int32) : Int32 × St := (if (f_isMovement x0) = (0 : Int32) then ((0 : Int32), u) else (if x1 < (0 : Int32) then ((0 : Int32), u) else (if x1 < (7 : Int32) then (if x2 < (jk_lo (x1.toNatClampNeg)) then ((0 : Int32), u) else (if x2 ≤ (jk_hi (x1.toNatClampNeg)) then ((1 : Int32), (up2 u (20 + (x0.toNatClampNeg)) (x1.toNatClampNeg) x2)) else ((0 : Int32), u))) else ((0 : Int32), u))))
def g_set (u : St) (x0 : Int32) (x1 : Int32) (x2 : Int32) : Prop := (((f_isMovement x0) = (0 : Int32) → True) ∧ (¬ (f_isMovement x0) = (0 : Int32) → ((x1 < (0 : Int32) → True) ∧ (¬ x1 < (0 : Int32) → ((x1 < (7 : Int32) → ((vp_in x1 7) ∧ ((x2 < (jk_lo (x1.toNatClampNeg)) → True) ∧ (¬ x2 < (jk_lo (x1.toNatClampNeg)) → ((x2 ≤ (jk_hi (x1.toNatClampNeg)) → (vp_in x0 8)) ∧ (¬ x2 ≤ (jk_hi (x1.toNatClampNeg)) → True)))))) ∧ (¬ x1 < (7 : Int32) → True))))))
set_option maxRecDepth 20000 in
set_option maxHeartbeats 1000000 in
theorem w_set_0 {F : Int32 × St} {u : St} (B : jk_BI p l e R s m args below meth c cX3_set 4 RX3 TT .int D clA (tyl z) (cW z a) A Q rm_set F) (x0 : Int32) (x1 : Int32) (x2 : Int32) (hE : f_set u x0 x1 x2 = F) (hG : g_set u x0 x1 x2) : JJ p l e R s m args below meth c 0 0 4 D clA (cW z a) A Q 0 [(0, .ref (a 0)), (1, .int x0), (2, .int x1), (3, .int x2)] u [] := by
  have C := B.1
  unfold f_set at hE
  unfold g_set at hG
  refine j_iload_n C 1 dX3_set_0 rfl ?_
  refine j_cIS C B.2.1 (c_isMovement l D z a u x0) gv_3_36 dd_isMovement ⟨⟨rfl, rfl⟩, Nat.le_of_ble_eq_true rfl, Nat.le_of_ble_eq_true rfl⟩ rfl rfl (Nat.le_of_ble_eq_true rfl) dX3_set_1 ?_
  refine j_if_eq C 17 dX3_set_4 (by decide) (fun c1 => ?_) (fun c1 => ?_)
  · have hE := (if_pos c1).symm.trans hE
    refine j_iconst C 0 dX3_set_17 ic_0 ?_
    exact B.2.2 _ _ _ _ dX3_set_18 rfl hE
  · have hE := (if_neg c1).symm.trans hE
    have hG := hG.2 c1
    refine j_iload_n C 2 dX3_set_7 rfl ?_
    refine j_if_lt C 17 dX3_set_8 (by decide) (fun c2 => ?_) (fun c2 => ?_)
    · have hE := (if_pos c2).symm.trans hE
      refine j_iconst C 0 dX3_set_17 ic_0 ?_
      exact B.2.2 _ _ _ _ dX3_set_18 rfl hE
    · have hE := (if_neg c2).symm.trans hE
      have hG := hG.2 c2
      refine j_iload_n C 2 dX3_set_11 rfl ?_
      refine j_bipush C 7 dX3_set_12 bp_7 ?_
      refine j_icmp_lt C 19 dX3_set_14 (by decide) (fun c3 => ?_) (fun c3 => ?_)
      · have hE := (if_pos c3).symm.trans hE
        have hG := hG.1 c3
        refine j_iload_n C 3 dX3_set_19 rfl ?_
        refine j_stat C (f := jk_lo) (fun h => h.2.1) sl_3_40 dX3_set_20 (fun t4 ht4 => ?_)
        refine j_iload_n C 2 dX3_set_23 rfl ?_
        obtain ⟨hv5, hG⟩ := hG
        have lhv5 := jk_lt hv5
        refine j_tald C ht4 (x1.toNatClampNeg) (jk_self hv5 (by decide)) (jk_lt hv5) dX3_set_24 ?_
        refine j_icmp_lt C 37 dX3_set_25 (by decide) (fun c6 => ?_) (fun c6 => ?_)
        · have hE := (if_pos c6).symm.trans hE
          refine j_iconst C 0 dX3_set_37 ic_0 ?_
          exact B.2.2 _ _ _ _ dX3_set_38 rfl hE
        · have hE := (if_neg c6).symm.trans hE
          have hG := hG.2 c6
          refine j_iload_n C 3 dX3_set_28 rfl ?_
          refine j_stat C (f := jk_hi) (fun h => h.2.2) sl_3_43 dX3_set_29 (fun t7 ht7 => ?_)
          refine j_iload_n C 2 dX3_set_32 rfl ?_
          refine j_tald C ht7 (x1.toNatClampNeg) (jk_self hv5 (by decide)) (jk_lt hv5) dX3_set_33 ?_
          refine j_icmp_le C 39 dX3_set_34 (by decide) (fun c8 => ?_) (fun c8 => ?_)
          · have hE := (if_pos c8).symm.trans hE
            have hG := hG.1 c8
            refine j_aload_n C 0 dX3_set_39 rfl ?_
            refine j_get C kf_3 0 pl_desk 0 (by decide) lk_3_11 rfl dX3_set_40 ?_
            refine j_iload_n C 1 dX3_set_43 rfl ?_
            have hv9 := hG
            have lhv9 := jk_lt hv9
            refine j_aald C 1 2 pl_mvs rfl (x0.toNatClampNeg) (jk_self hv9 (by decide)) (jk_lt hv9) (by decide) rfl dX3_set_44 ?_
            refine j_get C kf_1 (7 + (x0.toNatClampNeg)) (pl_mv (jk_lt hv9)) 0 (by decide) lk_3_46 rfl dX3_set_45 ?_
            refine j_iload_n C 2 dX3_set_48 rfl ?_
            refine j_iload_n C 3 dX3_set_49 rfl ?_
            refine j_iast C (15 + (x0.toNatClampNeg)) 0 (pl_times (jk_lt hv9)) rfl (x1.toNatClampNeg) (jk_self hv5 (by decide)) (jk_lt hv5) (by decide) (pu_times (jk_lt hv9)) dX3_set_50 ?_
            refine j_iconst C 1 dX3_set_51 ic_1 ?_
            exact B.2.2 _ _ _ _ dX3_set_52 rfl hE
          · have hE := (if_neg c8).symm.trans hE
            refine j_iconst C 0 dX3_set_37 ic_0 ?_
            exact B.2.2 _ _ _ _ dX3_set_38 rfl hE
      · have hE := (if_neg c3).symm.trans hE
        refine j_iconst C 0 dX3_set_17 ic_0 ?_
        exact B.2.2 _ _ _ _ dX3_set_18 rfl hE
theorem c_set (l : Launch) (D : va_G) (z : Nat → ClassId) (a : Nat → Nat) (u : St) (x0 : Int32) (x1 : Int32) (x2 : Int32) (hG : g_set u x0 x1 x2) : CtI l yX3_set (.code yX3_set cX3_set 4 (some .int) :: TT) rm_set D clA (tyl z) (cW z a) [.ref (a 0), .int x0, .int x1, .int x2] u (f_set u x0 x1 x2).1 (f_set u x0 x1 x2).2 :=
  jk_metI (own := RX3) (by decide) rfl (Nat.le_of_ble_eq_true rfl) (fun _ _ _ _ _ _ _ _ _ _ _ B => w_set_0 B x0 x1 x2 rfl hG)
def rm_mode : Room := { frames := 1, cells := 0, slots := 0, locals := 20 }
def f_mode (u : St) (x0 : Int32) (x1 : Int32) : Int32 × St := (if (f_isMovement x0) = (0 : Int32) then ((0 : Int32), u) else (if x1 < (0 : Int32) then ((0 : Int32), u) else (if x1 ≤ (63 : Int32) then ((1 : Int32), (up2 u 10 (x0.toNatClampNeg) x1)) else ((0 : Int32), u))))
def g_mode (u : St) (x0 : Int32) (x1 : Int32) : Prop := (((f_isMovement x0) = (0 : Int32) → True) ∧ (¬ (f_isMovement x0) = (0 : Int32) → ((x1 < (0 : Int32) → True) ∧ (¬ x1 < (0 : Int32) → ((x1 ≤ (63 : Int32) → (vp_in x0 8)) ∧ (¬ x1 ≤ (63 : Int32) → True))))))
set_option maxRecDepth 20000 in
set_option maxHeartbeats 1000000 in
theorem w_mode_0 {F : Int32 × St} {u : St} (B : jk_BI p l e R s m args below meth c cX3_mode 3 RX3 TT .int D clA (tyl z) (cW z a) A Q rm_mode F) (x0 : Int32) (x1 : Int32) (hE : f_mode u x0 x1 = F) (hG : g_mode u x0 x1) : JJ p l e R s m args below meth c 0 0 3 D clA (cW z a) A Q 0 [(0, .ref (a 0)), (1, .int x0), (2, .int x1)] u [] := by
  have C := B.1
  unfold f_mode at hE
  unfold g_mode at hG
  refine j_iload_n C 1 dX3_mode_0 rfl ?_
  refine j_cIS C B.2.1 (c_isMovement l D z a u x0) gv_3_36 dd_isMovement ⟨⟨rfl, rfl⟩, Nat.le_of_ble_eq_true rfl, Nat.le_of_ble_eq_true rfl⟩ rfl rfl (Nat.le_of_ble_eq_true rfl) dX3_mode_1 ?_
  refine j_if_eq C 17 dX3_mode_4 (by decide) (fun c1 => ?_) (fun c1 => ?_)
  · have hE := (if_pos c1).symm.trans hE
    refine j_iconst C 0 dX3_mode_17 ic_0 ?_
    exact B.2.2 _ _ _ _ dX3_mode_18 rfl hE
  · have hE := (if_neg c1).symm.trans hE
    have hG := hG.2 c1
    refine j_iload_n C 2 dX3_mode_7 rfl ?_
    refine j_if_lt C 17 dX3_mode_8 (by decide) (fun c2 => ?_) (fun c2 => ?_)
    · have hE := (if_pos c2).symm.trans hE
      refine j_iconst C 0 dX3_mode_17 ic_0 ?_
      exact B.2.2 _ _ _ _ dX3_mode_18 rfl hE
    · have hE := (if_neg c2).symm.trans hE
      have hG := hG.2 c2
      refine j_iload_n C 2 dX3_mode_11 rfl ?_
      refine j_bipush C 63 dX3_mode_12 bp_63 ?_
      refine j_icmp_le C 19 dX3_mode_14 (by decide) (fun c3 => ?_) (fun c3 => ?_)
      · have hE := (if_pos c3).symm.trans hE
        have hG := hG.1 c3
        refine j_aload_n C 0 dX3_mode_19 rfl ?_
        refine j_get C kf_3 0 pl_desk 0 (by decide) lk_3_11 rfl dX3_mode_20 ?_
        refine j_iload_n C 1 dX3_mode_23 rfl ?_
        have hv4 := hG
        have lhv4 := jk_lt hv4
        refine j_aald C 1 2 pl_mvs rfl (x0.toNatClampNeg) (jk_self hv4 (by decide)) (jk_lt hv4) (by decide) rfl dX3_mode_24 ?_
        refine j_iload_n C 2 dX3_mode_25 rfl ?_
        refine j_put C kf_1 (7 + (x0.toNatClampNeg)) (pl_mv (jk_lt hv4)) 1 (by decide) lk_3_49 rfl rfl rfl (Nat.le_of_ble_eq_true rfl) (pu_mv_modes (jk_lt hv4)) dX3_mode_26 ?_
        refine j_iconst C 1 dX3_mode_29 ic_1 ?_
        exact B.2.2 _ _ _ _ dX3_mode_30 rfl hE
      · have hE := (if_neg c3).symm.trans hE
        refine j_iconst C 0 dX3_mode_17 ic_0 ?_
        exact B.2.2 _ _ _ _ dX3_mode_18 rfl hE
theorem c_mode (l : Launch) (D : va_G) (z : Nat → ClassId) (a : Nat → Nat) (u : St) (x0 : Int32) (x1 : Int32) (hG : g_mode u x0 x1) : CtI l yX3_mode (.code yX3_mode cX3_mode 3 (some .int) :: TT) rm_mode D clA (tyl z) (cW z a) [.ref (a 0), .int x0, .int x1] u (f_mode u x0 x1).1 (f_mode u x0 x1).2 :=
  jk_metI (own := RX3) (by decide) rfl (Nat.le_of_ble_eq_true rfl) (fun _ _ _ _ _ _ _ _ _ _ _ B => w_mode_0 B x0 x1 rfl hG)
def rm_exchange : Room := { frames := 1, cells := 0, slots := 0, locals := 21 }
def f_exchange (u : St) (x0 : Int32) (x1 : Int32) : Int32 × St := (if (f_isRing x0) = (0 : Int32) then ((0 : Int32), u) else (if x1 < (0 : Int32) then ((0 : Int32), u) else (if x1 < (2 : Int32) then (if (f_R_isBusyWith u (x0.toNatClampNeg) (f_R_first u (x0.toNatClampNeg) x1)) = (0 : Int32) then (if (f_R_isBusyWith u (x0.toNatClampNeg) (f_R_second u (x0.toNatClampNeg) x1)) = (0 : Int32) then (if (u (40 + (x0.toNatClampNeg)) (x1.toNatClampNeg)) = (0 : Int32) then ((1 : Int32), (up2 u (40 + (x0.toNatClampNeg)) (x1.toNatClampNeg) (1 : Int32))) else ((1 : Int32), (up2 u (40 + (x0.toNatClampNeg)) (x1.toNatClampNeg) (0 : Int32)))) else ((0 : Int32), u)) else ((0 : Int32), u)) else ((0 : Int32), u))))
def g_exchange (u : St) (x0 : Int32) (x1 : Int32) : Prop := (((f_isRing x0) = (0 : Int32) → True) ∧ (¬ (f_isRing x0) = (0 : Int32) → ((x1 < (0 : Int32) → True) ∧ (¬ x1 < (0 : Int32) → ((x1 < (2 : Int32) → ((vp_in x0 2) ∧ ((g_R_first u (x0.toNatClampNeg) x1) ∧ (((f_R_isBusyWith u (x0.toNatClampNeg) (f_R_first u (x0.toNatClampNeg) x1)) = (0 : Int32) → ((g_R_second u (x0.toNatClampNeg) x1) ∧ (((f_R_isBusyWith u (x0.toNatClampNeg) (f_R_second u (x0.toNatClampNeg) x1)) = (0 : Int32) → (vp_in x1 2)) ∧ (¬ (f_R_isBusyWith u (x0.toNatClampNeg) (f_R_second u (x0.toNatClampNeg) x1)) = (0 : Int32) → True)))) ∧ (¬ (f_R_isBusyWith u (x0.toNatClampNeg) (f_R_first u (x0.toNatClampNeg) x1)) = (0 : Int32) → True))))) ∧ (¬ x1 < (2 : Int32) → True))))))
set_option maxRecDepth 20000 in
set_option maxHeartbeats 1000000 in
theorem w_exchange_0 {F : Int32 × St} {u : St} (B : jk_BI p l e R s m args below meth c cX3_exchange 4 RX3 TT .int D clA (tyl z) (cW z a) A Q rm_exchange F) (x0 : Int32) (x1 : Int32) (hE : f_exchange u x0 x1 = F) (hG : g_exchange u x0 x1) : JJ p l e R s m args below meth c 0 0 4 D clA (cW z a) A Q 0 [(0, .ref (a 0)), (1, .int x0), (2, .int x1)] u [] := by
  have C := B.1
  unfold f_exchange at hE
  unfold g_exchange at hG
  refine j_iload_n C 1 dX3_exchange_0 rfl ?_
  refine j_cIS C B.2.1 (c_isRing l D z a u x0) gv_3_53 dd_isRing ⟨⟨rfl, rfl⟩, Nat.le_of_ble_eq_true rfl, Nat.le_of_ble_eq_true rfl⟩ rfl rfl (Nat.le_of_ble_eq_true rfl) dX3_exchange_1 ?_
  refine j_if_eq C 16 dX3_exchange_4 (by decide) (fun c1 => ?_) (fun c1 => ?_)
  · have hE := (if_pos c1).symm.trans hE
    refine j_iconst C 0 dX3_exchange_16 ic_0 ?_
    exact B.2.2 _ _ _ _ dX3_exchange_17 rfl hE
  · have hE := (if_neg c1).symm.trans hE
    have hG := hG.2 c1
    refine j_iload_n C 2 dX3_exchange_7 rfl ?_
    refine j_if_lt C 16 dX3_exchange_8 (by decide) (fun c2 => ?_) (fun c2 => ?_)
    · have hE := (if_pos c2).symm.trans hE
      refine j_iconst C 0 dX3_exchange_16 ic_0 ?_
      exact B.2.2 _ _ _ _ dX3_exchange_17 rfl hE
    · have hE := (if_neg c2).symm.trans hE
      have hG := hG.2 c2
      refine j_iload_n C 2 dX3_exchange_11 rfl ?_
      refine j_iconst C 2 dX3_exchange_12 ic_2 ?_
      refine j_icmp_lt C 18 dX3_exchange_13 (by decide) (fun c3 => ?_) (fun c3 => ?_)
      · have hE := (if_pos c3).symm.trans hE
        have hG := hG.1 c3
        refine j_aload_n C 0 dX3_exchange_18 rfl ?_
        refine j_get C kf_3 0 pl_desk 1 (by decide) lk_3_18 rfl dX3_exchange_19 ?_
        refine j_iload_n C 1 dX3_exchange_22 rfl ?_
        obtain ⟨hv4, hG⟩ := hG
        have lhv4 := jk_lt hv4
        refine j_aald C 2 3 pl_rgs rfl (x0.toNatClampNeg) (jk_self hv4 (by decide)) (jk_lt hv4) (by decide) rfl dX3_exchange_23 ?_
        refine j_astore_n C dX3_exchange_24 (by decide) rfl ?_
        refine j_aload_n C 0 dX3_exchange_25 rfl ?_
        refine j_aload_n C 0 dX3_exchange_26 rfl ?_
        refine j_iload_n C 3 dX3_exchange_27 rfl ?_
        obtain ⟨hg5, hG⟩ := hG
        refine j_cIV C B.2.1 (c_R_first l D z a u (x0.toNatClampNeg) x1 (jk_lt hv4) hg5) gv_3_56 dd_R_first ⟨⟨rfl, rfl⟩, Nat.le_of_ble_eq_true rfl, Nat.le_of_ble_eq_true rfl⟩ (23 + (x0.toNatClampNeg)) 2 (pl_rg (jk_lt hv4)) rfl rfl rfl rfl (Nat.le_of_ble_eq_true rfl) dX3_exchange_28 ?_
        refine j_cIV C B.2.1 (c_R_isBusyWith l D z a u (x0.toNatClampNeg) (f_R_first u (x0.toNatClampNeg) x1) (jk_lt hv4)) gv_3_60 dd_R_isBusyWith ⟨⟨rfl, rfl⟩, Nat.le_of_ble_eq_true rfl, Nat.le_of_ble_eq_true rfl⟩ (23 + (x0.toNatClampNeg)) 2 (pl_rg (jk_lt hv4)) rfl rfl rfl rfl (Nat.le_of_ble_eq_true rfl) dX3_exchange_31 ?_
        refine j_if_ne C 49 dX3_exchange_34 (by decide) (fun c6 => ?_) (fun c6 => ?_)
        · have hE := (if_neg c6).symm.trans hE
          refine j_iconst C 0 dX3_exchange_49 ic_0 ?_
          exact B.2.2 _ _ _ _ dX3_exchange_50 rfl hE
        · have hE := (if_pos c6).symm.trans hE
          have hG := hG.1 c6
          refine j_aload_n C 0 dX3_exchange_37 rfl ?_
          refine j_aload_n C 0 dX3_exchange_38 rfl ?_
          refine j_iload_n C 3 dX3_exchange_39 rfl ?_
          obtain ⟨hg7, hG⟩ := hG
          refine j_cIV C B.2.1 (c_R_second l D z a u (x0.toNatClampNeg) x1 (jk_lt hv4) hg7) gv_3_63 dd_R_second ⟨⟨rfl, rfl⟩, Nat.le_of_ble_eq_true rfl, Nat.le_of_ble_eq_true rfl⟩ (23 + (x0.toNatClampNeg)) 2 (pl_rg (jk_lt hv4)) rfl rfl rfl rfl (Nat.le_of_ble_eq_true rfl) dX3_exchange_40 ?_
          refine j_cIV C B.2.1 (c_R_isBusyWith l D z a u (x0.toNatClampNeg) (f_R_second u (x0.toNatClampNeg) x1) (jk_lt hv4)) gv_3_60 dd_R_isBusyWith ⟨⟨rfl, rfl⟩, Nat.le_of_ble_eq_true rfl, Nat.le_of_ble_eq_true rfl⟩ (23 + (x0.toNatClampNeg)) 2 (pl_rg (jk_lt hv4)) rfl rfl rfl rfl (Nat.le_of_ble_eq_true rfl) dX3_exchange_43 ?_
          refine j_if_eq C 51 dX3_exchange_46 (by decide) (fun c8 => ?_) (fun c8 => ?_)
          · have hE := (if_pos c8).symm.trans hE
            have hG := hG.1 c8
            refine j_aload_n C 0 dX3_exchange_51 rfl ?_
            refine j_get C kf_2 (23 + (x0.toNatClampNeg)) (pl_rg (jk_lt hv4)) 1 (by decide) lk_3_66 rfl dX3_exchange_52 ?_
            refine j_iload_n C 3 dX3_exchange_55 rfl ?_
            refine j_aload_n C 0 dX3_exchange_56 rfl ?_
            refine j_get C kf_2 (23 + (x0.toNatClampNeg)) (pl_rg (jk_lt hv4)) 1 (by decide) lk_3_66 rfl dX3_exchange_57 ?_
            refine j_iload_n C 3 dX3_exchange_60 rfl ?_
            have hv9 := hG
            have lhv9 := jk_lt hv9
            refine j_zald C (25 + (x0.toNatClampNeg)) 1 (pl_ex (jk_lt hv4)) rfl (x1.toNatClampNeg) (jk_self hv9 (by decide)) (jk_lt hv9) (by decide) dX3_exchange_61 ?_
            refine j_if_ne C 69 dX3_exchange_62 (by decide) (fun c10 => ?_) (fun c10 => ?_)
            · have hE := (if_neg c10).symm.trans hE
              refine j_iconst C 0 dX3_exchange_69 ic_0 ?_
              refine j_zast C (25 + (x0.toNatClampNeg)) 1 (pl_ex (jk_lt hv4)) rfl (x1.toNatClampNeg) (jk_self hv9 (by decide)) (jk_lt hv9) (by decide) rfl (pu_ex (jk_lt hv4)) dX3_exchange_70 ?_
              refine j_iconst C 1 dX3_exchange_71 ic_1 ?_
              exact B.2.2 _ _ _ _ dX3_exchange_72 rfl hE
            · have hE := (if_pos c10).symm.trans hE
              refine j_iconst C 1 dX3_exchange_65 ic_1 ?_
              refine j_goto C 70 dX3_exchange_66 (by decide) ?_
              refine j_zast C (25 + (x0.toNatClampNeg)) 1 (pl_ex (jk_lt hv4)) rfl (x1.toNatClampNeg) (jk_self hv9 (by decide)) (jk_lt hv9) (by decide) rfl (pu_ex (jk_lt hv4)) dX3_exchange_70 ?_
              refine j_iconst C 1 dX3_exchange_71 ic_1 ?_
              exact B.2.2 _ _ _ _ dX3_exchange_72 rfl hE
          · have hE := (if_neg c8).symm.trans hE
            refine j_iconst C 0 dX3_exchange_49 ic_0 ?_
            exact B.2.2 _ _ _ _ dX3_exchange_50 rfl hE
      · have hE := (if_neg c3).symm.trans hE
        refine j_iconst C 0 dX3_exchange_16 ic_0 ?_
        exact B.2.2 _ _ _ _ dX3_exchange_17 rfl hE
theorem c_exchange (l : Launch) (D : va_G) (z : Nat → ClassId) (a : Nat → Nat) (u : St) (x0 : Int32) (x1 : Int32) (hG : g_exchange u x0 x1) : CtI l yX3_exchange (.code yX3_exchange cX3_exchange 4 (some .int) :: TT) rm_exchange D clA (tyl z) (cW z a) [.ref (a 0), .int x0, .int x1] u (f_exchange u x0 x1).1 (f_exchange u x0 x1).2 :=
  jk_metI (own := RX3) (by decide) rfl (Nat.le_of_ble_eq_true rfl) (fun _ _ _ _ _ _ _ _ _ _ _ B => w_exchange_0 B x0 x1 rfl hG)
end WLK

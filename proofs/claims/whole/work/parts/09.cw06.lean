section WLK
variable {p : Program} {l : Launch} {e : Env} {R : Room} {s : State} {m : MethodId} {args : Array Value} {below : List Frame} {meth : Method} {c : Code} {D : va_G} {z : Nat → ClassId} {a : Nat → Nat} {A : Nat → Prop} {Q : State → Prop}
def rm_beginCrossing : Room := { frames := 2, cells := 0, slots := 0, locals := 42 }
def f_beginCrossing_17  : Nat → Nat → St → St
  | 0, i, u => u
  | n + 1, i, u => (if (u 31 i) = (1 : Int32) then (f_beginCrossing_17 n (i + 1) (f_R_endGreen u i (-1 : Int32))) else (f_beginCrossing_17 n (i + 1) u))
set_option maxRecDepth 20000 in
set_option maxHeartbeats 1000000 in
theorem w_beginCrossing_17 {F : St} (B : jk_BV p l e R s m args below meth c cX3_beginCrossing 2 RX3 TT D clA (tyl z) (cW z a) A Q rm_beginCrossing F)  : ∀ (n i : Nat) (u : St), i + n = 2 → f_beginCrossing_17 n i u = F → JJ p l e R s m args below meth c 0 0 2 D clA (cW z a) A Q 17 [(1, .int (nI i)), (0, .ref (a 0))] u [] := by
  have C := B.1
  intro n
  induction n with
  | zero =>
    intro i u hin hE
    obtain rfl : i = 2 := by omega
    have hge : (2 : Int32) ≤ nI 2 := by decide
    refine j_iload_n C 0 dX3_beginCrossing_17 rfl ?_
    refine j_iconst C 2 dX3_beginCrossing_18 ic_2 ?_
    refine j_icmp_ge C 51 dX3_beginCrossing_19 (by decide) (fun _ => ?_) (fun hq => absurd hge hq)
    exact B.2.2 _ _ _ dX3_beginCrossing_51 hE
  | succ n ih =>
    intro i u hin hE
    have hlt : i < 2 := by omega
    have hnge : ¬ (2 : Int32) ≤ nI i := lt2 i hlt
    refine j_iload_n C 0 dX3_beginCrossing_17 rfl ?_
    refine j_iconst C 2 dX3_beginCrossing_18 ic_2 ?_
    refine j_icmp_ge C 51 dX3_beginCrossing_19 (by decide) (fun hq => absurd hq hnge) (fun _ => ?_)
    refine j_aload_n C 1 dX3_beginCrossing_22 rfl ?_
    refine j_get C kf_3 0 pl_desk 1 (by decide) lk_3_18 rfl dX3_beginCrossing_23 ?_
    refine j_iload_n C 0 dX3_beginCrossing_26 rfl ?_
    refine j_aald C 2 3 pl_rgs rfl i rfl hlt (by decide) rfl dX3_beginCrossing_27 ?_
    refine j_get C kf_2 (23 + i) (pl_rg hlt) 3 (by decide) lk_3_140 rfl dX3_beginCrossing_28 ?_
    refine j_iconst C 1 dX3_beginCrossing_31 ic_1 ?_
    refine j_icmp_ne C 45 dX3_beginCrossing_32 (by decide) (fun c1 => ?_) (fun c1 => ?_)
    · have hE := (if_neg c1).symm.trans hE
      refine j_iinc C 0 (nI (i + 1)) dX3_beginCrossing_45 rfl (nI_1 _) (by decide) rfl ?_
      refine j_goto C 17 dX3_beginCrossing_48 (by decide) ?_
      exact ih (i + 1) u (by omega) hE
    · have hE := (if_pos c1).symm.trans hE
      refine j_aload_n C 1 dX3_beginCrossing_35 rfl ?_
      refine j_get C kf_3 0 pl_desk 1 (by decide) lk_3_18 rfl dX3_beginCrossing_36 ?_
      refine j_iload_n C 0 dX3_beginCrossing_39 rfl ?_
      refine j_aald C 2 3 pl_rgs rfl i rfl hlt (by decide) rfl dX3_beginCrossing_40 ?_
      refine j_iconst C (-1) dX3_beginCrossing_41 ic_m1 ?_
      refine j_cVV C B.2.1 (c_R_endGreen l D z a u i (-1 : Int32) hlt) gv_3_209 dd_R_endGreen ⟨⟨rfl, rfl⟩, Nat.le_of_ble_eq_true rfl, Nat.le_of_ble_eq_true rfl⟩ (23 + i) 2 (pl_rg hlt) rfl rfl rfl rfl (Nat.le_of_ble_eq_true rfl) dX3_beginCrossing_42 ?_
      refine j_iinc C 0 (nI (i + 1)) dX3_beginCrossing_45 rfl (nI_1 _) (by decide) rfl ?_
      refine j_goto C 17 dX3_beginCrossing_48 (by decide) ?_
      exact ih (i + 1) (f_R_endGreen u i (-1 : Int32)) (by omega) hE
def f_beginCrossing (u : St)  : St := (f_beginCrossing_17 2 0 (up2 (up2 u 0 2 (1 : Int32)) 0 3 (((up2 u 0 2 (1 : Int32)) 0 3) + (1 : Int32))))
set_option maxRecDepth 20000 in
set_option maxHeartbeats 1000000 in
theorem w_beginCrossing_0 {F : St} {u : St} (B : jk_BV p l e R s m args below meth c cX3_beginCrossing 2 RX3 TT D clA (tyl z) (cW z a) A Q rm_beginCrossing F)  (hE : f_beginCrossing u = F) : JJ p l e R s m args below meth c 0 0 2 D clA (cW z a) A Q 0 [(0, .ref (a 0))] u [] := by
  have C := B.1
  unfold f_beginCrossing at hE
  refine j_aload_n C 0 dX3_beginCrossing_0 rfl ?_
  refine j_iconst C 1 dX3_beginCrossing_1 ic_1 ?_
  refine j_put C kf_3 0 pl_desk 6 (by decide) lk_3_103 rfl rfl rfl (Nat.le_of_ble_eq_true rfl) pu_desk_crossing dX3_beginCrossing_2 ?_
  refine j_aload_n C 0 dX3_beginCrossing_5 rfl ?_
  refine j_dup C dX3_beginCrossing_6 rfl ?_
  refine j_get C kf_3 0 pl_desk 7 (by decide) lk_3_162 rfl dX3_beginCrossing_7 ?_
  refine j_iconst C 1 dX3_beginCrossing_10 ic_1 ?_
  refine j_iadd C dX3_beginCrossing_11 ?_
  refine j_put C kf_3 0 pl_desk 7 (by decide) lk_3_162 rfl rfl rfl (Nat.le_of_ble_eq_true rfl) pu_desk_crossings dX3_beginCrossing_12 ?_
  refine j_iconst C 0 dX3_beginCrossing_15 ic_0 ?_
  refine j_istore_n C dX3_beginCrossing_16 (by decide) rfl ?_
  refine j_lq (congrArg (fun x => ([(1, .int x), (0, .ref (a 0))] : List (Nat × Value))) ix_0) ?_
  exact w_beginCrossing_17 B 2 0 (up2 (up2 u 0 2 (1 : Int32)) 0 3 (((up2 u 0 2 (1 : Int32)) 0 3) + (1 : Int32))) (by omega) hE
theorem c_beginCrossing (l : Launch) (D : va_G) (z : Nat → ClassId) (a : Nat → Nat) (u : St)  : CtV l yX3_beginCrossing (.code yX3_beginCrossing cX3_beginCrossing 2 none :: TT) rm_beginCrossing D clA (tyl z) (cW z a) [.ref (a 0)] u (f_beginCrossing u) :=
  jk_metV (own := RX3) (by decide) rfl (Nat.le_of_ble_eq_true rfl) (fun _ _ _ _ _ _ _ _ _ _ _ B => w_beginCrossing_0 B rfl)
def rm_leaveSideOrTurnBack : Room := { frames := 4, cells := 0, slots := 0, locals := 85 }
def f_leaveSideOrTurnBack_23  : Nat → Nat → St → St
  | 0, i, u => u
  | n + 1, i, u => (f_leaveSideOrTurnBack_23 n (i + 1) (f_turnBackToFirst u i))
def g_leaveSideOrTurnBack_23  : Nat → Nat → St → Prop
  | 0, i, u => True
  | n + 1, i, u => ((g_turnBackToFirst u i) ∧ (g_leaveSideOrTurnBack_23 n (i + 1) (f_turnBackToFirst u i)))
set_option maxRecDepth 20000 in
set_option maxHeartbeats 1000000 in
theorem w_leaveSideOrTurnBack_23 {F : St} (B : jk_BV p l e R s m args below meth c cX3_leaveSideOrTurnBack 2 RX3 TT D clA (tyl z) (cW z a) A Q rm_leaveSideOrTurnBack F)  : ∀ (n i : Nat) (u : St), i + n = 2 → f_leaveSideOrTurnBack_23 n i u = F → g_leaveSideOrTurnBack_23 n i u → JJ p l e R s m args below meth c 0 0 2 D clA (cW z a) A Q 23 [(1, .int (nI i)), (0, .ref (a 0))] u [] := by
  have C := B.1
  intro n
  induction n with
  | zero =>
    intro i u hin hE hG
    obtain rfl : i = 2 := by omega
    have hge : (2 : Int32) ≤ nI 2 := by decide
    refine j_iload_n C 0 dX3_leaveSideOrTurnBack_23 rfl ?_
    refine j_iconst C 2 dX3_leaveSideOrTurnBack_24 ic_2 ?_
    refine j_icmp_ge C 44 dX3_leaveSideOrTurnBack_25 (by decide) (fun _ => ?_) (fun hq => absurd hge hq)
    refine j_goto C 77 dX3_leaveSideOrTurnBack_44 (by decide) ?_
    exact B.2.2 _ _ _ dX3_leaveSideOrTurnBack_77 hE
  | succ n ih =>
    intro i u hin hE hG
    have hlt : i < 2 := by omega
    have hnge : ¬ (2 : Int32) ≤ nI i := lt2 i hlt
    refine j_iload_n C 0 dX3_leaveSideOrTurnBack_23 rfl ?_
    refine j_iconst C 2 dX3_leaveSideOrTurnBack_24 ic_2 ?_
    refine j_icmp_ge C 44 dX3_leaveSideOrTurnBack_25 (by decide) (fun hq => absurd hq hnge) (fun _ => ?_)
    refine j_aload_n C 1 dX3_leaveSideOrTurnBack_28 rfl ?_
    refine j_aload_n C 1 dX3_leaveSideOrTurnBack_29 rfl ?_
    refine j_get C kf_3 0 pl_desk 1 (by decide) lk_3_18 rfl dX3_leaveSideOrTurnBack_30 ?_
    refine j_iload_n C 0 dX3_leaveSideOrTurnBack_33 rfl ?_
    refine j_aald C 2 3 pl_rgs rfl i rfl hlt (by decide) rfl dX3_leaveSideOrTurnBack_34 ?_
    obtain ⟨hg1, hG⟩ := hG
    refine j_cVV C B.2.1 (c_turnBackToFirst l D z a u i hlt hg1) gv_3_219 dd_turnBackToFirst ⟨⟨rfl, rfl⟩, Nat.le_of_ble_eq_true rfl, Nat.le_of_ble_eq_true rfl⟩ 0 3 pl_desk rfl rfl rfl rfl (Nat.le_of_ble_eq_true rfl) dX3_leaveSideOrTurnBack_35 ?_
    refine j_iinc C 0 (nI (i + 1)) dX3_leaveSideOrTurnBack_38 rfl (nI_1 _) (by decide) rfl ?_
    refine j_goto C 23 dX3_leaveSideOrTurnBack_41 (by decide) ?_
    exact ih (i + 1) (f_turnBackToFirst u i) (by omega) hE hG
def f_leaveSideOrTurnBack (u : St)  : St := (if (u 0 2) = (0 : Int32) then (if (f_isAnyCalledOn u ((1 : Int32) - (u 0 1))) = (0 : Int32) then (f_leaveSideOrTurnBack_23 2 0 u) else (if (f_isReady u 0) = (0 : Int32) then u else (if (f_isReady u 1) = (0 : Int32) then u else (f_beginCrossing u)))) else u)
def g_leaveSideOrTurnBack (u : St)  : Prop := (((u 0 2) = (0 : Int32) → (((f_isAnyCalledOn u ((1 : Int32) - (u 0 1))) = (0 : Int32) → (g_leaveSideOrTurnBack_23 2 0 u)) ∧ (¬ (f_isAnyCalledOn u ((1 : Int32) - (u 0 1))) = (0 : Int32) → ((g_isReady u 0) ∧ (((f_isReady u 0) = (0 : Int32) → True) ∧ (¬ (f_isReady u 0) = (0 : Int32) → (g_isReady u 1))))))) ∧ (¬ (u 0 2) = (0 : Int32) → True))
set_option maxRecDepth 20000 in
set_option maxHeartbeats 1000000 in
theorem w_leaveSideOrTurnBack_0 {F : St} {u : St} (B : jk_BV p l e R s m args below meth c cX3_leaveSideOrTurnBack 2 RX3 TT D clA (tyl z) (cW z a) A Q rm_leaveSideOrTurnBack F)  (hE : f_leaveSideOrTurnBack u = F) (hG : g_leaveSideOrTurnBack u) : JJ p l e R s m args below meth c 0 0 2 D clA (cW z a) A Q 0 [(0, .ref (a 0))] u [] := by
  have C := B.1
  unfold f_leaveSideOrTurnBack at hE
  unfold g_leaveSideOrTurnBack at hG
  refine j_aload_n C 0 dX3_leaveSideOrTurnBack_0 rfl ?_
  refine j_get C kf_3 0 pl_desk 6 (by decide) lk_3_103 rfl dX3_leaveSideOrTurnBack_1 ?_
  refine j_if_eq C 8 dX3_leaveSideOrTurnBack_4 (by decide) (fun c1 => ?_) (fun c1 => ?_)
  · have hE := (if_pos c1).symm.trans hE
    have hG := hG.1 c1
    refine j_aload_n C 0 dX3_leaveSideOrTurnBack_8 rfl ?_
    refine j_iconst C 1 dX3_leaveSideOrTurnBack_9 ic_1 ?_
    refine j_aload_n C 0 dX3_leaveSideOrTurnBack_10 rfl ?_
    refine j_get C kf_3 0 pl_desk 5 (by decide) lk_3_106 rfl dX3_leaveSideOrTurnBack_11 ?_
    refine j_isub C dX3_leaveSideOrTurnBack_14 ?_
    refine j_cIV C B.2.1 (c_isAnyCalledOn l D z a u ((1 : Int32) - (u 0 1))) gv_3_198 dd_isAnyCalledOn ⟨⟨rfl, rfl⟩, Nat.le_of_ble_eq_true rfl, Nat.le_of_ble_eq_true rfl⟩ 0 3 pl_desk rfl rfl rfl rfl (Nat.le_of_ble_eq_true rfl) dX3_leaveSideOrTurnBack_15 ?_
    refine j_if_ne C 47 dX3_leaveSideOrTurnBack_18 (by decide) (fun c2 => ?_) (fun c2 => ?_)
    · have hE := (if_neg c2).symm.trans hE
      have hG := hG.2 c2
      refine j_aload_n C 0 dX3_leaveSideOrTurnBack_47 rfl ?_
      refine j_aload_n C 0 dX3_leaveSideOrTurnBack_48 rfl ?_
      refine j_get C kf_3 0 pl_desk 1 (by decide) lk_3_18 rfl dX3_leaveSideOrTurnBack_49 ?_
      refine j_iconst C 0 dX3_leaveSideOrTurnBack_52 ic_0 ?_
      refine j_aald C 2 3 pl_rgs rfl 0 ix_0 (by decide) (by decide) rfl dX3_leaveSideOrTurnBack_53 ?_
      obtain ⟨hg3, hG⟩ := hG
      refine j_cIV C B.2.1 (c_isReady l D z a u 0 (by decide) hg3) gv_3_222 dd_isReady ⟨⟨rfl, rfl⟩, Nat.le_of_ble_eq_true rfl, Nat.le_of_ble_eq_true rfl⟩ 0 3 pl_desk rfl rfl rfl rfl (Nat.le_of_ble_eq_true rfl) dX3_leaveSideOrTurnBack_54 ?_
      refine j_if_eq C 77 dX3_leaveSideOrTurnBack_57 (by decide) (fun c4 => ?_) (fun c4 => ?_)
      · have hE := (if_pos c4).symm.trans hE
        exact B.2.2 _ _ _ dX3_leaveSideOrTurnBack_77 hE
      · have hE := (if_neg c4).symm.trans hE
        have hG := hG.2 c4
        refine j_aload_n C 0 dX3_leaveSideOrTurnBack_60 rfl ?_
        refine j_aload_n C 0 dX3_leaveSideOrTurnBack_61 rfl ?_
        refine j_get C kf_3 0 pl_desk 1 (by decide) lk_3_18 rfl dX3_leaveSideOrTurnBack_62 ?_
        refine j_iconst C 1 dX3_leaveSideOrTurnBack_65 ic_1 ?_
        refine j_aald C 2 3 pl_rgs rfl 1 ix_1 (by decide) (by decide) rfl dX3_leaveSideOrTurnBack_66 ?_
        have hg5 := hG
        refine j_cIV C B.2.1 (c_isReady l D z a u 1 (by decide) hg5) gv_3_222 dd_isReady ⟨⟨rfl, rfl⟩, Nat.le_of_ble_eq_true rfl, Nat.le_of_ble_eq_true rfl⟩ 0 3 pl_desk rfl rfl rfl rfl (Nat.le_of_ble_eq_true rfl) dX3_leaveSideOrTurnBack_67 ?_
        refine j_if_eq C 77 dX3_leaveSideOrTurnBack_70 (by decide) (fun c6 => ?_) (fun c6 => ?_)
        · have hE := (if_pos c6).symm.trans hE
          exact B.2.2 _ _ _ dX3_leaveSideOrTurnBack_77 hE
        · have hE := (if_neg c6).symm.trans hE
          refine j_aload_n C 0 dX3_leaveSideOrTurnBack_73 rfl ?_
          refine j_cVV C B.2.1 (c_beginCrossing l D z a u) gv_3_225 dd_beginCrossing ⟨⟨rfl, rfl⟩, Nat.le_of_ble_eq_true rfl, Nat.le_of_ble_eq_true rfl⟩ 0 3 pl_desk rfl rfl rfl rfl (Nat.le_of_ble_eq_true rfl) dX3_leaveSideOrTurnBack_74 ?_
          exact B.2.2 _ _ _ dX3_leaveSideOrTurnBack_77 hE
    · have hE := (if_pos c2).symm.trans hE
      have hG := hG.1 c2
      refine j_iconst C 0 dX3_leaveSideOrTurnBack_21 ic_0 ?_
      refine j_istore_n C dX3_leaveSideOrTurnBack_22 (by decide) rfl ?_
      refine j_lq (congrArg (fun x => ([(1, .int x), (0, .ref (a 0))] : List (Nat × Value))) ix_0) ?_
      exact w_leaveSideOrTurnBack_23 B 2 0 u (by omega) hE hG
  · have hE := (if_neg c1).symm.trans hE
    exact B.2.2 _ _ _ dX3_leaveSideOrTurnBack_7 hE
theorem c_leaveSideOrTurnBack (l : Launch) (D : va_G) (z : Nat → ClassId) (a : Nat → Nat) (u : St)  (hG : g_leaveSideOrTurnBack u) : CtV l yX3_leaveSideOrTurnBack (.code yX3_leaveSideOrTurnBack cX3_leaveSideOrTurnBack 2 none :: TT) rm_leaveSideOrTurnBack D clA (tyl z) (cW z a) [.ref (a 0)] u (f_leaveSideOrTurnBack u) :=
  jk_metV (own := RX3) (by decide) rfl (Nat.le_of_ble_eq_true rfl) (fun _ _ _ _ _ _ _ _ _ _ _ B => w_leaveSideOrTurnBack_0 B rfl hG)
def rm_endCrossing : Room := { frames := 4, cells := 0, slots := 0, locals := 85 }
def f_endCrossing_17  : Nat → Nat → St → St
  | 0, i, u => u
  | n + 1, i, u => (if (f_calledOn u i (u 0 1)) = (-1 : Int32) then (f_endCrossing_17 n (i + 1) (up2 u 35 i (f_comingAlongOn u i (u 0 1)))) else (f_endCrossing_17 n (i + 1) (up2 u 35 i (f_calledOn u i (u 0 1)))))
def g_endCrossing_17  : Nat → Nat → St → Prop
  | 0, i, u => True
  | n + 1, i, u => ((g_calledOn u i (u 0 1)) ∧ (((f_calledOn u i (u 0 1)) = (-1 : Int32) → ((g_comingAlongOn u i (u 0 1)) ∧ (g_endCrossing_17 n (i + 1) (up2 u 35 i (f_comingAlongOn u i (u 0 1)))))) ∧ (¬ (f_calledOn u i (u 0 1)) = (-1 : Int32) → (g_endCrossing_17 n (i + 1) (up2 u 35 i (f_calledOn u i (u 0 1)))))))
set_option maxRecDepth 20000 in
set_option maxHeartbeats 1000000 in
theorem w_endCrossing_17 {F : St} (B : jk_BV p l e R s m args below meth c cX3_endCrossing 4 RX3 TT D clA (tyl z) (cW z a) A Q rm_endCrossing F)  : ∀ (n i : Nat) (u : St), i + n = 2 → f_endCrossing_17 n i u = F → g_endCrossing_17 n i u → JJ p l e R s m args below meth c 0 0 4 D clA (cW z a) A Q 17 [(1, .int (nI i)), (0, .ref (a 0))] u [] := by
  have C := B.1
  intro n
  induction n with
  | zero =>
    intro i u hin hE hG
    obtain rfl : i = 2 := by omega
    have hge : (2 : Int32) ≤ nI 2 := by decide
    refine j_iload_n C 0 dX3_endCrossing_17 rfl ?_
    refine j_iconst C 2 dX3_endCrossing_18 ic_2 ?_
    refine j_icmp_ge C 67 dX3_endCrossing_19 (by decide) (fun _ => ?_) (fun hq => absurd hge hq)
    exact B.2.2 _ _ _ dX3_endCrossing_67 hE
  | succ n ih =>
    intro i u hin hE hG
    have hlt : i < 2 := by omega
    have hnge : ¬ (2 : Int32) ≤ nI i := lt2 i hlt
    refine j_iload_n C 0 dX3_endCrossing_17 rfl ?_
    refine j_iconst C 2 dX3_endCrossing_18 ic_2 ?_
    refine j_icmp_ge C 67 dX3_endCrossing_19 (by decide) (fun hq => absurd hq hnge) (fun _ => ?_)
    refine j_aload_n C 1 dX3_endCrossing_22 rfl ?_
    refine j_get C kf_3 0 pl_desk 1 (by decide) lk_3_18 rfl dX3_endCrossing_23 ?_
    refine j_iload_n C 0 dX3_endCrossing_26 rfl ?_
    refine j_aald C 2 3 pl_rgs rfl i rfl hlt (by decide) rfl dX3_endCrossing_27 ?_
    refine j_astore_n C dX3_endCrossing_28 (by decide) rfl ?_
    refine j_aload_n C 2 dX3_endCrossing_29 rfl ?_
    refine j_aload_n C 0 dX3_endCrossing_30 rfl ?_
    refine j_aload_n C 2 dX3_endCrossing_31 rfl ?_
    refine j_get C kf_3 0 pl_desk 5 (by decide) lk_3_106 rfl dX3_endCrossing_32 ?_
    obtain ⟨hg1, hG⟩ := hG
    refine j_cIV C B.2.1 (c_calledOn l D z a u i (u 0 1) hlt hg1) gv_3_215 dd_calledOn ⟨⟨rfl, rfl⟩, Nat.le_of_ble_eq_true rfl, Nat.le_of_ble_eq_true rfl⟩ 0 3 pl_desk rfl rfl rfl rfl (Nat.le_of_ble_eq_true rfl) dX3_endCrossing_35 ?_
    refine j_istore_n C dX3_endCrossing_38 (by decide) rfl ?_
    refine j_aload_n C 1 dX3_endCrossing_39 rfl ?_
    refine j_iload_n C 0 dX3_endCrossing_40 rfl ?_
    refine j_iconst C (-1) dX3_endCrossing_41 ic_m1 ?_
    refine j_icmp_eq C 49 dX3_endCrossing_42 (by decide) (fun c2 => ?_) (fun c2 => ?_)
    · have hE := (if_pos c2).symm.trans hE
      have hG := hG.1 c2
      refine j_aload_n C 3 dX3_endCrossing_49 rfl ?_
      refine j_aload_n C 1 dX3_endCrossing_50 rfl ?_
      refine j_aload_n C 3 dX3_endCrossing_51 rfl ?_
      refine j_get C kf_3 0 pl_desk 5 (by decide) lk_3_106 rfl dX3_endCrossing_52 ?_
      obtain ⟨hg3, hG⟩ := hG
      refine j_cIV C B.2.1 (c_comingAlongOn l D z a u i (u 0 1) hlt hg3) gv_3_228 dd_comingAlongOn ⟨⟨rfl, rfl⟩, Nat.le_of_ble_eq_true rfl, Nat.le_of_ble_eq_true rfl⟩ 0 3 pl_desk rfl rfl rfl rfl (Nat.le_of_ble_eq_true rfl) dX3_endCrossing_55 ?_
      refine j_put C kf_2 (23 + i) (pl_rg hlt) 7 (by decide) lk_3_100 rfl rfl rfl (Nat.le_of_ble_eq_true rfl) (pu_rg_next hlt) dX3_endCrossing_58 ?_
      refine j_iinc C 2 (nI (i + 1)) dX3_endCrossing_61 rfl (nI_1 _) (by decide) rfl ?_
      refine j_goto C 17 dX3_endCrossing_64 (by decide) ?_
      refine j_lv [0, 3] rfl ?_
      exact ih (i + 1) (up2 u 35 i (f_comingAlongOn u i (u 0 1))) (by omega) hE hG
    · have hE := (if_neg c2).symm.trans hE
      have hG := hG.2 c2
      refine j_iload_n C 0 dX3_endCrossing_45 rfl ?_
      refine j_goto C 58 dX3_endCrossing_46 (by decide) ?_
      refine j_put C kf_2 (23 + i) (pl_rg hlt) 7 (by decide) lk_3_100 rfl rfl rfl (Nat.le_of_ble_eq_true rfl) (pu_rg_next hlt) dX3_endCrossing_58 ?_
      refine j_iinc C 2 (nI (i + 1)) dX3_endCrossing_61 rfl (nI_1 _) (by decide) rfl ?_
      refine j_goto C 17 dX3_endCrossing_64 (by decide) ?_
      refine j_lv [0, 3] rfl ?_
      exact ih (i + 1) (up2 u 35 i (f_calledOn u i (u 0 1))) (by omega) hE hG
def f_endCrossing (u : St)  : St := (f_endCrossing_17 2 0 (up2 (up2 u 0 2 (0 : Int32)) 0 1 ((1 : Int32) - ((up2 u 0 2 (0 : Int32)) 0 1))))
def g_endCrossing (u : St)  : Prop := (g_endCrossing_17 2 0 (up2 (up2 u 0 2 (0 : Int32)) 0 1 ((1 : Int32) - ((up2 u 0 2 (0 : Int32)) 0 1))))
set_option maxRecDepth 20000 in
set_option maxHeartbeats 1000000 in
theorem w_endCrossing_0 {F : St} {u : St} (B : jk_BV p l e R s m args below meth c cX3_endCrossing 4 RX3 TT D clA (tyl z) (cW z a) A Q rm_endCrossing F)  (hE : f_endCrossing u = F) (hG : g_endCrossing u) : JJ p l e R s m args below meth c 0 0 4 D clA (cW z a) A Q 0 [(0, .ref (a 0))] u [] := by
  have C := B.1
  unfold f_endCrossing at hE
  unfold g_endCrossing at hG
  refine j_aload_n C 0 dX3_endCrossing_0 rfl ?_
  refine j_iconst C 0 dX3_endCrossing_1 ic_0 ?_
  refine j_put C kf_3 0 pl_desk 6 (by decide) lk_3_103 rfl rfl rfl (Nat.le_of_ble_eq_true rfl) pu_desk_crossing dX3_endCrossing_2 ?_
  refine j_aload_n C 0 dX3_endCrossing_5 rfl ?_
  refine j_iconst C 1 dX3_endCrossing_6 ic_1 ?_
  refine j_aload_n C 0 dX3_endCrossing_7 rfl ?_
  refine j_get C kf_3 0 pl_desk 5 (by decide) lk_3_106 rfl dX3_endCrossing_8 ?_
  refine j_isub C dX3_endCrossing_11 ?_
  refine j_put C kf_3 0 pl_desk 5 (by decide) lk_3_106 rfl rfl rfl (Nat.le_of_ble_eq_true rfl) pu_desk_side dX3_endCrossing_12 ?_
  refine j_iconst C 0 dX3_endCrossing_15 ic_0 ?_
  refine j_istore_n C dX3_endCrossing_16 (by decide) rfl ?_
  refine j_lq (congrArg (fun x => ([(1, .int x), (0, .ref (a 0))] : List (Nat × Value))) ix_0) ?_
  exact w_endCrossing_17 B 2 0 (up2 (up2 u 0 2 (0 : Int32)) 0 1 ((1 : Int32) - ((up2 u 0 2 (0 : Int32)) 0 1))) (by omega) hE hG
theorem c_endCrossing (l : Launch) (D : va_G) (z : Nat → ClassId) (a : Nat → Nat) (u : St)  (hG : g_endCrossing u) : CtV l yX3_endCrossing (.code yX3_endCrossing cX3_endCrossing 4 none :: TT) rm_endCrossing D clA (tyl z) (cW z a) [.ref (a 0)] u (f_endCrossing u) :=
  jk_metV (own := RX3) (by decide) rfl (Nat.le_of_ble_eq_true rfl) (fun _ _ _ _ _ _ _ _ _ _ _ B => w_endCrossing_0 B rfl hG)
def rm_beginGreens : Room := { frames := 3, cells := 0, slots := 0, locals := 62 }
def f_beginGreens_4  : Nat → Nat → Int32 → St → Int32 × St
  | 0, i, x9, u => (x9, u)
  | n + 1, i, x9, u => (if (u 31 i) = (0 : Int32) then (if (u 35 i) = (-1 : Int32) then (f_beginGreens_4 n (i + 1) x9 u) else (f_beginGreens_4 n (i + 1) (x9 + 1) (f_M_beginGreen (f_R_beginGreen u i ((u 35 i).toNatClampNeg)) ((u 35 i).toNatClampNeg)))) else (f_beginGreens_4 n (i + 1) x9 u))
def g_beginGreens_4  : Nat → Nat → Int32 → St → Prop
  | 0, i, x9, u => True
  | n + 1, i, x9, u => (((u 31 i) = (0 : Int32) → (((u 35 i) = (-1 : Int32) → (g_beginGreens_4 n (i + 1) x9 u)) ∧ (¬ (u 35 i) = (-1 : Int32) → ((vp_in (u 35 i) 8) ∧ (g_beginGreens_4 n (i + 1) (x9 + 1) (f_M_beginGreen (f_R_beginGreen u i ((u 35 i).toNatClampNeg)) ((u 35 i).toNatClampNeg))))))) ∧ (¬ (u 31 i) = (0 : Int32) → (g_beginGreens_4 n (i + 1) x9 u)))
set_option maxRecDepth 20000 in
set_option maxHeartbeats 1000000 in
theorem w_beginGreens_4 {F : Int32 × St} (B : jk_BI p l e R s m args below meth c cX3_beginGreens 5 RX3 TT .int D clA (tyl z) (cW z a) A Q rm_beginGreens F)  : ∀ (n i : Nat) (x9 : Int32) (u : St), i + n = 2 → f_beginGreens_4 n i x9 u = F → g_beginGreens_4 n i x9 u → JJ p l e R s m args below meth c 0 0 5 D clA (cW z a) A Q 4 [(2, .int (nI i)), (1, .int x9), (0, .ref (a 0))] u [] := by
  have C := B.1
  intro n
  induction n with
  | zero =>
    intro i x9 u hin hE hG
    obtain rfl : i = 2 := by omega
    have hge : (2 : Int32) ≤ nI 2 := by decide
    refine j_iload_n C 0 dX3_beginGreens_4 rfl ?_
    refine j_iconst C 2 dX3_beginGreens_5 ic_2 ?_
    refine j_icmp_ge C 62 dX3_beginGreens_6 (by decide) (fun _ => ?_) (fun hq => absurd hge hq)
    refine j_iload_n C 1 dX3_beginGreens_62 rfl ?_
    exact B.2.2 _ _ _ _ dX3_beginGreens_63 rfl hE
  | succ n ih =>
    intro i x9 u hin hE hG
    have hlt : i < 2 := by omega
    have hnge : ¬ (2 : Int32) ≤ nI i := lt2 i hlt
    refine j_iload_n C 0 dX3_beginGreens_4 rfl ?_
    refine j_iconst C 2 dX3_beginGreens_5 ic_2 ?_
    refine j_icmp_ge C 62 dX3_beginGreens_6 (by decide) (fun hq => absurd hq hnge) (fun _ => ?_)
    refine j_aload_n C 2 dX3_beginGreens_9 rfl ?_
    refine j_get C kf_3 0 pl_desk 1 (by decide) lk_3_18 rfl dX3_beginGreens_10 ?_
    refine j_iload_n C 0 dX3_beginGreens_13 rfl ?_
    refine j_aald C 2 3 pl_rgs rfl i rfl hlt (by decide) rfl dX3_beginGreens_14 ?_
    refine j_astore_n C dX3_beginGreens_15 (by decide) rfl ?_
    refine j_aload_n C 0 dX3_beginGreens_16 rfl ?_
    refine j_get C kf_2 (23 + i) (pl_rg hlt) 3 (by decide) lk_3_140 rfl dX3_beginGreens_17 ?_
    refine j_if_ne C 56 dX3_beginGreens_20 (by decide) (fun c1 => ?_) (fun c1 => ?_)
    · have hE := (if_neg c1).symm.trans hE
      have hG := hG.2 c1
      refine j_iinc C 1 (nI (i + 1)) dX3_beginGreens_56 rfl (nI_1 _) (by decide) rfl ?_
      refine j_goto C 4 dX3_beginGreens_59 (by decide) ?_
      refine j_lv [0, 2, 3] rfl ?_
      exact ih (i + 1) x9 u (by omega) hE hG
    · have hE := (if_pos c1).symm.trans hE
      have hG := hG.1 c1
      refine j_aload_n C 0 dX3_beginGreens_23 rfl ?_
      refine j_get C kf_2 (23 + i) (pl_rg hlt) 7 (by decide) lk_3_100 rfl dX3_beginGreens_24 ?_
      refine j_iconst C (-1) dX3_beginGreens_27 ic_m1 ?_
      refine j_icmp_eq C 56 dX3_beginGreens_28 (by decide) (fun c2 => ?_) (fun c2 => ?_)
      · have hE := (if_pos c2).symm.trans hE
        have hG := hG.1 c2
        refine j_iinc C 1 (nI (i + 1)) dX3_beginGreens_56 rfl (nI_1 _) (by decide) rfl ?_
        refine j_goto C 4 dX3_beginGreens_59 (by decide) ?_
        refine j_lv [0, 2, 3] rfl ?_
        exact ih (i + 1) x9 u (by omega) hE hG
      · have hE := (if_neg c2).symm.trans hE
        have hG := hG.2 c2
        refine j_aload_n C 3 dX3_beginGreens_31 rfl ?_
        refine j_get C kf_3 0 pl_desk 0 (by decide) lk_3_11 rfl dX3_beginGreens_32 ?_
        refine j_aload_n C 0 dX3_beginGreens_35 rfl ?_
        refine j_get C kf_2 (23 + i) (pl_rg hlt) 7 (by decide) lk_3_100 rfl dX3_beginGreens_36 ?_
        obtain ⟨hv3, hG⟩ := hG
        have lhv3 := jk_lt hv3
        refine j_aald C 1 2 pl_mvs rfl ((u 35 i).toNatClampNeg) (jk_self hv3 (by decide)) (jk_lt hv3) (by decide) rfl dX3_beginGreens_39 ?_
        refine j_astore C dX3_beginGreens_40 (by decide) rfl ?_
        refine j_aload_n C 1 dX3_beginGreens_42 rfl ?_
        refine j_aload C 0 dX3_beginGreens_43 rfl ?_
        refine j_cVV C B.2.1 (c_R_beginGreen l D z a u i ((u 35 i).toNatClampNeg) hlt (jk_lt hv3)) gv_3_231 dd_R_beginGreen ⟨⟨rfl, rfl⟩, Nat.le_of_ble_eq_true rfl, Nat.le_of_ble_eq_true rfl⟩ (23 + i) 2 (pl_rg hlt) rfl rfl rfl rfl (Nat.le_of_ble_eq_true rfl) dX3_beginGreens_45 ?_
        refine j_aload C 0 dX3_beginGreens_48 rfl ?_
        refine j_cVV C B.2.1 (c_M_beginGreen l D z a (f_R_beginGreen u i ((u 35 i).toNatClampNeg)) ((u 35 i).toNatClampNeg) (jk_lt hv3)) gv_3_234 dd_M_beginGreen ⟨⟨rfl, rfl⟩, Nat.le_of_ble_eq_true rfl, Nat.le_of_ble_eq_true rfl⟩ (7 + ((u 35 i).toNatClampNeg)) 1 (pl_mv (jk_lt hv3)) rfl rfl rfl rfl (Nat.le_of_ble_eq_true rfl) dX3_beginGreens_50 ?_
        refine j_iinc C 3 (x9 + 1) dX3_beginGreens_53 rfl rfl (by decide) rfl ?_
        refine j_iinc C 3 (nI (i + 1)) dX3_beginGreens_56 rfl (nI_1 _) (by decide) rfl ?_
        refine j_goto C 4 dX3_beginGreens_59 (by decide) ?_
        refine j_lv [0, 1, 4] rfl ?_
        exact ih (i + 1) (x9 + 1) (f_M_beginGreen (f_R_beginGreen u i ((u 35 i).toNatClampNeg)) ((u 35 i).toNatClampNeg)) (by omega) hE hG
def f_beginGreens (u : St)  : Int32 × St := (f_beginGreens_4 2 0 (0 : Int32) u)
def g_beginGreens (u : St)  : Prop := (g_beginGreens_4 2 0 (0 : Int32) u)
set_option maxRecDepth 20000 in
set_option maxHeartbeats 1000000 in
theorem w_beginGreens_0 {F : Int32 × St} {u : St} (B : jk_BI p l e R s m args below meth c cX3_beginGreens 5 RX3 TT .int D clA (tyl z) (cW z a) A Q rm_beginGreens F)  (hE : f_beginGreens u = F) (hG : g_beginGreens u) : JJ p l e R s m args below meth c 0 0 5 D clA (cW z a) A Q 0 [(0, .ref (a 0))] u [] := by
  have C := B.1
  unfold f_beginGreens at hE
  unfold g_beginGreens at hG
  refine j_iconst C 0 dX3_beginGreens_0 ic_0 ?_
  refine j_istore_n C dX3_beginGreens_1 (by decide) rfl ?_
  refine j_iconst C 0 dX3_beginGreens_2 ic_0 ?_
  refine j_istore_n C dX3_beginGreens_3 (by decide) rfl ?_
  refine j_lq (congrArg (fun x => ([(2, .int x), (1, .int 0), (0, .ref (a 0))] : List (Nat × Value))) ix_0) ?_
  exact w_beginGreens_4 B 2 0 (0 : Int32) u (by omega) hE hG
theorem c_beginGreens (l : Launch) (D : va_G) (z : Nat → ClassId) (a : Nat → Nat) (u : St)  (hG : g_beginGreens u) : CtI l yX3_beginGreens (.code yX3_beginGreens cX3_beginGreens 5 (some .int) :: TT) rm_beginGreens D clA (tyl z) (cW z a) [.ref (a 0)] u (f_beginGreens u).1 (f_beginGreens u).2 :=
  jk_metI (own := RX3) (by decide) rfl (Nat.le_of_ble_eq_true rfl) (fun _ _ _ _ _ _ _ _ _ _ _ B => w_beginGreens_0 B rfl hG)
def rm_showLightsToGuard : Room := { frames := 4, cells := 0, slots := 0, locals := 86 }
def f_showLightsToGuard_2  : Nat → Nat → St → St
  | 0, i, u => (f_G_look u)
  | n + 1, i, u => (f_showLightsToGuard_2 n (i + 1) (up2 u 2 i (f_shownLight u i)))
def g_showLightsToGuard_2  : Nat → Nat → St → Prop
  | 0, i, u => (g_G_look u)
  | n + 1, i, u => (g_showLightsToGuard_2 n (i + 1) (up2 u 2 i (f_shownLight u i)))
set_option maxRecDepth 20000 in
set_option maxHeartbeats 1000000 in
theorem w_showLightsToGuard_2 {F : St} (B : jk_BV p l e R s m args below meth c cX3_showLightsToGuard 2 RX3 TT D clA (tyl z) (cW z a) A Q rm_showLightsToGuard F)  : ∀ (n i : Nat) (u : St), i + n = 8 → f_showLightsToGuard_2 n i u = F → g_showLightsToGuard_2 n i u → JJ p l e R s m args below meth c 0 0 2 D clA (cW z a) A Q 2 [(1, .int (nI i)), (0, .ref (a 0))] u [] := by
  have C := B.1
  intro n
  induction n with
  | zero =>
    intro i u hin hE hG
    obtain rfl : i = 8 := by omega
    have hge : (8 : Int32) ≤ nI 8 := by decide
    refine j_iload_n C 0 dX3_showLightsToGuard_2 rfl ?_
    refine j_bipush C 8 dX3_showLightsToGuard_3 bp_8 ?_
    refine j_icmp_ge C 25 dX3_showLightsToGuard_5 (by decide) (fun _ => ?_) (fun hq => absurd hge hq)
    refine j_aload_n C 1 dX3_showLightsToGuard_25 rfl ?_
    refine j_get C kf_3 0 pl_desk 2 (by decide) lk_3_28 rfl dX3_showLightsToGuard_26 ?_
    refine j_aload_n C 1 dX3_showLightsToGuard_29 rfl ?_
    refine j_get C kf_3 0 pl_desk 3 (by decide) lk_3_32 rfl dX3_showLightsToGuard_30 ?_
    have hg1 := hG
    refine j_cVV C B.2.1 (c_G_look l D z a u hg1) gv_3_236 dd_G_look ⟨⟨rfl, rfl⟩, Nat.le_of_ble_eq_true rfl, Nat.le_of_ble_eq_true rfl⟩ 3 0 pl_guard rfl rfl rfl rfl (Nat.le_of_ble_eq_true rfl) dX3_showLightsToGuard_33 ?_
    exact B.2.2 _ _ _ dX3_showLightsToGuard_36 hE
  | succ n ih =>
    intro i u hin hE hG
    have hlt : i < 8 := by omega
    have hnge : ¬ (8 : Int32) ≤ nI i := lt8 i hlt
    refine j_iload_n C 0 dX3_showLightsToGuard_2 rfl ?_
    refine j_bipush C 8 dX3_showLightsToGuard_3 bp_8 ?_
    refine j_icmp_ge C 25 dX3_showLightsToGuard_5 (by decide) (fun hq => absurd hq hnge) (fun _ => ?_)
    refine j_aload_n C 1 dX3_showLightsToGuard_8 rfl ?_
    refine j_get C kf_3 0 pl_desk 3 (by decide) lk_3_32 rfl dX3_showLightsToGuard_9 ?_
    refine j_iload_n C 0 dX3_showLightsToGuard_12 rfl ?_
    refine j_aload_n C 1 dX3_showLightsToGuard_13 rfl ?_
    refine j_iload_n C 0 dX3_showLightsToGuard_14 rfl ?_
    refine j_cIV C B.2.1 (c_shownLight l D z a u i hlt) gv_3_112 dd_shownLight ⟨⟨rfl, rfl⟩, Nat.le_of_ble_eq_true rfl, Nat.le_of_ble_eq_true rfl⟩ 0 3 pl_desk rfl rfl rfl rfl (Nat.le_of_ble_eq_true rfl) dX3_showLightsToGuard_15 ?_
    refine j_iast C 4 0 pl_lights rfl i rfl hlt (by decide) pu_lights dX3_showLightsToGuard_18 ?_
    refine j_iinc C 0 (nI (i + 1)) dX3_showLightsToGuard_19 rfl (nI_1 _) (by decide) rfl ?_
    refine j_goto C 2 dX3_showLightsToGuard_22 (by decide) ?_
    exact ih (i + 1) (up2 u 2 i (f_shownLight u i)) (by omega) hE hG
def f_showLightsToGuard (u : St)  : St := (f_showLightsToGuard_2 8 0 u)
def g_showLightsToGuard (u : St)  : Prop := (g_showLightsToGuard_2 8 0 u)
set_option maxRecDepth 20000 in
set_option maxHeartbeats 1000000 in
theorem w_showLightsToGuard_0 {F : St} {u : St} (B : jk_BV p l e R s m args below meth c cX3_showLightsToGuard 2 RX3 TT D clA (tyl z) (cW z a) A Q rm_showLightsToGuard F)  (hE : f_showLightsToGuard u = F) (hG : g_showLightsToGuard u) : JJ p l e R s m args below meth c 0 0 2 D clA (cW z a) A Q 0 [(0, .ref (a 0))] u [] := by
  have C := B.1
  unfold f_showLightsToGuard at hE
  unfold g_showLightsToGuard at hG
  refine j_iconst C 0 dX3_showLightsToGuard_0 ic_0 ?_
  refine j_istore_n C dX3_showLightsToGuard_1 (by decide) rfl ?_
  refine j_lq (congrArg (fun x => ([(1, .int x), (0, .ref (a 0))] : List (Nat × Value))) ix_0) ?_
  exact w_showLightsToGuard_2 B 8 0 u (by omega) hE hG
theorem c_showLightsToGuard (l : Launch) (D : va_G) (z : Nat → ClassId) (a : Nat → Nat) (u : St)  (hG : g_showLightsToGuard u) : CtV l yX3_showLightsToGuard (.code yX3_showLightsToGuard cX3_showLightsToGuard 2 none :: TT) rm_showLightsToGuard D clA (tyl z) (cW z a) [.ref (a 0)] u (f_showLightsToGuard u) :=
  jk_metV (own := RX3) (by decide) rfl (Nat.le_of_ble_eq_true rfl) (fun _ _ _ _ _ _ _ _ _ _ _ B => w_showLightsToGuard_0 B rfl hG)
end WLK

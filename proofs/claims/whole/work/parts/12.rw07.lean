section WLK
variable {p : Program} {l : Launch} {e : Env} {R : Room} {s : State} {m : MethodId} {args : Array Value} {below : List Frame} {meth : Method} {c : Code} {D : va_G} {z : Nat → ClassId} {a : Nat → Nat} {A : Nat → Prop} {Q : State → Prop}
def rm_m_allGreens : Room := { frames := 0, cells := 0, slots := 0, locals := 0 }
def f_m_allGreens_4 (u : St)  : Nat → Nat → Int32 → Int32
  | 0, i, x9 => x9
  | n + 1, i, x9 => (f_m_allGreens_4 u n (i + 1) (x9 + (u 8 i)))
set_option maxRecDepth 20000 in
set_option maxHeartbeats 1000000 in
theorem w_m_allGreens_4 {Fr : Int32} {u : St} (B : jk_BI p l e R s m args below meth c cX4_allGreens 3 RX4 TT .int D clA (tyl z) (rW z a) A Q rm_m_allGreens (Fr, u))  : ∀ (n i : Nat) (x9 : Int32), i + n = 8 → f_m_allGreens_4 u n i x9 = Fr → JJ p l e R s m args below meth c 0 0 3 D clA (rW z a) A Q 4 [(2, .int (nI i)), (1, .int x9), (0, .ref (a 0))] u [] := by
  have C := B.1
  intro n
  induction n with
  | zero =>
    intro i x9 hin hE
    obtain rfl : i = 8 := by omega
    have hge : (8 : Int32) ≤ nI 8 := by decide
    refine j_iload_n C 0 dX4_allGreens_4 rfl ?_
    refine j_bipush C 8 dX4_allGreens_5 bp_8 ?_
    refine j_icmp_ge C 25 dX4_allGreens_7 (by decide) (fun _ => ?_) (fun hq => absurd hge hq)
    refine j_iload_n C 1 dX4_allGreens_25 rfl ?_
    exact B.2.2 _ _ _ _ dX4_allGreens_26 rfl (congrArg (fun x => (x, u)) hE)
  | succ n ih =>
    intro i x9 hin hE
    have hlt : i < 8 := by omega
    have hnge : ¬ (8 : Int32) ≤ nI i := lt8 i hlt
    refine j_iload_n C 0 dX4_allGreens_4 rfl ?_
    refine j_bipush C 8 dX4_allGreens_5 bp_8 ?_
    refine j_icmp_ge C 25 dX4_allGreens_7 (by decide) (fun hq => absurd hq hnge) (fun _ => ?_)
    refine j_iload_n C 1 dX4_allGreens_10 rfl ?_
    refine j_aload_n C 2 dX4_allGreens_11 rfl ?_
    refine j_get C kf_4 0 pl_md 8 (by decide) lk_4_32 rfl dX4_allGreens_12 ?_
    refine j_iload_n C 0 dX4_allGreens_15 rfl ?_
    refine j_iald C 8 0 pl_a_greens rfl i rfl hlt (by decide) dX4_allGreens_16 ?_
    refine j_iadd C dX4_allGreens_17 ?_
    refine j_istore_n C dX4_allGreens_18 (by decide) rfl ?_
    refine j_iinc C 1 (nI (i + 1)) dX4_allGreens_19 rfl (nI_1 _) (by decide) rfl ?_
    refine j_goto C 4 dX4_allGreens_22 (by decide) ?_
    exact ih (i + 1) (x9 + (u 8 i)) (by omega) hE
def f_m_allGreens (u : St)  : Int32 := (f_m_allGreens_4 u 8 0 (0 : Int32))
set_option maxRecDepth 20000 in
set_option maxHeartbeats 1000000 in
theorem w_m_allGreens_0 {Fr : Int32} {u : St} (B : jk_BI p l e R s m args below meth c cX4_allGreens 3 RX4 TT .int D clA (tyl z) (rW z a) A Q rm_m_allGreens (Fr, u))  (hE : f_m_allGreens u = Fr) : JJ p l e R s m args below meth c 0 0 3 D clA (rW z a) A Q 0 [(0, .ref (a 0))] u [] := by
  have C := B.1
  unfold f_m_allGreens at hE
  refine j_iconst C 0 dX4_allGreens_0 ic_0 ?_
  refine j_istore_n C dX4_allGreens_1 (by decide) rfl ?_
  refine j_iconst C 0 dX4_allGreens_2 ic_0 ?_
  refine j_istore_n C dX4_allGreens_3 (by decide) rfl ?_
  refine j_lq (congrArg (fun x => ([(2, .int x), (1, .int 0), (0, .ref (a 0))] : List (Nat × Value))) ix_0) ?_
  exact w_m_allGreens_4 B 8 0 (0 : Int32) (by omega) hE
theorem c_m_allGreens (l : Launch) (D : va_G) (z : Nat → ClassId) (a : Nat → Nat) (u : St)  : CtI l yX4_allGreens (.code yX4_allGreens cX4_allGreens 3 (some .int) :: TT) rm_m_allGreens D clA (tyl z) (rW z a) [.ref (a 0)] u (f_m_allGreens u) u :=
  jk_metI (own := RX4) (by decide) rfl (Nat.le_of_ble_eq_true rfl) (fun _ _ _ _ _ _ _ _ _ _ _ B => w_m_allGreens_0 B rfl)
def rm_m_run : Room := { frames := 5, cells := 0, slots := 0, locals := 114 }
def f_m_run_25 (x0 : Int32) : Nat → Nat → Int32 → Nat → St → Int32 × St
  | 0, i, x9, k9, u => (((f_m_allGreens u) - x9), u)
  | n + 1, i, x9, k9, u => (if ((up2 u 0 19 ((u 0 19) + (1 : Int32))) 0 23) = (0 : Int32) then (f_m_run_25 x0 n (i + 1) x9 k9 (f_m_look (f_m_tick (up2 u 0 19 ((u 0 19) + (1 : Int32)))))) else (f_m_run_25 x0 n (i + 1) x9 k9 (up2 u 0 19 ((u 0 19) + (1 : Int32)))))
def g_m_run_25 (x0 : Int32) : Nat → Nat → Int32 → Nat → St → Prop
  | 0, i, x9, k9, u => True
  | n + 1, i, x9, k9, u => ((((up2 u 0 19 ((u 0 19) + (1 : Int32))) 0 23) = (0 : Int32) → ((g_m_tick (up2 u 0 19 ((u 0 19) + (1 : Int32)))) ∧ (g_m_run_25 x0 n (i + 1) x9 k9 (f_m_look (f_m_tick (up2 u 0 19 ((u 0 19) + (1 : Int32)))))))) ∧ (¬ ((up2 u 0 19 ((u 0 19) + (1 : Int32))) 0 23) = (0 : Int32) → (g_m_run_25 x0 n (i + 1) x9 k9 (up2 u 0 19 ((u 0 19) + (1 : Int32))))))
set_option maxRecDepth 20000 in
set_option maxHeartbeats 1000000 in
theorem w_m_run_25 {F : Int32 × St} (B : jk_BI p l e R s m args below meth c cX4_run 4 RX4 TT .int D clA (tyl z) (rW z a) A Q rm_m_run F) (x0 : Int32) : ∀ (n i : Nat) (x9 : Int32) (k9 : Nat) (u : St), i + n = k9 → k9 < 501 → f_m_run_25 x0 n i x9 k9 u = F → g_m_run_25 x0 n i x9 k9 u → JJ p l e R s m args below meth c 0 0 4 D clA (rW z a) A Q 25 [(3, .int (nI i)), (2, .int x9), (1, .int (nI k9)), (0, .ref (a 0))] u [] := by
  have C := B.1
  intro n
  induction n with
  | zero =>
    intro i x9 k9 u hin hk9 hE hG
    obtain rfl : i = k9 := by omega
    have hge : nI i ≤ nI i := Int32.le_refl _
    refine j_iload_n C 0 dX4_run_25 rfl ?_
    refine j_iload_n C 2 dX4_run_26 rfl ?_
    refine j_icmp_ge C 61 dX4_run_27 (by decide) (fun _ => ?_) (fun hq => absurd hge hq)
    refine j_aload_n C 3 dX4_run_61 rfl ?_
    refine j_cIV C B.2.1 (c_m_allGreens l D z a u) gv_4_160 dd_m_allGreens ⟨⟨rfl, rfl⟩, Nat.le_of_ble_eq_true rfl, Nat.le_of_ble_eq_true rfl⟩ 0 4 pl_md rfl rfl rfl rfl (Nat.le_of_ble_eq_true rfl) dX4_run_62 ?_
    refine j_iload_n C 1 dX4_run_65 rfl ?_
    refine j_isub C dX4_run_66 ?_
    exact B.2.2 _ _ _ _ dX4_run_67 rfl hE
  | succ n ih =>
    intro i x9 k9 u hin hk9 hE hG
    have hlt : i < k9 := by omega
    have hnge : ¬ nI k9 ≤ nI i := nI_ge hlt (by omega)
    refine j_iload_n C 0 dX4_run_25 rfl ?_
    refine j_iload_n C 2 dX4_run_26 rfl ?_
    refine j_icmp_ge C 61 dX4_run_27 (by decide) (fun hq => absurd hq hnge) (fun _ => ?_)
    refine j_aload_n C 3 dX4_run_30 rfl ?_
    refine j_dup C dX4_run_31 rfl ?_
    refine j_get C kf_4 0 pl_md 19 (by decide) lk_4_164 rfl dX4_run_32 ?_
    refine j_iconst C 1 dX4_run_35 ic_1 ?_
    refine j_iadd C dX4_run_36 ?_
    refine j_put C kf_4 0 pl_md 19 (by decide) lk_4_164 rfl rfl rfl (Nat.le_of_ble_eq_true rfl) pu_md_time dX4_run_37 ?_
    refine j_aload_n C 3 dX4_run_40 rfl ?_
    refine j_get C kf_4 0 pl_md 23 (by decide) lk_4_157 rfl dX4_run_41 ?_
    refine j_if_ne C 55 dX4_run_44 (by decide) (fun c1 => ?_) (fun c1 => ?_)
    · have hE := (if_neg c1).symm.trans hE
      have hG := hG.2 c1
      refine j_iinc C 0 (nI (i + 1)) dX4_run_55 rfl (nI_1 _) (by decide) rfl ?_
      refine j_goto C 25 dX4_run_58 (by decide) ?_
      exact ih (i + 1) x9 k9 (up2 u 0 19 ((u 0 19) + (1 : Int32))) (by omega) hk9 hE hG
    · have hE := (if_pos c1).symm.trans hE
      have hG := hG.1 c1
      refine j_aload_n C 3 dX4_run_47 rfl ?_
      obtain ⟨hg2, hG⟩ := hG
      refine j_cVV C B.2.1 (c_m_tick l D z a (up2 u 0 19 ((u 0 19) + (1 : Int32))) hg2) gv_4_167 dd_m_tick ⟨⟨rfl, rfl⟩, Nat.le_of_ble_eq_true rfl, Nat.le_of_ble_eq_true rfl⟩ 0 4 pl_md rfl rfl rfl rfl (Nat.le_of_ble_eq_true rfl) dX4_run_48 ?_
      refine j_aload_n C 3 dX4_run_51 rfl ?_
      refine j_cVV C B.2.1 (c_m_look l D z a (f_m_tick (up2 u 0 19 ((u 0 19) + (1 : Int32))))) gv_4_170 dd_m_look ⟨⟨rfl, rfl⟩, Nat.le_of_ble_eq_true rfl, Nat.le_of_ble_eq_true rfl⟩ 0 4 pl_md rfl rfl rfl rfl (Nat.le_of_ble_eq_true rfl) dX4_run_52 ?_
      refine j_iinc C 0 (nI (i + 1)) dX4_run_55 rfl (nI_1 _) (by decide) rfl ?_
      refine j_goto C 25 dX4_run_58 (by decide) ?_
      exact ih (i + 1) x9 k9 (f_m_look (f_m_tick (up2 u 0 19 ((u 0 19) + (1 : Int32))))) (by omega) hk9 hE hG
def f_m_run (u : St) (x0 : Int32) : Int32 × St := (if x0 < (0 : Int32) then ((-1 : Int32), (up2 u 0 0 (0 : Int32))) else (if x0 ≤ (500 : Int32) then (f_m_run_25 x0 (x0.toNatClampNeg) 0 (f_m_allGreens (up2 u 0 0 (0 : Int32))) (x0.toNatClampNeg) (up2 u 0 0 (0 : Int32))) else ((-1 : Int32), (up2 u 0 0 (0 : Int32)))))
def g_m_run (u : St) (x0 : Int32) : Prop := ((x0 < (0 : Int32) → True) ∧ (¬ x0 < (0 : Int32) → ((x0 ≤ (500 : Int32) → ((vp_in x0 501) ∧ (g_m_run_25 x0 (x0.toNatClampNeg) 0 (f_m_allGreens (up2 u 0 0 (0 : Int32))) (x0.toNatClampNeg) (up2 u 0 0 (0 : Int32))))) ∧ (¬ x0 ≤ (500 : Int32) → True))))
set_option maxRecDepth 20000 in
set_option maxHeartbeats 1000000 in
theorem w_m_run_0 {F : Int32 × St} {u : St} (B : jk_BI p l e R s m args below meth c cX4_run 4 RX4 TT .int D clA (tyl z) (rW z a) A Q rm_m_run F) (x0 : Int32) (hE : f_m_run u x0 = F) (hG : g_m_run u x0) : JJ p l e R s m args below meth c 0 0 4 D clA (rW z a) A Q 0 [(0, .ref (a 0)), (1, .int x0)] u [] := by
  have C := B.1
  unfold f_m_run at hE
  unfold g_m_run at hG
  refine j_aload_n C 0 dX4_run_0 rfl ?_
  refine j_iconst C 0 dX4_run_1 ic_0 ?_
  refine j_put C kf_4 0 pl_md 0 (by decide) lk_4_71 rfl rfl rfl (Nat.le_of_ble_eq_true rfl) pu_md_thrown dX4_run_2 ?_
  refine j_iload_n C 1 dX4_run_5 rfl ?_
  refine j_if_lt C 16 dX4_run_6 (by decide) (fun c1 => ?_) (fun c1 => ?_)
  · have hE := (if_pos c1).symm.trans hE
    refine j_iconst C (-1) dX4_run_16 ic_m1 ?_
    exact B.2.2 _ _ _ _ dX4_run_17 rfl hE
  · have hE := (if_neg c1).symm.trans hE
    have hG := hG.2 c1
    refine j_iload_n C 1 dX4_run_9 rfl ?_
    refine j_sipush C 500 dX4_run_10 sp_500 ?_
    refine j_icmp_le C 18 dX4_run_13 (by decide) (fun c2 => ?_) (fun c2 => ?_)
    · have hE := (if_pos c2).symm.trans hE
      have hG := hG.1 c2
      refine j_aload_n C 0 dX4_run_18 rfl ?_
      refine j_cIV C B.2.1 (c_m_allGreens l D z a (up2 u 0 0 (0 : Int32))) gv_4_160 dd_m_allGreens ⟨⟨rfl, rfl⟩, Nat.le_of_ble_eq_true rfl, Nat.le_of_ble_eq_true rfl⟩ 0 4 pl_md rfl rfl rfl rfl (Nat.le_of_ble_eq_true rfl) dX4_run_19 ?_
      refine j_istore_n C dX4_run_22 (by decide) rfl ?_
      refine j_iconst C 0 dX4_run_23 ic_0 ?_
      refine j_istore_n C dX4_run_24 (by decide) rfl ?_
      obtain ⟨hv3, hG⟩ := hG
      have lhv3 := jk_lt hv3
      refine j_lv [0, 1, 3, 2] rfl ?_
      refine j_lq (congrArg (fun x => ([(3, .int x), (2, .int (f_m_allGreens (up2 u 0 0 (0 : Int32)))), (1, .int x0), (0, .ref (a 0))] : List (Nat × Value))) ix_0) ?_
      refine j_lq (congrArg (fun x => ([(3, .int (nI 0)), (2, .int (f_m_allGreens (up2 u 0 0 (0 : Int32)))), (1, .int x), (0, .ref (a 0))] : List (Nat × Value))) (jk_self hv3 (by decide))) ?_
      exact w_m_run_25 B x0 (x0.toNatClampNeg) 0 (f_m_allGreens (up2 u 0 0 (0 : Int32))) (x0.toNatClampNeg) (up2 u 0 0 (0 : Int32)) (Nat.zero_add _) (jk_lt hv3) hE hG
    · have hE := (if_neg c2).symm.trans hE
      refine j_iconst C (-1) dX4_run_16 ic_m1 ?_
      exact B.2.2 _ _ _ _ dX4_run_17 rfl hE
theorem c_m_run (l : Launch) (D : va_G) (z : Nat → ClassId) (a : Nat → Nat) (u : St) (x0 : Int32) (hG : g_m_run u x0) : CtI l yX4_run (.code yX4_run cX4_run 4 (some .int) :: TT) rm_m_run D clA (tyl z) (rW z a) [.ref (a 0), .int x0] u (f_m_run u x0).1 (f_m_run u x0).2 :=
  jk_metI (own := RX4) (by decide) rfl (Nat.le_of_ble_eq_true rfl) (fun _ _ _ _ _ _ _ _ _ _ _ B => w_m_run_0 B x0 rfl hG)
def rm_m_restart : Room := { frames := 1, cells := 0, slots := 0, locals := 21 }
def f_m_restart_61  : Nat → Nat → St → Int32 × St
  | 0, i, u => ((1 : Int32), u)
  | n + 1, i, u => (f_m_restart_61 n (i + 1) (up2 (up2 u 24 i (-1 : Int32)) 25 i (0 : Int32)))
set_option maxRecDepth 20000 in
set_option maxHeartbeats 1000000 in
theorem w_m_restart_61 {F : Int32 × St} (B : jk_BI p l e R s m args below meth c cX4_restart 2 RX4 TT .int D clA (tyl z) (rW z a) A Q rm_m_restart F)  : ∀ (n i : Nat) (u : St), i + n = 8 → f_m_restart_61 n i u = F → JJ p l e R s m args below meth c 0 0 2 D clA (rW z a) A Q 61 [(1, .int (nI i)), (0, .ref (a 0))] u [] := by
  have C := B.1
  intro n
  induction n with
  | zero =>
    intro i u hin hE
    obtain rfl : i = 8 := by omega
    have hge : (8 : Int32) ≤ nI 8 := by decide
    refine j_iload_n C 0 dX4_restart_61 rfl ?_
    refine j_bipush C 8 dX4_restart_62 bp_8 ?_
    refine j_icmp_ge C 87 dX4_restart_64 (by decide) (fun _ => ?_) (fun hq => absurd hge hq)
    refine j_iconst C 1 dX4_restart_87 ic_1 ?_
    exact B.2.2 _ _ _ _ dX4_restart_88 rfl hE
  | succ n ih =>
    intro i u hin hE
    have hlt : i < 8 := by omega
    have hnge : ¬ (8 : Int32) ≤ nI i := lt8 i hlt
    refine j_iload_n C 0 dX4_restart_61 rfl ?_
    refine j_bipush C 8 dX4_restart_62 bp_8 ?_
    refine j_icmp_ge C 87 dX4_restart_64 (by decide) (fun hq => absurd hq hnge) (fun _ => ?_)
    refine j_aload_n C 1 dX4_restart_67 rfl ?_
    refine j_get C kf_4 0 pl_md 24 (by decide) lk_4_65 rfl dX4_restart_68 ?_
    refine j_iload_n C 0 dX4_restart_71 rfl ?_
    refine j_iconst C (-1) dX4_restart_72 ic_m1 ?_
    refine j_iast C 19 0 pl_a_seen rfl i rfl hlt (by decide) pu_a_seen dX4_restart_73 ?_
    refine j_aload_n C 1 dX4_restart_74 rfl ?_
    refine j_get C kf_4 0 pl_md 25 (by decide) lk_4_68 rfl dX4_restart_75 ?_
    refine j_iload_n C 0 dX4_restart_78 rfl ?_
    refine j_iconst C 0 dX4_restart_79 ic_0 ?_
    refine j_iast C 20 0 pl_a_yellows rfl i rfl hlt (by decide) pu_a_yellows dX4_restart_80 ?_
    refine j_iinc C 0 (nI (i + 1)) dX4_restart_81 rfl (nI_1 _) (by decide) rfl ?_
    refine j_goto C 61 dX4_restart_84 (by decide) ?_
    exact ih (i + 1) (up2 (up2 u 24 i (-1 : Int32)) 25 i (0 : Int32)) (by omega) hE
def f_m_restart_36  : Nat → Nat → St → Int32 × St
  | 0, i, u => (f_m_restart_61 8 0 u)
  | n + 1, i, u => (f_m_restart_36 n (i + 1) (up2 (f_m_goDark u i) 12 i (-1 : Int32)))
set_option maxRecDepth 20000 in
set_option maxHeartbeats 1000000 in
theorem w_m_restart_36 {F : Int32 × St} (B : jk_BI p l e R s m args below meth c cX4_restart 2 RX4 TT .int D clA (tyl z) (rW z a) A Q rm_m_restart F)  : ∀ (n i : Nat) (u : St), i + n = 2 → f_m_restart_36 n i u = F → JJ p l e R s m args below meth c 0 0 2 D clA (rW z a) A Q 36 [(1, .int (nI i)), (0, .ref (a 0))] u [] := by
  have C := B.1
  intro n
  induction n with
  | zero =>
    intro i u hin hE
    obtain rfl : i = 2 := by omega
    have hge : (2 : Int32) ≤ nI 2 := by decide
    refine j_iload_n C 0 dX4_restart_36 rfl ?_
    refine j_iconst C 2 dX4_restart_37 ic_2 ?_
    refine j_icmp_ge C 59 dX4_restart_38 (by decide) (fun _ => ?_) (fun hq => absurd hge hq)
    refine j_iconst C 0 dX4_restart_59 ic_0 ?_
    refine j_istore_n C dX4_restart_60 (by decide) rfl ?_
    refine j_lq (congrArg (fun x => ([(1, .int x), (0, .ref (a 0))] : List (Nat × Value))) ix_0) ?_
    exact w_m_restart_61 B 8 0 u (by omega) hE
  | succ n ih =>
    intro i u hin hE
    have hlt : i < 2 := by omega
    have hnge : ¬ (2 : Int32) ≤ nI i := lt2 i hlt
    refine j_iload_n C 0 dX4_restart_36 rfl ?_
    refine j_iconst C 2 dX4_restart_37 ic_2 ?_
    refine j_icmp_ge C 59 dX4_restart_38 (by decide) (fun hq => absurd hq hnge) (fun _ => ?_)
    refine j_aload_n C 1 dX4_restart_41 rfl ?_
    refine j_iload_n C 0 dX4_restart_42 rfl ?_
    refine j_cVV C B.2.1 (c_m_goDark l D z a u i hlt) gv_4_106 dd_m_goDark ⟨⟨rfl, rfl⟩, Nat.le_of_ble_eq_true rfl, Nat.le_of_ble_eq_true rfl⟩ 0 4 pl_md rfl rfl rfl rfl (Nat.le_of_ble_eq_true rfl) dX4_restart_43 ?_
    refine j_aload_n C 1 dX4_restart_46 rfl ?_
    refine j_get C kf_4 0 pl_md 12 (by decide) lk_4_44 rfl dX4_restart_47 ?_
    refine j_iload_n C 0 dX4_restart_50 rfl ?_
    refine j_iconst C (-1) dX4_restart_51 ic_m1 ?_
    refine j_iast C 12 0 pl_a_next rfl i rfl hlt (by decide) pu_a_next dX4_restart_52 ?_
    refine j_iinc C 0 (nI (i + 1)) dX4_restart_53 rfl (nI_1 _) (by decide) rfl ?_
    refine j_goto C 36 dX4_restart_56 (by decide) ?_
    exact ih (i + 1) (up2 (f_m_goDark u i) 12 i (-1 : Int32)) (by omega) hE
def f_m_restart (u : St)  : Int32 × St := (if ((up2 u 0 0 (0 : Int32)) 0 23) = (0 : Int32) then ((0 : Int32), (up2 u 0 0 (0 : Int32))) else (f_m_restart_36 2 0 (up2 (up2 (up2 (up2 (up2 u 0 0 (0 : Int32)) 0 23 (0 : Int32)) 0 21 (0 : Int32)) 0 20 (0 : Int32)) 0 26 (0 : Int32))))
set_option maxRecDepth 20000 in
set_option maxHeartbeats 1000000 in
theorem w_m_restart_0 {F : Int32 × St} {u : St} (B : jk_BI p l e R s m args below meth c cX4_restart 2 RX4 TT .int D clA (tyl z) (rW z a) A Q rm_m_restart F)  (hE : f_m_restart u = F) : JJ p l e R s m args below meth c 0 0 2 D clA (rW z a) A Q 0 [(0, .ref (a 0))] u [] := by
  have C := B.1
  unfold f_m_restart at hE
  refine j_aload_n C 0 dX4_restart_0 rfl ?_
  refine j_iconst C 0 dX4_restart_1 ic_0 ?_
  refine j_put C kf_4 0 pl_md 0 (by decide) lk_4_71 rfl rfl rfl (Nat.le_of_ble_eq_true rfl) pu_md_thrown dX4_restart_2 ?_
  refine j_aload_n C 0 dX4_restart_5 rfl ?_
  refine j_get C kf_4 0 pl_md 23 (by decide) lk_4_157 rfl dX4_restart_6 ?_
  refine j_if_ne C 14 dX4_restart_9 (by decide) (fun c1 => ?_) (fun c1 => ?_)
  · have hE := (if_neg c1).symm.trans hE
    refine j_aload_n C 0 dX4_restart_14 rfl ?_
    refine j_iconst C 0 dX4_restart_15 ic_0 ?_
    refine j_put C kf_4 0 pl_md 23 (by decide) lk_4_157 rfl rfl rfl (Nat.le_of_ble_eq_true rfl) pu_md_wrong dX4_restart_16 ?_
    refine j_aload_n C 0 dX4_restart_19 rfl ?_
    refine j_iconst C 0 dX4_restart_20 ic_0 ?_
    refine j_put C kf_4 0 pl_md 21 (by decide) lk_4_119 rfl rfl rfl (Nat.le_of_ble_eq_true rfl) pu_md_crossing dX4_restart_21 ?_
    refine j_aload_n C 0 dX4_restart_24 rfl ?_
    refine j_iconst C 0 dX4_restart_25 ic_0 ?_
    refine j_put C kf_4 0 pl_md 20 (by decide) lk_4_113 rfl rfl rfl (Nat.le_of_ble_eq_true rfl) pu_md_side dX4_restart_26 ?_
    refine j_aload_n C 0 dX4_restart_29 rfl ?_
    refine j_iconst C 0 dX4_restart_30 ic_0 ?_
    refine j_put C kf_4 0 pl_md 26 (by decide) lk_4_154 rfl rfl rfl (Nat.le_of_ble_eq_true rfl) pu_md_clashed dX4_restart_31 ?_
    refine j_iconst C 0 dX4_restart_34 ic_0 ?_
    refine j_istore_n C dX4_restart_35 (by decide) rfl ?_
    refine j_lq (congrArg (fun x => ([(1, .int x), (0, .ref (a 0))] : List (Nat × Value))) ix_0) ?_
    exact w_m_restart_36 B 2 0 (up2 (up2 (up2 (up2 (up2 u 0 0 (0 : Int32)) 0 23 (0 : Int32)) 0 21 (0 : Int32)) 0 20 (0 : Int32)) 0 26 (0 : Int32)) (by omega) hE
  · have hE := (if_pos c1).symm.trans hE
    refine j_iconst C 0 dX4_restart_12 ic_0 ?_
    exact B.2.2 _ _ _ _ dX4_restart_13 rfl hE
theorem c_m_restart (l : Launch) (D : va_G) (z : Nat → ClassId) (a : Nat → Nat) (u : St)  : CtI l yX4_restart (.code yX4_restart cX4_restart 2 (some .int) :: TT) rm_m_restart D clA (tyl z) (rW z a) [.ref (a 0)] u (f_m_restart u).1 (f_m_restart u).2 :=
  jk_metI (own := RX4) (by decide) rfl (Nat.le_of_ble_eq_true rfl) (fun _ _ _ _ _ _ _ _ _ _ _ B => w_m_restart_0 B rfl)
def rm_m_of : Room := { frames := 2, cells := 0, slots := 0, locals := 43 }
def f_m_of (u : St) (x0 : Int32) (x1 : Int32) : Int32 × St := (if (f_m_isMovement x0) = (0 : Int32) then ((-1 : Int32), (up2 u 0 0 (0 : Int32))) else (if x1 = (0 : Int32) then (if ((up2 u 0 0 (0 : Int32)) 0 23) ≤ (0 : Int32) then ((f_m_lightOf (up2 u 0 0 (0 : Int32)) (x0.toNatClampNeg)), (up2 u 0 0 (0 : Int32))) else ((3 : Int32), (up2 u 0 0 (0 : Int32)))) else (if x1 = (1 : Int32) then (if ((up2 u 0 0 (0 : Int32)) 11 ((x0 / (4 : Int32)).toNatClampNeg)) = x0 then (if ((up2 u 0 0 (0 : Int32)) 17 ((x0 / (4 : Int32)).toNatClampNeg)) ≤ (0 : Int32) then (if ((up2 u 0 0 (0 : Int32)) 18 ((x0 / (4 : Int32)).toNatClampNeg)) ≤ (0 : Int32) then ((0 : Int32), (up2 u 0 0 (0 : Int32))) else ((2 : Int32), (up2 u 0 0 (0 : Int32)))) else ((1 : Int32), (up2 u 0 0 (0 : Int32)))) else ((0 : Int32), (up2 u 0 0 (0 : Int32)))) else (if x1 = (2 : Int32) then (if (f_m_isCalled (up2 u 0 0 (0 : Int32)) (x0.toNatClampNeg)) = (0 : Int32) then ((0 : Int32), (up2 u 0 0 (0 : Int32))) else ((1 : Int32), (up2 u 0 0 (0 : Int32)))) else (if x1 = (3 : Int32) then (((up2 u 0 0 (0 : Int32)) 6 (x0.toNatClampNeg)), (up2 u 0 0 (0 : Int32))) else (if x1 = (4 : Int32) then (((up2 u 0 0 (0 : Int32)) 7 (x0.toNatClampNeg)), (up2 u 0 0 (0 : Int32))) else (if x1 = (5 : Int32) then (((up2 u 0 0 (0 : Int32)) 8 (x0.toNatClampNeg)), (up2 u 0 0 (0 : Int32))) else (if x1 = (6 : Int32) then (if ((up2 u 0 0 (0 : Int32)) 3 (x0.toNatClampNeg)) = (0 : Int32) then ((0 : Int32), (up2 u 0 0 (0 : Int32))) else ((1 : Int32), (up2 u 0 0 (0 : Int32)))) else (if x1 = (7 : Int32) then (if ((up2 u 0 0 (0 : Int32)) 4 (x0.toNatClampNeg)) = (0 : Int32) then ((0 : Int32), (up2 u 0 0 (0 : Int32))) else ((1 : Int32), (up2 u 0 0 (0 : Int32)))) else (if x1 = (8 : Int32) then (if ((up2 u 0 0 (0 : Int32)) 5 (x0.toNatClampNeg)) = (0 : Int32) then ((0 : Int32), (up2 u 0 0 (0 : Int32))) else ((1 : Int32), (up2 u 0 0 (0 : Int32)))) else ((-1 : Int32), (up2 u 0 0 (0 : Int32)))))))))))))
def g_m_of (u : St) (x0 : Int32) (x1 : Int32) : Prop := (((f_m_isMovement x0) = (0 : Int32) → True) ∧ (¬ (f_m_isMovement x0) = (0 : Int32) → ((x1 = (0 : Int32) → ((((up2 u 0 0 (0 : Int32)) 0 23) ≤ (0 : Int32) → (vp_in x0 8)) ∧ (¬ ((up2 u 0 0 (0 : Int32)) 0 23) ≤ (0 : Int32) → True))) ∧ (¬ x1 = (0 : Int32) → ((x1 = (1 : Int32) → (vp_in (x0 / (4 : Int32)) 2)) ∧ (¬ x1 = (1 : Int32) → ((x1 = (2 : Int32) → (vp_in x0 8)) ∧ (¬ x1 = (2 : Int32) → ((x1 = (3 : Int32) → (vp_in x0 8)) ∧ (¬ x1 = (3 : Int32) → ((x1 = (4 : Int32) → (vp_in x0 8)) ∧ (¬ x1 = (4 : Int32) → ((x1 = (5 : Int32) → (vp_in x0 8)) ∧ (¬ x1 = (5 : Int32) → ((x1 = (6 : Int32) → (vp_in x0 8)) ∧ (¬ x1 = (6 : Int32) → ((x1 = (7 : Int32) → (vp_in x0 8)) ∧ (¬ x1 = (7 : Int32) → ((x1 = (8 : Int32) → (vp_in x0 8)) ∧ (¬ x1 = (8 : Int32) → True))))))))))))))))))))
set_option maxRecDepth 20000 in
set_option maxHeartbeats 1000000 in
theorem w_m_of_0 {F : Int32 × St} {u : St} (B : jk_BI p l e R s m args below meth c cX4_of 4 RX4 TT .int D clA (tyl z) (rW z a) A Q rm_m_of F) (x0 : Int32) (x1 : Int32) (hE : f_m_of u x0 x1 = F) (hG : g_m_of u x0 x1) : JJ p l e R s m args below meth c 0 0 4 D clA (rW z a) A Q 0 [(0, .ref (a 0)), (1, .int x0), (2, .int x1)] u [] := by
  have C := B.1
  unfold f_m_of at hE
  unfold g_m_of at hG
  refine j_aload_n C 0 dX4_of_0 rfl ?_
  refine j_iconst C 0 dX4_of_1 ic_0 ?_
  refine j_put C kf_4 0 pl_md 0 (by decide) lk_4_71 rfl rfl rfl (Nat.le_of_ble_eq_true rfl) pu_md_thrown dX4_of_2 ?_
  refine j_iload_n C 1 dX4_of_5 rfl ?_
  refine j_cIS C B.2.1 (c_m_isMovement l D z a (up2 u 0 0 (0 : Int32)) x0) gv_4_83 dd_m_isMovement ⟨⟨rfl, rfl⟩, Nat.le_of_ble_eq_true rfl, Nat.le_of_ble_eq_true rfl⟩ rfl rfl (Nat.le_of_ble_eq_true rfl) dX4_of_6 ?_
  refine j_if_ne C 14 dX4_of_9 (by decide) (fun c1 => ?_) (fun c1 => ?_)
  · have hE := (if_neg c1).symm.trans hE
    have hG := hG.2 c1
    refine j_iload_n C 1 dX4_of_14 rfl ?_
    refine j_iconst C 4 dX4_of_15 ic_4 ?_
    refine j_idiv C (x0 / (4 : Int32)) dX4_of_16 (by decide) rfl ?_
    refine j_istore_n C dX4_of_17 (by decide) rfl ?_
    refine j_iload_n C 3 dX4_of_18 rfl ?_
    by_cases t0 : x1 = (0 : Int32)
    · have hE := (if_pos t0).symm.trans hE
      have hG := hG.1 t0
      refine j_tableIn C 68 dX4_of_19 (by rw [t0]; decide) (by rw [t0]; decide) (by rw [t0]; rfl) (by decide) ?_
      refine j_aload_n C 1 dX4_of_68 rfl ?_
      refine j_get C kf_4 0 pl_md 23 (by decide) lk_4_157 rfl dX4_of_69 ?_
      refine j_if_le C 79 dX4_of_72 (by decide) (fun c2 => ?_) (fun c2 => ?_)
      · have hE := (if_pos c2).symm.trans hE
        have hG := hG.1 c2
        refine j_aload_n C 1 dX4_of_79 rfl ?_
        refine j_iload_n C 2 dX4_of_80 rfl ?_
        have hv3 := hG
        have lhv3 := jk_lt hv3
        refine j_st (st' := [.int (nI (x0.toNatClampNeg)), .ref (a 0)]) (congrArg (fun x => ([.int x, .ref (a 0)] : List Value)) (jk_self hv3 (by decide))) ?_
        refine j_cIV C B.2.1 (c_m_lightOf l D z a (up2 u 0 0 (0 : Int32)) (x0.toNatClampNeg) (jk_lt hv3)) gv_4_147 dd_m_lightOf ⟨⟨rfl, rfl⟩, Nat.le_of_ble_eq_true rfl, Nat.le_of_ble_eq_true rfl⟩ 0 4 pl_md rfl rfl rfl rfl (Nat.le_of_ble_eq_true rfl) dX4_of_81 ?_
        exact B.2.2 _ _ _ _ dX4_of_84 rfl hE
      · have hE := (if_neg c2).symm.trans hE
        refine j_iconst C 3 dX4_of_75 ic_3 ?_
        refine j_goto C 84 dX4_of_76 (by decide) ?_
        exact B.2.2 _ _ _ _ dX4_of_84 rfl hE
    · have hE := (if_neg t0).symm.trans hE
      have hG := hG.2 t0
      by_cases t1 : x1 = (1 : Int32)
      · have hE := (if_pos t1).symm.trans hE
        have hG := hG.1 t1
        refine j_tableIn C 85 dX4_of_19 (by rw [t1]; decide) (by rw [t1]; decide) (by rw [t1]; rfl) (by decide) ?_
        refine j_aload_n C 1 dX4_of_85 rfl ?_
        refine j_get C kf_4 0 pl_md 11 (by decide) lk_4_41 rfl dX4_of_86 ?_
        refine j_iload_n C 0 dX4_of_89 rfl ?_
        have hv4 := hG
        have lhv4 := jk_lt hv4
        refine j_iald C 11 0 pl_a_now rfl ((x0 / (4 : Int32)).toNatClampNeg) (jk_self hv4 (by decide)) (jk_lt hv4) (by decide) dX4_of_90 ?_
        refine j_iload_n C 2 dX4_of_91 rfl ?_
        refine j_icmp_eq C 99 dX4_of_92 (by decide) (fun c5 => ?_) (fun c5 => ?_)
        · have hE := (if_pos c5).symm.trans hE
          refine j_aload_n C 1 dX4_of_99 rfl ?_
          refine j_get C kf_4 0 pl_md 17 (by decide) lk_4_59 rfl dX4_of_100 ?_
          refine j_iload_n C 0 dX4_of_103 rfl ?_
          refine j_iald C 17 0 pl_a_walking rfl ((x0 / (4 : Int32)).toNatClampNeg) (jk_self hv4 (by decide)) (jk_lt hv4) (by decide) dX4_of_104 ?_
          refine j_if_le C 112 dX4_of_105 (by decide) (fun c6 => ?_) (fun c6 => ?_)
          · have hE := (if_pos c6).symm.trans hE
            refine j_aload_n C 1 dX4_of_112 rfl ?_
            refine j_get C kf_4 0 pl_md 18 (by decide) lk_4_62 rfl dX4_of_113 ?_
            refine j_iload_n C 0 dX4_of_116 rfl ?_
            refine j_iald C 18 0 pl_a_clearing rfl ((x0 / (4 : Int32)).toNatClampNeg) (jk_self hv4 (by decide)) (jk_lt hv4) (by decide) dX4_of_117 ?_
            refine j_if_le C 125 dX4_of_118 (by decide) (fun c7 => ?_) (fun c7 => ?_)
            · have hE := (if_pos c7).symm.trans hE
              refine j_iconst C 0 dX4_of_125 ic_0 ?_
              exact B.2.2 _ _ _ _ dX4_of_126 rfl hE
            · have hE := (if_neg c7).symm.trans hE
              refine j_iconst C 2 dX4_of_121 ic_2 ?_
              refine j_goto C 126 dX4_of_122 (by decide) ?_
              exact B.2.2 _ _ _ _ dX4_of_126 rfl hE
          · have hE := (if_neg c6).symm.trans hE
            refine j_iconst C 1 dX4_of_108 ic_1 ?_
            refine j_goto C 126 dX4_of_109 (by decide) ?_
            exact B.2.2 _ _ _ _ dX4_of_126 rfl hE
        · have hE := (if_neg c5).symm.trans hE
          refine j_iconst C 0 dX4_of_95 ic_0 ?_
          refine j_goto C 126 dX4_of_96 (by decide) ?_
          exact B.2.2 _ _ _ _ dX4_of_126 rfl hE
      · have hE := (if_neg t1).symm.trans hE
        have hG := hG.2 t1
        by_cases t2 : x1 = (2 : Int32)
        · have hE := (if_pos t2).symm.trans hE
          have hG := hG.1 t2
          refine j_tableIn C 127 dX4_of_19 (by rw [t2]; decide) (by rw [t2]; decide) (by rw [t2]; rfl) (by decide) ?_
          refine j_aload_n C 1 dX4_of_127 rfl ?_
          refine j_iload_n C 2 dX4_of_128 rfl ?_
          have hv8 := hG
          have lhv8 := jk_lt hv8
          refine j_st (st' := [.int (nI (x0.toNatClampNeg)), .ref (a 0)]) (congrArg (fun x => ([.int x, .ref (a 0)] : List Value)) (jk_self hv8 (by decide))) ?_
          refine j_cIV C B.2.1 (c_m_isCalled l D z a (up2 u 0 0 (0 : Int32)) (x0.toNatClampNeg) (jk_lt hv8)) gv_4_100 dd_m_isCalled ⟨⟨rfl, rfl⟩, Nat.le_of_ble_eq_true rfl, Nat.le_of_ble_eq_true rfl⟩ 0 4 pl_md rfl rfl rfl rfl (Nat.le_of_ble_eq_true rfl) dX4_of_129 ?_
          refine j_if_eq C 139 dX4_of_132 (by decide) (fun c9 => ?_) (fun c9 => ?_)
          · have hE := (if_pos c9).symm.trans hE
            refine j_iconst C 0 dX4_of_139 ic_0 ?_
            exact B.2.2 _ _ _ _ dX4_of_140 rfl hE
          · have hE := (if_neg c9).symm.trans hE
            refine j_iconst C 1 dX4_of_135 ic_1 ?_
            refine j_goto C 140 dX4_of_136 (by decide) ?_
            exact B.2.2 _ _ _ _ dX4_of_140 rfl hE
        · have hE := (if_neg t2).symm.trans hE
          have hG := hG.2 t2
          by_cases t3 : x1 = (3 : Int32)
          · have hE := (if_pos t3).symm.trans hE
            have hG := hG.1 t3
            refine j_tableIn C 141 dX4_of_19 (by rw [t3]; decide) (by rw [t3]; decide) (by rw [t3]; rfl) (by decide) ?_
            refine j_aload_n C 1 dX4_of_141 rfl ?_
            refine j_get C kf_4 0 pl_md 6 (by decide) lk_4_26 rfl dX4_of_142 ?_
            refine j_iload_n C 2 dX4_of_145 rfl ?_
            have hv10 := hG
            have lhv10 := jk_lt hv10
            refine j_iald C 6 0 pl_a_waited rfl (x0.toNatClampNeg) (jk_self hv10 (by decide)) (jk_lt hv10) (by decide) dX4_of_146 ?_
            exact B.2.2 _ _ _ _ dX4_of_147 rfl hE
          · have hE := (if_neg t3).symm.trans hE
            have hG := hG.2 t3
            by_cases t4 : x1 = (4 : Int32)
            · have hE := (if_pos t4).symm.trans hE
              have hG := hG.1 t4
              refine j_tableIn C 148 dX4_of_19 (by rw [t4]; decide) (by rw [t4]; decide) (by rw [t4]; rfl) (by decide) ?_
              refine j_aload_n C 1 dX4_of_148 rfl ?_
              refine j_get C kf_4 0 pl_md 7 (by decide) lk_4_29 rfl dX4_of_149 ?_
              refine j_iload_n C 2 dX4_of_152 rfl ?_
              have hv11 := hG
              have lhv11 := jk_lt hv11
              refine j_iald C 7 0 pl_a_longest rfl (x0.toNatClampNeg) (jk_self hv11 (by decide)) (jk_lt hv11) (by decide) dX4_of_153 ?_
              exact B.2.2 _ _ _ _ dX4_of_154 rfl hE
            · have hE := (if_neg t4).symm.trans hE
              have hG := hG.2 t4
              by_cases t5 : x1 = (5 : Int32)
              · have hE := (if_pos t5).symm.trans hE
                have hG := hG.1 t5
                refine j_tableIn C 155 dX4_of_19 (by rw [t5]; decide) (by rw [t5]; decide) (by rw [t5]; rfl) (by decide) ?_
                refine j_aload_n C 1 dX4_of_155 rfl ?_
                refine j_get C kf_4 0 pl_md 8 (by decide) lk_4_32 rfl dX4_of_156 ?_
                refine j_iload_n C 2 dX4_of_159 rfl ?_
                have hv12 := hG
                have lhv12 := jk_lt hv12
                refine j_iald C 8 0 pl_a_greens rfl (x0.toNatClampNeg) (jk_self hv12 (by decide)) (jk_lt hv12) (by decide) dX4_of_160 ?_
                exact B.2.2 _ _ _ _ dX4_of_161 rfl hE
              · have hE := (if_neg t5).symm.trans hE
                have hG := hG.2 t5
                by_cases t6 : x1 = (6 : Int32)
                · have hE := (if_pos t6).symm.trans hE
                  have hG := hG.1 t6
                  refine j_tableIn C 162 dX4_of_19 (by rw [t6]; decide) (by rw [t6]; decide) (by rw [t6]; rfl) (by decide) ?_
                  refine j_aload_n C 1 dX4_of_162 rfl ?_
                  refine j_get C kf_4 0 pl_md 3 (by decide) lk_4_16 rfl dX4_of_163 ?_
                  refine j_iload_n C 2 dX4_of_166 rfl ?_
                  have hv13 := hG
                  have lhv13 := jk_lt hv13
                  refine j_zald C 3 1 pl_a_cars rfl (x0.toNatClampNeg) (jk_self hv13 (by decide)) (jk_lt hv13) (by decide) dX4_of_167 ?_
                  refine j_if_eq C 175 dX4_of_168 (by decide) (fun c14 => ?_) (fun c14 => ?_)
                  · have hE := (if_pos c14).symm.trans hE
                    refine j_iconst C 0 dX4_of_175 ic_0 ?_
                    exact B.2.2 _ _ _ _ dX4_of_176 rfl hE
                  · have hE := (if_neg c14).symm.trans hE
                    refine j_iconst C 1 dX4_of_171 ic_1 ?_
                    refine j_goto C 176 dX4_of_172 (by decide) ?_
                    exact B.2.2 _ _ _ _ dX4_of_176 rfl hE
                · have hE := (if_neg t6).symm.trans hE
                  have hG := hG.2 t6
                  by_cases t7 : x1 = (7 : Int32)
                  · have hE := (if_pos t7).symm.trans hE
                    have hG := hG.1 t7
                    refine j_tableIn C 177 dX4_of_19 (by rw [t7]; decide) (by rw [t7]; decide) (by rw [t7]; rfl) (by decide) ?_
                    refine j_aload_n C 1 dX4_of_177 rfl ?_
                    refine j_get C kf_4 0 pl_md 4 (by decide) lk_4_20 rfl dX4_of_178 ?_
                    refine j_iload_n C 2 dX4_of_181 rfl ?_
                    have hv15 := hG
                    have lhv15 := jk_lt hv15
                    refine j_zald C 4 1 pl_a_pushes rfl (x0.toNatClampNeg) (jk_self hv15 (by decide)) (jk_lt hv15) (by decide) dX4_of_182 ?_
                    refine j_if_eq C 190 dX4_of_183 (by decide) (fun c16 => ?_) (fun c16 => ?_)
                    · have hE := (if_pos c16).symm.trans hE
                      refine j_iconst C 0 dX4_of_190 ic_0 ?_
                      exact B.2.2 _ _ _ _ dX4_of_191 rfl hE
                    · have hE := (if_neg c16).symm.trans hE
                      refine j_iconst C 1 dX4_of_186 ic_1 ?_
                      refine j_goto C 191 dX4_of_187 (by decide) ?_
                      exact B.2.2 _ _ _ _ dX4_of_191 rfl hE
                  · have hE := (if_neg t7).symm.trans hE
                    have hG := hG.2 t7
                    by_cases t8 : x1 = (8 : Int32)
                    · have hE := (if_pos t8).symm.trans hE
                      have hG := hG.1 t8
                      refine j_tableIn C 192 dX4_of_19 (by rw [t8]; decide) (by rw [t8]; decide) (by rw [t8]; rfl) (by decide) ?_
                      refine j_aload_n C 1 dX4_of_192 rfl ?_
                      refine j_get C kf_4 0 pl_md 5 (by decide) lk_4_23 rfl dX4_of_193 ?_
                      refine j_iload_n C 2 dX4_of_196 rfl ?_
                      have hv17 := hG
                      have lhv17 := jk_lt hv17
                      refine j_zald C 5 1 pl_a_remembered rfl (x0.toNatClampNeg) (jk_self hv17 (by decide)) (jk_lt hv17) (by decide) dX4_of_197 ?_
                      refine j_if_eq C 205 dX4_of_198 (by decide) (fun c18 => ?_) (fun c18 => ?_)
                      · have hE := (if_pos c18).symm.trans hE
                        refine j_iconst C 0 dX4_of_205 ic_0 ?_
                        exact B.2.2 _ _ _ _ dX4_of_206 rfl hE
                      · have hE := (if_neg c18).symm.trans hE
                        refine j_iconst C 1 dX4_of_201 ic_1 ?_
                        refine j_goto C 206 dX4_of_202 (by decide) ?_
                        exact B.2.2 _ _ _ _ dX4_of_206 rfl hE
                    · have hE := (if_neg t8).symm.trans hE
                      refine j_tableOut C 207 dX4_of_19 (jk_out8 t0 t1 t2 t3 t4 t5 t6 t7 t8) (by decide) ?_
                      refine j_iconst C (-1) dX4_of_207 ic_m1 ?_
                      exact B.2.2 _ _ _ _ dX4_of_208 rfl hE
  · have hE := (if_pos c1).symm.trans hE
    refine j_iconst C (-1) dX4_of_12 ic_m1 ?_
    exact B.2.2 _ _ _ _ dX4_of_13 rfl hE
theorem c_m_of (l : Launch) (D : va_G) (z : Nat → ClassId) (a : Nat → Nat) (u : St) (x0 : Int32) (x1 : Int32) (hG : g_m_of u x0 x1) : CtI l yX4_of (.code yX4_of cX4_of 4 (some .int) :: TT) rm_m_of D clA (tyl z) (rW z a) [.ref (a 0), .int x0, .int x1] u (f_m_of u x0 x1).1 (f_m_of u x0 x1).2 :=
  jk_metI (own := RX4) (by decide) rfl (Nat.le_of_ble_eq_true rfl) (fun _ _ _ _ _ _ _ _ _ _ _ B => w_m_of_0 B x0 x1 rfl hG)
end WLK

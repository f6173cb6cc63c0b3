section WLK
variable {p : Program} {l : Launch} {e : Env} {R : Room} {s : State} {m : MethodId} {args : Array Value} {below : List Frame} {meth : Method} {c : Code} {D : va_G} {z : Nat → ClassId} {a : Nat → Nat} {A : Nat → Prop} {Q : State → Prop}
def rm_anyInTheWay : Room := { frames := 2, cells := 0, slots := 0, locals := 41 }
def f_anyInTheWay_12 (u : St)  (K : Int32) : Nat → Nat → Nat → Int32
  | 0, i, k1 => (K)
  | n + 1, i, k1 => (if (u 2 k1) = (0 : Int32) then (f_anyInTheWay_12 u K n (i + 1) k1) else (if (u 2 i) = (0 : Int32) then (f_anyInTheWay_12 u K n (i + 1) k1) else (if (f_areInWay k1 i) = (0 : Int32) then (f_anyInTheWay_12 u K n (i + 1) k1) else (1 : Int32))))
set_option maxRecDepth 20000 in
set_option maxHeartbeats 1000000 in
theorem w_anyInTheWay_12 {Fr : Int32} {u : St} (B : jk_BI p l e R s m args below meth c cX3_anyInTheWay 3 RX3 TT .boolean D clA (tyl z) (cW z a) A Q rm_anyInTheWay (Fr, u))  {k1 : Nat} (hk1 : k1 < 8) (K : Int32) (hK : K = Fr → JJ p l e R s m args below meth c 0 0 3 D clA (cW z a) A Q 46 [(1, .int (nI k1)), (0, .ref (a 4))] u []) : ∀ (n i : Nat), i + n = 8 → f_anyInTheWay_12 u K n i k1 = Fr → JJ p l e R s m args below meth c 0 0 3 D clA (cW z a) A Q 12 [(2, .int (nI i)), (1, .int (nI k1)), (0, .ref (a 4))] u [] := by
  have C := B.1
  intro n
  induction n with
  | zero =>
    intro i hin hE
    obtain rfl : i = 8 := by omega
    have hge : (8 : Int32) ≤ nI 8 := by decide
    refine j_iload_n C 0 dX3_anyInTheWay_12 rfl ?_
    refine j_bipush C 8 dX3_anyInTheWay_13 bp_8 ?_
    refine j_icmp_ge C 46 dX3_anyInTheWay_15 (by decide) (fun _ => ?_) (fun hq => absurd hge hq)
    refine j_lv [1, 2] rfl ?_
    exact hK hE
  | succ n ih =>
    intro i hin hE
    have hlt : i < 8 := by omega
    have hnge : ¬ (8 : Int32) ≤ nI i := lt8 i hlt
    refine j_iload_n C 0 dX3_anyInTheWay_12 rfl ?_
    refine j_bipush C 8 dX3_anyInTheWay_13 bp_8 ?_
    refine j_icmp_ge C 46 dX3_anyInTheWay_15 (by decide) (fun hq => absurd hq hnge) (fun _ => ?_)
    refine j_aload_n C 2 dX3_anyInTheWay_18 rfl ?_
    refine j_iload_n C 1 dX3_anyInTheWay_19 rfl ?_
    refine j_iald C 4 0 pl_lights rfl k1 rfl hk1 (by decide) dX3_anyInTheWay_20 ?_
    refine j_if_eq C 40 dX3_anyInTheWay_21 (by decide) (fun c1 => ?_) (fun c1 => ?_)
    · have hE := (if_pos c1).symm.trans hE
      refine j_iinc C 0 (nI (i + 1)) dX3_anyInTheWay_40 rfl (nI_1 _) (by decide) rfl ?_
      refine j_goto C 12 dX3_anyInTheWay_43 (by decide) ?_
      exact ih (i + 1) (by omega) hE
    · have hE := (if_neg c1).symm.trans hE
      refine j_aload_n C 2 dX3_anyInTheWay_24 rfl ?_
      refine j_iload_n C 0 dX3_anyInTheWay_25 rfl ?_
      refine j_iald C 4 0 pl_lights rfl i rfl hlt (by decide) dX3_anyInTheWay_26 ?_
      refine j_if_eq C 40 dX3_anyInTheWay_27 (by decide) (fun c2 => ?_) (fun c2 => ?_)
      · have hE := (if_pos c2).symm.trans hE
        refine j_iinc C 0 (nI (i + 1)) dX3_anyInTheWay_40 rfl (nI_1 _) (by decide) rfl ?_
        refine j_goto C 12 dX3_anyInTheWay_43 (by decide) ?_
        exact ih (i + 1) (by omega) hE
      · have hE := (if_neg c2).symm.trans hE
        refine j_iload_n C 1 dX3_anyInTheWay_30 rfl ?_
        refine j_iload_n C 0 dX3_anyInTheWay_31 rfl ?_
        refine j_cIS C B.2.1 (c_areInWay l D z a u k1 i hk1 hlt) gv_3_252 dd_areInWay ⟨⟨rfl, rfl⟩, Nat.le_of_ble_eq_true rfl, Nat.le_of_ble_eq_true rfl⟩ rfl rfl (Nat.le_of_ble_eq_true rfl) dX3_anyInTheWay_32 ?_
        refine j_if_eq C 40 dX3_anyInTheWay_35 (by decide) (fun c3 => ?_) (fun c3 => ?_)
        · have hE := (if_pos c3).symm.trans hE
          refine j_iinc C 0 (nI (i + 1)) dX3_anyInTheWay_40 rfl (nI_1 _) (by decide) rfl ?_
          refine j_goto C 12 dX3_anyInTheWay_43 (by decide) ?_
          exact ih (i + 1) (by omega) hE
        · have hE := (if_neg c3).symm.trans hE
          refine j_iconst C 1 dX3_anyInTheWay_38 ic_1 ?_
          exact B.2.2 _ _ _ _ dX3_anyInTheWay_39 rfl (congrArg (fun x => (x, u)) hE)
def f_anyInTheWay_2 (u : St)  : Nat → Nat → Int32
  | 0, i => (0 : Int32)
  | n + 1, i => (f_anyInTheWay_12 u (f_anyInTheWay_2 u n (i + 1)) (8 - (i + 1)) (i + 1) i)
set_option maxRecDepth 20000 in
set_option maxHeartbeats 1000000 in
theorem w_anyInTheWay_2 {Fr : Int32} {u : St} (B : jk_BI p l e R s m args below meth c cX3_anyInTheWay 3 RX3 TT .boolean D clA (tyl z) (cW z a) A Q rm_anyInTheWay (Fr, u))  : ∀ (n i : Nat), i + n = 8 → f_anyInTheWay_2 u n i = Fr → JJ p l e R s m args below meth c 0 0 3 D clA (cW z a) A Q 2 [(1, .int (nI i)), (0, .ref (a 4))] u [] := by
  have C := B.1
  intro n
  induction n with
  | zero =>
    intro i hin hE
    obtain rfl : i = 8 := by omega
    have hge : (8 : Int32) ≤ nI 8 := by decide
    refine j_iload_n C 0 dX3_anyInTheWay_2 rfl ?_
    refine j_bipush C 8 dX3_anyInTheWay_3 bp_8 ?_
    refine j_icmp_ge C 52 dX3_anyInTheWay_5 (by decide) (fun _ => ?_) (fun hq => absurd hge hq)
    refine j_iconst C 0 dX3_anyInTheWay_52 ic_0 ?_
    exact B.2.2 _ _ _ _ dX3_anyInTheWay_53 rfl (congrArg (fun x => (x, u)) hE)
  | succ n ih =>
    intro i hin hE
    have hlt : i < 8 := by omega
    have hnge : ¬ (8 : Int32) ≤ nI i := lt8 i hlt
    refine j_iload_n C 0 dX3_anyInTheWay_2 rfl ?_
    refine j_bipush C 8 dX3_anyInTheWay_3 bp_8 ?_
    refine j_icmp_ge C 52 dX3_anyInTheWay_5 (by decide) (fun hq => absurd hq hnge) (fun _ => ?_)
    refine j_iload_n C 0 dX3_anyInTheWay_8 rfl ?_
    refine j_iconst C 1 dX3_anyInTheWay_9 ic_1 ?_
    refine j_iadd C dX3_anyInTheWay_10 ?_
    refine j_st (st' := [.int (nI (i + 1))]) (by rw [show (1 : Int32) = nI 1 from rfl, nI_add]) ?_
    refine j_istore_n C dX3_anyInTheWay_11 (by decide) rfl ?_
    refine w_anyInTheWay_12 B hlt (f_anyInTheWay_2 u n (i + 1)) (fun hE => ?_) (8 - (i + 1)) (i + 1) (by omega) hE
    refine j_iinc C 0 (nI (i + 1)) dX3_anyInTheWay_46 rfl (nI_1 _) (by decide) rfl ?_
    refine j_goto C 2 dX3_anyInTheWay_49 (by decide) ?_
    exact ih (i + 1) (by omega) hE
def f_anyInTheWay (u : St)  : Int32 := (f_anyInTheWay_2 u 8 0)
set_option maxRecDepth 20000 in
set_option maxHeartbeats 1000000 in
theorem w_anyInTheWay_0 {Fr : Int32} {u : St} (B : jk_BI p l e R s m args below meth c cX3_anyInTheWay 3 RX3 TT .boolean D clA (tyl z) (cW z a) A Q rm_anyInTheWay (Fr, u))  (hE : f_anyInTheWay u = Fr) : JJ p l e R s m args below meth c 0 0 3 D clA (cW z a) A Q 0 [(0, .ref (a 4))] u [] := by
  have C := B.1
  unfold f_anyInTheWay at hE
  refine j_iconst C 0 dX3_anyInTheWay_0 ic_0 ?_
  refine j_istore_n C dX3_anyInTheWay_1 (by decide) rfl ?_
  refine j_lq (congrArg (fun x => ([(1, .int x), (0, .ref (a 4))] : List (Nat × Value))) ix_0) ?_
  exact w_anyInTheWay_2 B 8 0 (by omega) hE
theorem c_anyInTheWay (l : Launch) (D : va_G) (z : Nat → ClassId) (a : Nat → Nat) (u : St)  : CtI l yX3_anyInTheWay (.code yX3_anyInTheWay cX3_anyInTheWay 3 (some .boolean) :: TT) rm_anyInTheWay D clA (tyl z) (cW z a) [.ref (a 4)] u (f_anyInTheWay u) u :=
  jk_metI (own := RX3) (by decide) rfl (Nat.le_of_ble_eq_true rfl) (fun _ _ _ _ _ _ _ _ _ _ _ B => w_anyInTheWay_0 B rfl)
def rm_G_hadShortYellow : Room := { frames := 0, cells := 0, slots := 0, locals := 0 }
def f_G_hadShortYellow (u : St) (k0 : Nat) : Int32 := (if (u 3 k0) = (1 : Int32) then (if (3 : Int32) ≤ (u 4 k0) then (0 : Int32) else (1 : Int32)) else (0 : Int32))
set_option maxRecDepth 20000 in
set_option maxHeartbeats 1000000 in
theorem w_G_hadShortYellow_0 {Fr : Int32} {u : St} (B : jk_BI p l e R s m args below meth c cX0_hadShortYellow 2 RX0 TT .boolean D clA (tyl z) (cW z a) A Q rm_G_hadShortYellow (Fr, u)) {k0 : Nat} (hk0 : k0 < 8) (hE : f_G_hadShortYellow u k0 = Fr) : JJ p l e R s m args below meth c 0 0 2 D clA (cW z a) A Q 0 [(0, .ref (a 3)), (1, .int (nI k0))] u [] := by
  have C := B.1
  unfold f_G_hadShortYellow at hE
  refine j_aload_n C 0 dX0_hadShortYellow_0 rfl ?_
  refine j_get C kf_0 3 pl_guard 0 (by decide) lk_0_9 rfl dX0_hadShortYellow_1 ?_
  refine j_iload_n C 1 dX0_hadShortYellow_4 rfl ?_
  refine j_iald C 5 0 pl_last rfl k0 rfl hk0 (by decide) dX0_hadShortYellow_5 ?_
  refine j_iconst C 1 dX0_hadShortYellow_6 ic_1 ?_
  refine j_icmp_ne C 24 dX0_hadShortYellow_7 (by decide) (fun c1 => ?_) (fun c1 => ?_)
  · have hE := (if_neg c1).symm.trans hE
    refine j_iconst C 0 dX0_hadShortYellow_24 ic_0 ?_
    exact B.2.2 _ _ _ _ dX0_hadShortYellow_25 rfl (congrArg (fun x => (x, u)) hE)
  · have hE := (if_pos c1).symm.trans hE
    refine j_aload_n C 0 dX0_hadShortYellow_10 rfl ?_
    refine j_get C kf_0 3 pl_guard 1 (by decide) lk_0_15 rfl dX0_hadShortYellow_11 ?_
    refine j_iload_n C 1 dX0_hadShortYellow_14 rfl ?_
    refine j_iald C 6 0 pl_yel rfl k0 rfl hk0 (by decide) dX0_hadShortYellow_15 ?_
    refine j_iconst C 3 dX0_hadShortYellow_16 ic_3 ?_
    refine j_icmp_ge C 24 dX0_hadShortYellow_17 (by decide) (fun c2 => ?_) (fun c2 => ?_)
    · have hE := (if_pos c2).symm.trans hE
      refine j_iconst C 0 dX0_hadShortYellow_24 ic_0 ?_
      exact B.2.2 _ _ _ _ dX0_hadShortYellow_25 rfl (congrArg (fun x => (x, u)) hE)
    · have hE := (if_neg c2).symm.trans hE
      refine j_iconst C 1 dX0_hadShortYellow_20 ic_1 ?_
      refine j_goto C 25 dX0_hadShortYellow_21 (by decide) ?_
      exact B.2.2 _ _ _ _ dX0_hadShortYellow_25 rfl (congrArg (fun x => (x, u)) hE)
theorem c_G_hadShortYellow (l : Launch) (D : va_G) (z : Nat → ClassId) (a : Nat → Nat) (u : St) (k0 : Nat) (hk0 : k0 < 8) : CtI l yX0_hadShortYellow (.code yX0_hadShortYellow cX0_hadShortYellow 2 (some .boolean) :: TT) rm_G_hadShortYellow D clA (tyl z) (cW z a) [.ref (a 3), .int (nI k0)] u (f_G_hadShortYellow u k0) u :=
  jk_metI (own := RX0) (by decide) rfl (Nat.le_of_ble_eq_true rfl) (fun _ _ _ _ _ _ _ _ _ _ _ B => w_G_hadShortYellow_0 B hk0 rfl)
def rm_G_leastFault : Room := { frames := 1, cells := 0, slots := 0, locals := 21 }
def f_G_leastFault_18 (u : St) (b0 : Int32) : Nat → Nat → Int32 → Int32
  | 0, i, x9 => x9
  | n + 1, i, x9 => (if (u 2 i) = (0 : Int32) then (if (u 3 i) = (2 : Int32) then (2 : Int32) else (if (u 2 i) = (0 : Int32) then (if (f_G_hadShortYellow u i) = (0 : Int32) then (f_G_leastFault_18 u b0 n (i + 1) x9) else (f_G_leastFault_18 u b0 n (i + 1) (3 : Int32))) else (f_G_leastFault_18 u b0 n (i + 1) x9))) else (if (u 2 i) = (0 : Int32) then (if (f_G_hadShortYellow u i) = (0 : Int32) then (f_G_leastFault_18 u b0 n (i + 1) x9) else (f_G_leastFault_18 u b0 n (i + 1) (3 : Int32))) else (f_G_leastFault_18 u b0 n (i + 1) x9)))
set_option maxRecDepth 20000 in
set_option maxHeartbeats 1000000 in
theorem w_G_leastFault_18 {Fr : Int32} {u : St} (B : jk_BI p l e R s m args below meth c cX0_leastFault 5 RX0 TT .int D clA (tyl z) (cW z a) A Q rm_G_leastFault (Fr, u)) (b0 : Int32) : ∀ (n i : Nat) (x9 : Int32), i + n = 8 → f_G_leastFault_18 u b0 n i x9 = Fr → JJ p l e R s m args below meth c 0 0 5 D clA (cW z a) A Q 18 [(4, .int (nI i)), (3, .int x9), (0, .ref (a 3)), (1, .ref (a 4)), (2, .int b0)] u [] := by
  have C := B.1
  intro n
  induction n with
  | zero =>
    intro i x9 hin hE
    obtain rfl : i = 8 := by omega
    have hge : (8 : Int32) ≤ nI 8 := by decide
    refine j_iload C 0 dX0_leastFault_18 rfl ?_
    refine j_bipush C 8 dX0_leastFault_20 bp_8 ?_
    refine j_icmp_ge C 69 dX0_leastFault_22 (by decide) (fun _ => ?_) (fun hq => absurd hge hq)
    refine j_iload_n C 1 dX0_leastFault_69 rfl ?_
    exact B.2.2 _ _ _ _ dX0_leastFault_70 rfl (congrArg (fun x => (x, u)) hE)
  | succ n ih =>
    intro i x9 hin hE
    have hlt : i < 8 := by omega
    have hnge : ¬ (8 : Int32) ≤ nI i := lt8 i hlt
    refine j_iload C 0 dX0_leastFault_18 rfl ?_
    refine j_bipush C 8 dX0_leastFault_20 bp_8 ?_
    refine j_icmp_ge C 69 dX0_leastFault_22 (by decide) (fun hq => absurd hq hnge) (fun _ => ?_)
    refine j_aload_n C 3 dX0_leastFault_25 rfl ?_
    refine j_iload C 0 dX0_leastFault_26 rfl ?_
    refine j_iald C 4 0 pl_lights rfl i rfl hlt (by decide) dX0_leastFault_28 ?_
    refine j_if_ne C 45 dX0_leastFault_29 (by decide) (fun c1 => ?_) (fun c1 => ?_)
    · have hE := (if_neg c1).symm.trans hE
      refine j_aload_n C 3 dX0_leastFault_45 rfl ?_
      refine j_iload C 0 dX0_leastFault_46 rfl ?_
      refine j_iald C 4 0 pl_lights rfl i rfl hlt (by decide) dX0_leastFault_48 ?_
      refine j_if_ne C 63 dX0_leastFault_49 (by decide) (fun c2 => ?_) (fun c2 => ?_)
      · have hE := (if_neg c2).symm.trans hE
        refine j_iinc C 0 (nI (i + 1)) dX0_leastFault_63 rfl (nI_1 _) (by decide) rfl ?_
        refine j_goto C 18 dX0_leastFault_66 (by decide) ?_
        exact ih (i + 1) x9 (by omega) hE
      · have hE := (if_pos c2).symm.trans hE
        refine j_aload_n C 2 dX0_leastFault_52 rfl ?_
        refine j_iload C 0 dX0_leastFault_53 rfl ?_
        refine j_cIV C B.2.1 (c_G_hadShortYellow l D z a u i hlt) gv_0_34 dd_G_hadShortYellow ⟨⟨rfl, rfl⟩, Nat.le_of_ble_eq_true rfl, Nat.le_of_ble_eq_true rfl⟩ 3 0 pl_guard rfl rfl rfl rfl (Nat.le_of_ble_eq_true rfl) dX0_leastFault_55 ?_
        refine j_if_eq C 63 dX0_leastFault_58 (by decide) (fun c3 => ?_) (fun c3 => ?_)
        · have hE := (if_pos c3).symm.trans hE
          refine j_iinc C 0 (nI (i + 1)) dX0_leastFault_63 rfl (nI_1 _) (by decide) rfl ?_
          refine j_goto C 18 dX0_leastFault_66 (by decide) ?_
          exact ih (i + 1) x9 (by omega) hE
        · have hE := (if_neg c3).symm.trans hE
          refine j_iconst C 3 dX0_leastFault_61 ic_3 ?_
          refine j_istore_n C dX0_leastFault_62 (by decide) rfl ?_
          refine j_iinc C 1 (nI (i + 1)) dX0_leastFault_63 rfl (nI_1 _) (by decide) rfl ?_
          refine j_goto C 18 dX0_leastFault_66 (by decide) ?_
          exact ih (i + 1) (3 : Int32) (by omega) hE
    · have hE := (if_pos c1).symm.trans hE
      refine j_aload_n C 2 dX0_leastFault_32 rfl ?_
      refine j_get C kf_0 3 pl_guard 0 (by decide) lk_0_9 rfl dX0_leastFault_33 ?_
      refine j_iload C 0 dX0_leastFault_36 rfl ?_
      refine j_iald C 5 0 pl_last rfl i rfl hlt (by decide) dX0_leastFault_38 ?_
      refine j_iconst C 2 dX0_leastFault_39 ic_2 ?_
      refine j_icmp_ne C 45 dX0_leastFault_40 (by decide) (fun c4 => ?_) (fun c4 => ?_)
      · have hE := (if_neg c4).symm.trans hE
        refine j_aload_n C 3 dX0_leastFault_45 rfl ?_
        refine j_iload C 0 dX0_leastFault_46 rfl ?_
        refine j_iald C 4 0 pl_lights rfl i rfl hlt (by decide) dX0_leastFault_48 ?_
        refine j_if_ne C 63 dX0_leastFault_49 (by decide) (fun c5 => ?_) (fun c5 => ?_)
        · have hE := (if_neg c5).symm.trans hE
          refine j_iinc C 0 (nI (i + 1)) dX0_leastFault_63 rfl (nI_1 _) (by decide) rfl ?_
          refine j_goto C 18 dX0_leastFault_66 (by decide) ?_
          exact ih (i + 1) x9 (by omega) hE
        · have hE := (if_pos c5).symm.trans hE
          refine j_aload_n C 2 dX0_leastFault_52 rfl ?_
          refine j_iload C 0 dX0_leastFault_53 rfl ?_
          refine j_cIV C B.2.1 (c_G_hadShortYellow l D z a u i hlt) gv_0_34 dd_G_hadShortYellow ⟨⟨rfl, rfl⟩, Nat.le_of_ble_eq_true rfl, Nat.le_of_ble_eq_true rfl⟩ 3 0 pl_guard rfl rfl rfl rfl (Nat.le_of_ble_eq_true rfl) dX0_leastFault_55 ?_
          refine j_if_eq C 63 dX0_leastFault_58 (by decide) (fun c6 => ?_) (fun c6 => ?_)
          · have hE := (if_pos c6).symm.trans hE
            refine j_iinc C 0 (nI (i + 1)) dX0_leastFault_63 rfl (nI_1 _) (by decide) rfl ?_
            refine j_goto C 18 dX0_leastFault_66 (by decide) ?_
            exact ih (i + 1) x9 (by omega) hE
          · have hE := (if_neg c6).symm.trans hE
            refine j_iconst C 3 dX0_leastFault_61 ic_3 ?_
            refine j_istore_n C dX0_leastFault_62 (by decide) rfl ?_
            refine j_iinc C 1 (nI (i + 1)) dX0_leastFault_63 rfl (nI_1 _) (by decide) rfl ?_
            refine j_goto C 18 dX0_leastFault_66 (by decide) ?_
            exact ih (i + 1) (3 : Int32) (by omega) hE
      · have hE := (if_pos c4).symm.trans hE
        refine j_iconst C 2 dX0_leastFault_43 ic_2 ?_
        exact B.2.2 _ _ _ _ dX0_leastFault_44 rfl (congrArg (fun x => (x, u)) hE)
def f_G_leastFault (u : St) (b0 : Int32) : Int32 := (if b0 = (0 : Int32) then (f_G_leastFault_18 u b0 8 0 (0 : Int32)) else (if (u 1 1) = (0 : Int32) then (f_G_leastFault_18 u b0 8 0 (0 : Int32)) else (1 : Int32)))
set_option maxRecDepth 20000 in
set_option maxHeartbeats 1000000 in
theorem w_G_leastFault_0 {Fr : Int32} {u : St} (B : jk_BI p l e R s m args below meth c cX0_leastFault 5 RX0 TT .int D clA (tyl z) (cW z a) A Q rm_G_leastFault (Fr, u)) (b0 : Int32) (hE : f_G_leastFault u b0 = Fr) : JJ p l e R s m args below meth c 0 0 5 D clA (cW z a) A Q 0 [(0, .ref (a 3)), (1, .ref (a 4)), (2, .int b0)] u [] := by
  have C := B.1
  unfold f_G_leastFault at hE
  refine j_iload_n C 2 dX0_leastFault_0 rfl ?_
  refine j_if_eq C 13 dX0_leastFault_1 (by decide) (fun c1 => ?_) (fun c1 => ?_)
  · have hE := (if_pos c1).symm.trans hE
    refine j_iconst C 0 dX0_leastFault_13 ic_0 ?_
    refine j_istore_n C dX0_leastFault_14 (by decide) rfl ?_
    refine j_iconst C 0 dX0_leastFault_15 ic_0 ?_
    refine j_istore C dX0_leastFault_16 (by decide) rfl ?_
    refine j_lq (congrArg (fun x => ([(4, .int x), (3, .int 0), (0, .ref (a 3)), (1, .ref (a 4)), (2, .int b0)] : List (Nat × Value))) ix_0) ?_
    exact w_G_leastFault_18 B b0 8 0 (0 : Int32) (by omega) hE
  · have hE := (if_neg c1).symm.trans hE
    refine j_aload_n C 0 dX0_leastFault_4 rfl ?_
    refine j_get C kf_0 3 pl_guard 2 (by decide) lk_0_18 rfl dX0_leastFault_5 ?_
    refine j_if_eq C 13 dX0_leastFault_8 (by decide) (fun c2 => ?_) (fun c2 => ?_)
    · have hE := (if_pos c2).symm.trans hE
      refine j_iconst C 0 dX0_leastFault_13 ic_0 ?_
      refine j_istore_n C dX0_leastFault_14 (by decide) rfl ?_
      refine j_iconst C 0 dX0_leastFault_15 ic_0 ?_
      refine j_istore C dX0_leastFault_16 (by decide) rfl ?_
      refine j_lq (congrArg (fun x => ([(4, .int x), (3, .int 0), (0, .ref (a 3)), (1, .ref (a 4)), (2, .int b0)] : List (Nat × Value))) ix_0) ?_
      exact w_G_leastFault_18 B b0 8 0 (0 : Int32) (by omega) hE
    · have hE := (if_neg c2).symm.trans hE
      refine j_iconst C 1 dX0_leastFault_11 ic_1 ?_
      exact B.2.2 _ _ _ _ dX0_leastFault_12 rfl (congrArg (fun x => (x, u)) hE)
theorem c_G_leastFault (l : Launch) (D : va_G) (z : Nat → ClassId) (a : Nat → Nat) (u : St) (b0 : Int32) : CtI l yX0_leastFault (.code yX0_leastFault cX0_leastFault 5 (some .int) :: TT) rm_G_leastFault D clA (tyl z) (cW z a) [.ref (a 3), .ref (a 4), .int b0] u (f_G_leastFault u b0) u :=
  jk_metI (own := RX0) (by decide) rfl (Nat.le_of_ble_eq_true rfl) (fun _ _ _ _ _ _ _ _ _ _ _ B => w_G_leastFault_0 B b0 rfl)
def rm_G_look : Room := { frames := 3, cells := 0, slots := 0, locals := 63 }
def f_G_look_22  : Nat → Nat → St → St
  | 0, i, u => u
  | n + 1, i, u => (if ((up2 u 3 i (u 2 i)) 2 i) = (1 : Int32) then (f_G_look_22 n (i + 1) (up2 (up2 u 3 i (u 2 i)) 4 i (((up2 u 3 i (u 2 i)) 4 i) + (1 : Int32)))) else (f_G_look_22 n (i + 1) (up2 (up2 u 3 i (u 2 i)) 4 i (0 : Int32))))
set_option maxRecDepth 20000 in
set_option maxHeartbeats 1000000 in
theorem w_G_look_22 {F : St} (B : jk_BV p l e R s m args below meth c cX0_look 4 RX0 TT D clA (tyl z) (cW z a) A Q rm_G_look F)  : ∀ (n i : Nat) (u : St), i + n = 8 → f_G_look_22 n i u = F → JJ p l e R s m args below meth c 0 0 4 D clA (cW z a) A Q 22 [(3, .int (nI i)), (0, .ref (a 3)), (1, .ref (a 4))] u [] := by
  have C := B.1
  intro n
  induction n with
  | zero =>
    intro i u hin hE
    obtain rfl : i = 8 := by omega
    have hge : (8 : Int32) ≤ nI 8 := by decide
    refine j_iload_n C 0 dX0_look_22 rfl ?_
    refine j_bipush C 8 dX0_look_23 bp_8 ?_
    refine j_icmp_ge C 68 dX0_look_25 (by decide) (fun _ => ?_) (fun hq => absurd hge hq)
    exact B.2.2 _ _ _ dX0_look_68 hE
  | succ n ih =>
    intro i u hin hE
    have hlt : i < 8 := by omega
    have hnge : ¬ (8 : Int32) ≤ nI i := lt8 i hlt
    refine j_iload_n C 0 dX0_look_22 rfl ?_
    refine j_bipush C 8 dX0_look_23 bp_8 ?_
    refine j_icmp_ge C 68 dX0_look_25 (by decide) (fun hq => absurd hq hnge) (fun _ => ?_)
    refine j_aload_n C 1 dX0_look_28 rfl ?_
    refine j_get C kf_0 3 pl_guard 0 (by decide) lk_0_9 rfl dX0_look_29 ?_
    refine j_iload_n C 0 dX0_look_32 rfl ?_
    refine j_aload_n C 2 dX0_look_33 rfl ?_
    refine j_iload_n C 0 dX0_look_34 rfl ?_
    refine j_iald C 4 0 pl_lights rfl i rfl hlt (by decide) dX0_look_35 ?_
    refine j_iast C 5 0 pl_last rfl i rfl hlt (by decide) pu_last dX0_look_36 ?_
    refine j_aload_n C 1 dX0_look_37 rfl ?_
    refine j_get C kf_0 3 pl_guard 1 (by decide) lk_0_15 rfl dX0_look_38 ?_
    refine j_iload_n C 0 dX0_look_41 rfl ?_
    refine j_aload_n C 2 dX0_look_42 rfl ?_
    refine j_iload_n C 0 dX0_look_43 rfl ?_
    refine j_iald C 4 0 pl_lights rfl i rfl hlt (by decide) dX0_look_44 ?_
    refine j_iconst C 1 dX0_look_45 ic_1 ?_
    refine j_icmp_ne C 60 dX0_look_46 (by decide) (fun c1 => ?_) (fun c1 => ?_)
    · have hE := (if_neg c1).symm.trans hE
      refine j_iconst C 0 dX0_look_60 ic_0 ?_
      refine j_iast C 6 0 pl_yel rfl i rfl hlt (by decide) pu_yel dX0_look_61 ?_
      refine j_iinc C 0 (nI (i + 1)) dX0_look_62 rfl (nI_1 _) (by decide) rfl ?_
      refine j_goto C 22 dX0_look_65 (by decide) ?_
      exact ih (i + 1) (up2 (up2 u 3 i (u 2 i)) 4 i (0 : Int32)) (by omega) hE
    · have hE := (if_pos c1).symm.trans hE
      refine j_aload_n C 1 dX0_look_49 rfl ?_
      refine j_get C kf_0 3 pl_guard 1 (by decide) lk_0_15 rfl dX0_look_50 ?_
      refine j_iload_n C 0 dX0_look_53 rfl ?_
      refine j_iald C 6 0 pl_yel rfl i rfl hlt (by decide) dX0_look_54 ?_
      refine j_iconst C 1 dX0_look_55 ic_1 ?_
      refine j_iadd C dX0_look_56 ?_
      refine j_goto C 61 dX0_look_57 (by decide) ?_
      refine j_iast C 6 0 pl_yel rfl i rfl hlt (by decide) pu_yel dX0_look_61 ?_
      refine j_iinc C 0 (nI (i + 1)) dX0_look_62 rfl (nI_1 _) (by decide) rfl ?_
      refine j_goto C 22 dX0_look_65 (by decide) ?_
      exact ih (i + 1) (up2 (up2 u 3 i (u 2 i)) 4 i (((up2 u 3 i (u 2 i)) 4 i) + (1 : Int32))) (by omega) hE
def f_G_look (u : St)  : St := (f_G_look_22 8 0 (up2 (up2 u 1 0 (f_G_leastFault u (f_anyInTheWay u))) 1 1 (f_anyInTheWay u)))
def g_G_look (u : St)  : Prop := ((f_anyInTheWay u) = 0 ∨ (f_anyInTheWay u) = 1)
set_option maxRecDepth 20000 in
set_option maxHeartbeats 1000000 in
theorem w_G_look_0 {F : St} {u : St} (B : jk_BV p l e R s m args below meth c cX0_look 4 RX0 TT D clA (tyl z) (cW z a) A Q rm_G_look F)  (hE : f_G_look u = F) (hG : g_G_look u) : JJ p l e R s m args below meth c 0 0 4 D clA (cW z a) A Q 0 [(0, .ref (a 3)), (1, .ref (a 4))] u [] := by
  have C := B.1
  unfold f_G_look at hE
  unfold g_G_look at hG
  refine j_aload_n C 1 dX0_look_0 rfl ?_
  refine j_cISN C B.2.1 (c_anyInTheWay l D z a u) gc_anyInTheWay (fun h => h.1) ini_anyInTheWay sta_anyInTheWay dd_anyInTheWay ⟨⟨rfl, rfl⟩, Nat.le_of_ble_eq_true rfl, Nat.le_of_ble_eq_true rfl⟩ rfl rfl (Nat.le_of_ble_eq_true rfl) dX0_look_1 ?_
  refine j_istore_n C dX0_look_4 (by decide) rfl ?_
  refine j_aload_n C 1 dX0_look_5 rfl ?_
  refine j_aload_n C 1 dX0_look_6 rfl ?_
  refine j_aload_n C 2 dX0_look_7 rfl ?_
  refine j_iload_n C 0 dX0_look_8 rfl ?_
  refine j_cIV C B.2.1 (c_G_leastFault l D z a u (f_anyInTheWay u)) gv_0_30 dd_G_leastFault ⟨⟨rfl, rfl⟩, Nat.le_of_ble_eq_true rfl, Nat.le_of_ble_eq_true rfl⟩ 3 0 pl_guard rfl rfl rfl rfl (Nat.le_of_ble_eq_true rfl) dX0_look_9 ?_
  refine j_put C kf_0 3 pl_guard 3 (by decide) lk_0_22 rfl rfl rfl (Nat.le_of_ble_eq_true rfl) pu_guard_fault dX0_look_12 ?_
  refine j_aload_n C 1 dX0_look_15 rfl ?_
  refine j_iload_n C 0 dX0_look_16 rfl ?_
  have hb1 := hG
  refine j_put C kf_0 3 pl_guard 2 (by decide) lk_0_18 rfl (jk_nb hb1) (jk_fb hb1) (Nat.le_of_ble_eq_true rfl) pu_guard_wayWasBlocked dX0_look_17 ?_
  refine j_iconst C 0 dX0_look_20 ic_0 ?_
  refine j_istore_n C dX0_look_21 (by decide) rfl ?_
  refine j_lv [0, 2, 3] rfl ?_
  refine j_lq (congrArg (fun x => ([(3, .int x), (0, .ref (a 3)), (1, .ref (a 4))] : List (Nat × Value))) ix_0) ?_
  exact w_G_look_22 B 8 0 (up2 (up2 u 1 0 (f_G_leastFault u (f_anyInTheWay u))) 1 1 (f_anyInTheWay u)) (by omega) hE
theorem c_G_look (l : Launch) (D : va_G) (z : Nat → ClassId) (a : Nat → Nat) (u : St)  (hG : g_G_look u) : CtV l yX0_look (.code yX0_look cX0_look 4 none :: TT) rm_G_look D clA (tyl z) (cW z a) [.ref (a 3), .ref (a 4)] u (f_G_look u) :=
  jk_metV (own := RX0) (by decide) rfl (Nat.le_of_ble_eq_true rfl) (fun _ _ _ _ _ _ _ _ _ _ _ B => w_G_look_0 B rfl hG)
def rm_G_forget : Room := { frames := 0, cells := 0, slots := 0, locals := 0 }
def f_G_forget_2  : Nat → Nat → St → St
  | 0, i, u => (up2 (up2 u 1 1 (0 : Int32)) 1 0 (0 : Int32))
  | n + 1, i, u => (f_G_forget_2 n (i + 1) (up2 (up2 u 3 i (0 : Int32)) 4 i (0 : Int32)))
set_option maxRecDepth 20000 in
set_option maxHeartbeats 1000000 in
theorem w_G_forget_2 {F : St} (B : jk_BV p l e R s m args below meth c cX0_forget 2 RX0 TT D clA (tyl z) (cW z a) A Q rm_G_forget F)  : ∀ (n i : Nat) (u : St), i + n = 8 → f_G_forget_2 n i u = F → JJ p l e R s m args below meth c 0 0 2 D clA (cW z a) A Q 2 [(1, .int (nI i)), (0, .ref (a 3))] u [] := by
  have C := B.1
  intro n
  induction n with
  | zero =>
    intro i u hin hE
    obtain rfl : i = 8 := by omega
    have hge : (8 : Int32) ≤ nI 8 := by decide
    refine j_iload_n C 0 dX0_forget_2 rfl ?_
    refine j_bipush C 8 dX0_forget_3 bp_8 ?_
    refine j_icmp_ge C 28 dX0_forget_5 (by decide) (fun _ => ?_) (fun hq => absurd hge hq)
    refine j_aload_n C 1 dX0_forget_28 rfl ?_
    refine j_iconst C 0 dX0_forget_29 ic_0 ?_
    refine j_put C kf_0 3 pl_guard 2 (by decide) lk_0_18 rfl rfl rfl (Nat.le_of_ble_eq_true rfl) pu_guard_wayWasBlocked dX0_forget_30 ?_
    refine j_aload_n C 1 dX0_forget_33 rfl ?_
    refine j_iconst C 0 dX0_forget_34 ic_0 ?_
    refine j_put C kf_0 3 pl_guard 3 (by decide) lk_0_22 rfl rfl rfl (Nat.le_of_ble_eq_true rfl) pu_guard_fault dX0_forget_35 ?_
    exact B.2.2 _ _ _ dX0_forget_38 hE
  | succ n ih =>
    intro i u hin hE
    have hlt : i < 8 := by omega
    have hnge : ¬ (8 : Int32) ≤ nI i := lt8 i hlt
    refine j_iload_n C 0 dX0_forget_2 rfl ?_
    refine j_bipush C 8 dX0_forget_3 bp_8 ?_
    refine j_icmp_ge C 28 dX0_forget_5 (by decide) (fun hq => absurd hq hnge) (fun _ => ?_)
    refine j_aload_n C 1 dX0_forget_8 rfl ?_
    refine j_get C kf_0 3 pl_guard 0 (by decide) lk_0_9 rfl dX0_forget_9 ?_
    refine j_iload_n C 0 dX0_forget_12 rfl ?_
    refine j_iconst C 0 dX0_forget_13 ic_0 ?_
    refine j_iast C 5 0 pl_last rfl i rfl hlt (by decide) pu_last dX0_forget_14 ?_
    refine j_aload_n C 1 dX0_forget_15 rfl ?_
    refine j_get C kf_0 3 pl_guard 1 (by decide) lk_0_15 rfl dX0_forget_16 ?_
    refine j_iload_n C 0 dX0_forget_19 rfl ?_
    refine j_iconst C 0 dX0_forget_20 ic_0 ?_
    refine j_iast C 6 0 pl_yel rfl i rfl hlt (by decide) pu_yel dX0_forget_21 ?_
    refine j_iinc C 0 (nI (i + 1)) dX0_forget_22 rfl (nI_1 _) (by decide) rfl ?_
    refine j_goto C 2 dX0_forget_25 (by decide) ?_
    exact ih (i + 1) (up2 (up2 u 3 i (0 : Int32)) 4 i (0 : Int32)) (by omega) hE
def f_G_forget (u : St)  : St := (f_G_forget_2 8 0 u)
set_option maxRecDepth 20000 in
set_option maxHeartbeats 1000000 in
theorem w_G_forget_0 {F : St} {u : St} (B : jk_BV p l e R s m args below meth c cX0_forget 2 RX0 TT D clA (tyl z) (cW z a) A Q rm_G_forget F)  (hE : f_G_forget u = F) : JJ p l e R s m args below meth c 0 0 2 D clA (cW z a) A Q 0 [(0, .ref (a 3))] u [] := by
  have C := B.1
  unfold f_G_forget at hE
  refine j_iconst C 0 dX0_forget_0 ic_0 ?_
  refine j_istore_n C dX0_forget_1 (by decide) rfl ?_
  refine j_lq (congrArg (fun x => ([(1, .int x), (0, .ref (a 3))] : List (Nat × Value))) ix_0) ?_
  exact w_G_forget_2 B 8 0 u (by omega) hE
theorem c_G_forget (l : Launch) (D : va_G) (z : Nat → ClassId) (a : Nat → Nat) (u : St)  : CtV l yX0_forget (.code yX0_forget cX0_forget 2 none :: TT) rm_G_forget D clA (tyl z) (cW z a) [.ref (a 3)] u (f_G_forget u) :=
  jk_metV (own := RX0) (by decide) rfl (Nat.le_of_ble_eq_true rfl) (fun _ _ _ _ _ _ _ _ _ _ _ B => w_G_forget_0 B rfl)
def rm_isGreen : Room := { frames := 1, cells := 0, slots := 0, locals := 20 }
def f_isGreen (u : St) (k0 : Nat) : Int32 := (if (u 30 (k0 / 4)) = (nI k0) then (if (u 31 (k0 / 4)) = (1 : Int32) then (1 : Int32) else (0 : Int32)) else (0 : Int32))
set_option maxRecDepth 20000 in
set_option maxHeartbeats 1000000 in
theorem w_isGreen_0 {Fr : Int32} {u : St} (B : jk_BI p l e R s m args below meth c cX3_isGreen 3 RX3 TT .boolean D clA (tyl z) (cW z a) A Q rm_isGreen (Fr, u)) {k0 : Nat} (hk0 : k0 < 8) (hE : f_isGreen u k0 = Fr) : JJ p l e R s m args below meth c 0 0 3 D clA (cW z a) A Q 0 [(0, .ref (a 0)), (1, .int (nI k0))] u [] := by
  have C := B.1
  unfold f_isGreen at hE
  refine j_aload_n C 0 dX3_isGreen_0 rfl ?_
  refine j_get C kf_3 0 pl_desk 1 (by decide) lk_3_18 rfl dX3_isGreen_1 ?_
  refine j_iload_n C 1 dX3_isGreen_4 rfl ?_
  refine j_cIS C B.2.1 (c_ringOf l D z a u k0 hk0) gv_3_115 dd_ringOf ⟨⟨rfl, rfl⟩, Nat.le_of_ble_eq_true rfl, Nat.le_of_ble_eq_true rfl⟩ rfl rfl (Nat.le_of_ble_eq_true rfl) dX3_isGreen_5 ?_
  refine j_aald C 2 3 pl_rgs rfl (k0 / 4) rfl (by omega) (by decide) rfl dX3_isGreen_8 ?_
  refine j_astore_n C dX3_isGreen_9 (by decide) rfl ?_
  refine j_aload_n C 0 dX3_isGreen_10 rfl ?_
  refine j_get C kf_2 (23 + (k0 / 4)) (pl_rg (by omega)) 2 (by decide) lk_3_137 rfl dX3_isGreen_11 ?_
  refine j_iload_n C 2 dX3_isGreen_14 rfl ?_
  refine j_icmp_ne C 30 dX3_isGreen_15 (by decide) (fun c1 => ?_) (fun c1 => ?_)
  · have hE := (if_neg c1).symm.trans hE
    refine j_iconst C 0 dX3_isGreen_30 ic_0 ?_
    exact B.2.2 _ _ _ _ dX3_isGreen_31 rfl (congrArg (fun x => (x, u)) hE)
  · have hE := (if_pos c1).symm.trans hE
    refine j_aload_n C 0 dX3_isGreen_18 rfl ?_
    refine j_get C kf_2 (23 + (k0 / 4)) (pl_rg (by omega)) 3 (by decide) lk_3_140 rfl dX3_isGreen_19 ?_
    refine j_iconst C 1 dX3_isGreen_22 ic_1 ?_
    refine j_icmp_ne C 30 dX3_isGreen_23 (by decide) (fun c2 => ?_) (fun c2 => ?_)
    · have hE := (if_neg c2).symm.trans hE
      refine j_iconst C 0 dX3_isGreen_30 ic_0 ?_
      exact B.2.2 _ _ _ _ dX3_isGreen_31 rfl (congrArg (fun x => (x, u)) hE)
    · have hE := (if_pos c2).symm.trans hE
      refine j_iconst C 1 dX3_isGreen_26 ic_1 ?_
      refine j_goto C 31 dX3_isGreen_27 (by decide) ?_
      exact B.2.2 _ _ _ _ dX3_isGreen_31 rfl (congrArg (fun x => (x, u)) hE)
theorem c_isGreen (l : Launch) (D : va_G) (z : Nat → ClassId) (a : Nat → Nat) (u : St) (k0 : Nat) (hk0 : k0 < 8) : CtI l yX3_isGreen (.code yX3_isGreen cX3_isGreen 3 (some .boolean) :: TT) rm_isGreen D clA (tyl z) (cW z a) [.ref (a 0), .int (nI k0)] u (f_isGreen u k0) u :=
  jk_metI (own := RX3) (by decide) rfl (Nat.le_of_ble_eq_true rfl) (fun _ _ _ _ _ _ _ _ _ _ _ B => w_isGreen_0 B hk0 rfl)
end WLK

section WLK
variable {p : Program} {l : Launch} {e : Env} {R : Room} {s : State} {m : MethodId} {args : Array Value} {below : List Frame} {meth : Method} {c : Code} {D : va_G} {z : Nat → ClassId} {a : Nat → Nat} {A : Nat → Prop} {Q : State → Prop}
def rm_M_has : Room := { frames := 0, cells := 0, slots := 0, locals := 0 }
def f_M_has (u : St) (k : Nat) (x0 : Int32) : Int32 := (if ((u 10 k) &&& x0) = (0 : Int32) then (0 : Int32) else (1 : Int32))
set_option maxRecDepth 20000 in
set_option maxHeartbeats 1000000 in
theorem w_M_has_0 {Fr : Int32} {u : St} (B : jk_BI p l e R s m args below meth c cX1_has 2 RX1 TT .boolean D clA (tyl z) (cW z a) A Q rm_M_has (Fr, u)) {k : Nat} (hk : k < 8) (x0 : Int32) (hE : f_M_has u k x0 = Fr) : JJ p l e R s m args below meth c 0 0 2 D clA (cW z a) A Q 0 [(0, .ref (a (7 + k))), (1, .int x0)] u [] := by
  have C := B.1
  unfold f_M_has at hE
  refine j_aload_n C 0 dX1_has_0 rfl ?_
  refine j_get C kf_1 (7 + k) (pl_mv hk) 1 (by decide) lk_1_23 rfl dX1_has_1 ?_
  refine j_iload_n C 1 dX1_has_4 rfl ?_
  refine j_iand C dX1_has_5 ?_
  refine j_if_eq C 13 dX1_has_6 (by decide) (fun c1 => ?_) (fun c1 => ?_)
  · have hE := (if_pos c1).symm.trans hE
    refine j_iconst C 0 dX1_has_13 ic_0 ?_
    exact B.2.2 _ _ _ _ dX1_has_14 rfl (congrArg (fun x => (x, u)) hE)
  · have hE := (if_neg c1).symm.trans hE
    refine j_iconst C 1 dX1_has_9 ic_1 ?_
    refine j_goto C 14 dX1_has_10 (by decide) ?_
    exact B.2.2 _ _ _ _ dX1_has_14 rfl (congrArg (fun x => (x, u)) hE)
theorem c_M_has (l : Launch) (D : va_G) (z : Nat → ClassId) (a : Nat → Nat) (u : St) (k : Nat) (x0 : Int32) (hk : k < 8) : CtI l yX1_has (.code yX1_has cX1_has 2 (some .boolean) :: TT) rm_M_has D clA (tyl z) (cW z a) [.ref (a (7 + k)), .int x0] u (f_M_has u k x0) u :=
  jk_metI (own := RX1) (by decide) rfl (Nat.le_of_ble_eq_true rfl) (fun _ _ _ _ _ _ _ _ _ _ _ B => w_M_has_0 B hk x0 rfl)
def rm_M_isWanted : Room := { frames := 1, cells := 0, slots := 0, locals := 21 }
def f_M_isWanted (u : St) (k : Nat) : Int32 := (if (u 11 k) = (0 : Int32) then (if (u 12 k) = (0 : Int32) then (if (u 13 k) = (0 : Int32) then (if (f_M_has u k (1 : Int32)) = (0 : Int32) then (0 : Int32) else (if (f_M_has u k (28 : Int32)) = (0 : Int32) then (0 : Int32) else (1 : Int32))) else (if (f_M_has u k (1 : Int32)) = (0 : Int32) then (0 : Int32) else (1 : Int32))) else (if (f_M_has u k (1 : Int32)) = (0 : Int32) then (0 : Int32) else (1 : Int32))) else (if (f_M_has u k (1 : Int32)) = (0 : Int32) then (0 : Int32) else (1 : Int32)))
set_option maxRecDepth 20000 in
set_option maxHeartbeats 1000000 in
theorem w_M_isWanted_0 {Fr : Int32} {u : St} (B : jk_BI p l e R s m args below meth c cX1_isWanted 2 RX1 TT .boolean D clA (tyl z) (cW z a) A Q rm_M_isWanted (Fr, u)) {k : Nat} (hk : k < 8) (hE : f_M_isWanted u k = Fr) : JJ p l e R s m args below meth c 0 0 2 D clA (cW z a) A Q 0 [(0, .ref (a (7 + k)))] u [] := by
  have C := B.1
  unfold f_M_isWanted at hE
  refine j_aload_n C 0 dX1_isWanted_0 rfl ?_
  refine j_get C kf_1 (7 + k) (pl_mv hk) 2 (by decide) lk_1_30 rfl dX1_isWanted_1 ?_
  refine j_if_ne C 21 dX1_isWanted_4 (by decide) (fun c1 => ?_) (fun c1 => ?_)
  · have hE := (if_neg c1).symm.trans hE
    refine j_iconst C 1 dX1_isWanted_21 ic_1 ?_
    refine j_goto C 26 dX1_isWanted_22 (by decide) ?_
    refine j_istore_n C dX1_isWanted_26 (by decide) rfl ?_
    refine j_aload_n C 1 dX1_isWanted_27 rfl ?_
    refine j_iconst C 1 dX1_isWanted_28 ic_1 ?_
    refine j_cIV C B.2.1 (c_M_has l D z a u k (1 : Int32) hk) gv_1_40 dd_M_has ⟨⟨rfl, rfl⟩, Nat.le_of_ble_eq_true rfl, Nat.le_of_ble_eq_true rfl⟩ (7 + k) 1 (pl_mv hk) rfl rfl rfl rfl (Nat.le_of_ble_eq_true rfl) dX1_isWanted_29 ?_
    refine j_if_eq C 52 dX1_isWanted_32 (by decide) (fun c2 => ?_) (fun c2 => ?_)
    · have hE := (if_pos c2).symm.trans hE
      refine j_iconst C 0 dX1_isWanted_52 ic_0 ?_
      exact B.2.2 _ _ _ _ dX1_isWanted_53 rfl (congrArg (fun x => (x, u)) hE)
    · have hE := (if_neg c2).symm.trans hE
      refine j_iload_n C 0 dX1_isWanted_35 rfl ?_
      refine j_if_ne C 48 dX1_isWanted_36 (by decide) (fun _ => ?_) (fun hq => False.elim (by revert hq; decide))
      refine j_iconst C 1 dX1_isWanted_48 ic_1 ?_
      refine j_goto C 53 dX1_isWanted_49 (by decide) ?_
      exact B.2.2 _ _ _ _ dX1_isWanted_53 rfl (congrArg (fun x => (x, u)) hE)
  · have hE := (if_pos c1).symm.trans hE
    refine j_aload_n C 0 dX1_isWanted_7 rfl ?_
    refine j_get C kf_1 (7 + k) (pl_mv hk) 3 (by decide) lk_1_34 rfl dX1_isWanted_8 ?_
    refine j_if_ne C 21 dX1_isWanted_11 (by decide) (fun c3 => ?_) (fun c3 => ?_)
    · have hE := (if_neg c3).symm.trans hE
      refine j_iconst C 1 dX1_isWanted_21 ic_1 ?_
      refine j_goto C 26 dX1_isWanted_22 (by decide) ?_
      refine j_istore_n C dX1_isWanted_26 (by decide) rfl ?_
      refine j_aload_n C 1 dX1_isWanted_27 rfl ?_
      refine j_iconst C 1 dX1_isWanted_28 ic_1 ?_
      refine j_cIV C B.2.1 (c_M_has l D z a u k (1 : Int32) hk) gv_1_40 dd_M_has ⟨⟨rfl, rfl⟩, Nat.le_of_ble_eq_true rfl, Nat.le_of_ble_eq_true rfl⟩ (7 + k) 1 (pl_mv hk) rfl rfl rfl rfl (Nat.le_of_ble_eq_true rfl) dX1_isWanted_29 ?_
      refine j_if_eq C 52 dX1_isWanted_32 (by decide) (fun c4 => ?_) (fun c4 => ?_)
      · have hE := (if_pos c4).symm.trans hE
        refine j_iconst C 0 dX1_isWanted_52 ic_0 ?_
        exact B.2.2 _ _ _ _ dX1_isWanted_53 rfl (congrArg (fun x => (x, u)) hE)
      · have hE := (if_neg c4).symm.trans hE
        refine j_iload_n C 0 dX1_isWanted_35 rfl ?_
        refine j_if_ne C 48 dX1_isWanted_36 (by decide) (fun _ => ?_) (fun hq => False.elim (by revert hq; decide))
        refine j_iconst C 1 dX1_isWanted_48 ic_1 ?_
        refine j_goto C 53 dX1_isWanted_49 (by decide) ?_
        exact B.2.2 _ _ _ _ dX1_isWanted_53 rfl (congrArg (fun x => (x, u)) hE)
    · have hE := (if_pos c3).symm.trans hE
      refine j_aload_n C 0 dX1_isWanted_14 rfl ?_
      refine j_get C kf_1 (7 + k) (pl_mv hk) 4 (by decide) lk_1_37 rfl dX1_isWanted_15 ?_
      refine j_if_eq C 25 dX1_isWanted_18 (by decide) (fun c5 => ?_) (fun c5 => ?_)
      · have hE := (if_pos c5).symm.trans hE
        refine j_iconst C 0 dX1_isWanted_25 ic_0 ?_
        refine j_istore_n C dX1_isWanted_26 (by decide) rfl ?_
        refine j_aload_n C 1 dX1_isWanted_27 rfl ?_
        refine j_iconst C 1 dX1_isWanted_28 ic_1 ?_
        refine j_cIV C B.2.1 (c_M_has l D z a u k (1 : Int32) hk) gv_1_40 dd_M_has ⟨⟨rfl, rfl⟩, Nat.le_of_ble_eq_true rfl, Nat.le_of_ble_eq_true rfl⟩ (7 + k) 1 (pl_mv hk) rfl rfl rfl rfl (Nat.le_of_ble_eq_true rfl) dX1_isWanted_29 ?_
        refine j_if_eq C 52 dX1_isWanted_32 (by decide) (fun c6 => ?_) (fun c6 => ?_)
        · have hE := (if_pos c6).symm.trans hE
          refine j_iconst C 0 dX1_isWanted_52 ic_0 ?_
          exact B.2.2 _ _ _ _ dX1_isWanted_53 rfl (congrArg (fun x => (x, u)) hE)
        · have hE := (if_neg c6).symm.trans hE
          refine j_iload_n C 0 dX1_isWanted_35 rfl ?_
          refine j_if_ne C 48 dX1_isWanted_36 (by decide) (fun hq => False.elim (by revert hq; decide)) (fun _ => ?_)
          refine j_aload_n C 1 dX1_isWanted_39 rfl ?_
          refine j_bipush C 28 dX1_isWanted_40 bp_28 ?_
          refine j_cIV C B.2.1 (c_M_has l D z a u k (28 : Int32) hk) gv_1_40 dd_M_has ⟨⟨rfl, rfl⟩, Nat.le_of_ble_eq_true rfl, Nat.le_of_ble_eq_true rfl⟩ (7 + k) 1 (pl_mv hk) rfl rfl rfl rfl (Nat.le_of_ble_eq_true rfl) dX1_isWanted_42 ?_
          refine j_if_eq C 52 dX1_isWanted_45 (by decide) (fun c7 => ?_) (fun c7 => ?_)
          · have hE := (if_pos c7).symm.trans hE
            refine j_iconst C 0 dX1_isWanted_52 ic_0 ?_
            exact B.2.2 _ _ _ _ dX1_isWanted_53 rfl (congrArg (fun x => (x, u)) hE)
          · have hE := (if_neg c7).symm.trans hE
            refine j_iconst C 1 dX1_isWanted_48 ic_1 ?_
            refine j_goto C 53 dX1_isWanted_49 (by decide) ?_
            exact B.2.2 _ _ _ _ dX1_isWanted_53 rfl (congrArg (fun x => (x, u)) hE)
      · have hE := (if_neg c5).symm.trans hE
        refine j_iconst C 1 dX1_isWanted_21 ic_1 ?_
        refine j_goto C 26 dX1_isWanted_22 (by decide) ?_
        refine j_istore_n C dX1_isWanted_26 (by decide) rfl ?_
        refine j_aload_n C 1 dX1_isWanted_27 rfl ?_
        refine j_iconst C 1 dX1_isWanted_28 ic_1 ?_
        refine j_cIV C B.2.1 (c_M_has l D z a u k (1 : Int32) hk) gv_1_40 dd_M_has ⟨⟨rfl, rfl⟩, Nat.le_of_ble_eq_true rfl, Nat.le_of_ble_eq_true rfl⟩ (7 + k) 1 (pl_mv hk) rfl rfl rfl rfl (Nat.le_of_ble_eq_true rfl) dX1_isWanted_29 ?_
        refine j_if_eq C 52 dX1_isWanted_32 (by decide) (fun c8 => ?_) (fun c8 => ?_)
        · have hE := (if_pos c8).symm.trans hE
          refine j_iconst C 0 dX1_isWanted_52 ic_0 ?_
          exact B.2.2 _ _ _ _ dX1_isWanted_53 rfl (congrArg (fun x => (x, u)) hE)
        · have hE := (if_neg c8).symm.trans hE
          refine j_iload_n C 0 dX1_isWanted_35 rfl ?_
          refine j_if_ne C 48 dX1_isWanted_36 (by decide) (fun _ => ?_) (fun hq => False.elim (by revert hq; decide))
          refine j_iconst C 1 dX1_isWanted_48 ic_1 ?_
          refine j_goto C 53 dX1_isWanted_49 (by decide) ?_
          exact B.2.2 _ _ _ _ dX1_isWanted_53 rfl (congrArg (fun x => (x, u)) hE)
theorem c_M_isWanted (l : Launch) (D : va_G) (z : Nat → ClassId) (a : Nat → Nat) (u : St) (k : Nat) (hk : k < 8) : CtI l yX1_isWanted (.code yX1_isWanted cX1_isWanted 2 (some .boolean) :: TT) rm_M_isWanted D clA (tyl z) (cW z a) [.ref (a (7 + k))] u (f_M_isWanted u k) u :=
  jk_metI (own := RX1) (by decide) rfl (Nat.le_of_ble_eq_true rfl) (fun _ _ _ _ _ _ _ _ _ _ _ B => w_M_isWanted_0 B hk rfl)
def rm_M_comesAlong : Room := { frames := 1, cells := 0, slots := 0, locals := 21 }
def f_M_comesAlong (u : St) (k : Nat) : Int32 := (if (f_M_has u k (1 : Int32)) = (0 : Int32) then (0 : Int32) else (if (f_M_has u k (32 : Int32)) = (0 : Int32) then (0 : Int32) else (1 : Int32)))
set_option maxRecDepth 20000 in
set_option maxHeartbeats 1000000 in
theorem w_M_comesAlong_0 {Fr : Int32} {u : St} (B : jk_BI p l e R s m args below meth c cX1_comesAlong 1 RX1 TT .boolean D clA (tyl z) (cW z a) A Q rm_M_comesAlong (Fr, u)) {k : Nat} (hk : k < 8) (hE : f_M_comesAlong u k = Fr) : JJ p l e R s m args below meth c 0 0 1 D clA (cW z a) A Q 0 [(0, .ref (a (7 + k)))] u [] := by
  have C := B.1
  unfold f_M_comesAlong at hE
  refine j_aload_n C 0 dX1_comesAlong_0 rfl ?_
  refine j_iconst C 1 dX1_comesAlong_1 ic_1 ?_
  refine j_cIV C B.2.1 (c_M_has l D z a u k (1 : Int32) hk) gv_1_40 dd_M_has ⟨⟨rfl, rfl⟩, Nat.le_of_ble_eq_true rfl, Nat.le_of_ble_eq_true rfl⟩ (7 + k) 1 (pl_mv hk) rfl rfl rfl rfl (Nat.le_of_ble_eq_true rfl) dX1_comesAlong_2 ?_
  refine j_if_eq C 21 dX1_comesAlong_5 (by decide) (fun c1 => ?_) (fun c1 => ?_)
  · have hE := (if_pos c1).symm.trans hE
    refine j_iconst C 0 dX1_comesAlong_21 ic_0 ?_
    exact B.2.2 _ _ _ _ dX1_comesAlong_22 rfl (congrArg (fun x => (x, u)) hE)
  · have hE := (if_neg c1).symm.trans hE
    refine j_aload_n C 0 dX1_comesAlong_8 rfl ?_
    refine j_bipush C 32 dX1_comesAlong_9 bp_32 ?_
    refine j_cIV C B.2.1 (c_M_has l D z a u k (32 : Int32) hk) gv_1_40 dd_M_has ⟨⟨rfl, rfl⟩, Nat.le_of_ble_eq_true rfl, Nat.le_of_ble_eq_true rfl⟩ (7 + k) 1 (pl_mv hk) rfl rfl rfl rfl (Nat.le_of_ble_eq_true rfl) dX1_comesAlong_11 ?_
    refine j_if_eq C 21 dX1_comesAlong_14 (by decide) (fun c2 => ?_) (fun c2 => ?_)
    · have hE := (if_pos c2).symm.trans hE
      refine j_iconst C 0 dX1_comesAlong_21 ic_0 ?_
      exact B.2.2 _ _ _ _ dX1_comesAlong_22 rfl (congrArg (fun x => (x, u)) hE)
    · have hE := (if_neg c2).symm.trans hE
      refine j_iconst C 1 dX1_comesAlong_17 ic_1 ?_
      refine j_goto C 22 dX1_comesAlong_18 (by decide) ?_
      exact B.2.2 _ _ _ _ dX1_comesAlong_22 rfl (congrArg (fun x => (x, u)) hE)
theorem c_M_comesAlong (l : Launch) (D : va_G) (z : Nat → ClassId) (a : Nat → Nat) (u : St) (k : Nat) (hk : k < 8) : CtI l yX1_comesAlong (.code yX1_comesAlong cX1_comesAlong 1 (some .boolean) :: TT) rm_M_comesAlong D clA (tyl z) (cW z a) [.ref (a (7 + k))] u (f_M_comesAlong u k) u :=
  jk_metI (own := RX1) (by decide) rfl (Nat.le_of_ble_eq_true rfl) (fun _ _ _ _ _ _ _ _ _ _ _ B => w_M_comesAlong_0 B hk rfl)
def rm_M_wouldWalk : Room := { frames := 1, cells := 0, slots := 0, locals := 21 }
def f_M_wouldWalk (u : St) (k : Nat) : Int32 := (if (u (20 + k) 5) ≤ (0 : Int32) then (0 : Int32) else (if (u 13 k) = (0 : Int32) then (if (f_M_has u k (16 : Int32)) = (0 : Int32) then (0 : Int32) else (1 : Int32)) else (1 : Int32)))
set_option maxRecDepth 20000 in
set_option maxHeartbeats 1000000 in
theorem w_M_wouldWalk_0 {Fr : Int32} {u : St} (B : jk_BI p l e R s m args below meth c cX1_wouldWalk 1 RX1 TT .boolean D clA (tyl z) (cW z a) A Q rm_M_wouldWalk (Fr, u)) {k : Nat} (hk : k < 8) (hE : f_M_wouldWalk u k = Fr) : JJ p l e R s m args below meth c 0 0 1 D clA (cW z a) A Q 0 [(0, .ref (a (7 + k)))] u [] := by
  have C := B.1
  unfold f_M_wouldWalk at hE
  refine j_aload_n C 0 dX1_wouldWalk_0 rfl ?_
  refine j_get C kf_1 (7 + k) (pl_mv hk) 0 (by decide) lk_1_18 rfl dX1_wouldWalk_1 ?_
  refine j_iconst C 5 dX1_wouldWalk_4 ic_5 ?_
  refine j_iald C (15 + k) 0 (pl_times hk) rfl 5 ix_5 (by decide) (by decide) dX1_wouldWalk_5 ?_
  refine j_if_le C 29 dX1_wouldWalk_6 (by decide) (fun c1 => ?_) (fun c1 => ?_)
  · have hE := (if_pos c1).symm.trans hE
    refine j_iconst C 0 dX1_wouldWalk_29 ic_0 ?_
    exact B.2.2 _ _ _ _ dX1_wouldWalk_30 rfl (congrArg (fun x => (x, u)) hE)
  · have hE := (if_neg c1).symm.trans hE
    refine j_aload_n C 0 dX1_wouldWalk_9 rfl ?_
    refine j_get C kf_1 (7 + k) (pl_mv hk) 4 (by decide) lk_1_37 rfl dX1_wouldWalk_10 ?_
    refine j_if_ne C 25 dX1_wouldWalk_13 (by decide) (fun c2 => ?_) (fun c2 => ?_)
    · have hE := (if_neg c2).symm.trans hE
      refine j_iconst C 1 dX1_wouldWalk_25 ic_1 ?_
      refine j_goto C 30 dX1_wouldWalk_26 (by decide) ?_
      exact B.2.2 _ _ _ _ dX1_wouldWalk_30 rfl (congrArg (fun x => (x, u)) hE)
    · have hE := (if_pos c2).symm.trans hE
      refine j_aload_n C 0 dX1_wouldWalk_16 rfl ?_
      refine j_bipush C 16 dX1_wouldWalk_17 bp_16 ?_
      refine j_cIV C B.2.1 (c_M_has l D z a u k (16 : Int32) hk) gv_1_40 dd_M_has ⟨⟨rfl, rfl⟩, Nat.le_of_ble_eq_true rfl, Nat.le_of_ble_eq_true rfl⟩ (7 + k) 1 (pl_mv hk) rfl rfl rfl rfl (Nat.le_of_ble_eq_true rfl) dX1_wouldWalk_19 ?_
      refine j_if_eq C 29 dX1_wouldWalk_22 (by decide) (fun c3 => ?_) (fun c3 => ?_)
      · have hE := (if_pos c3).symm.trans hE
        refine j_iconst C 0 dX1_wouldWalk_29 ic_0 ?_
        exact B.2.2 _ _ _ _ dX1_wouldWalk_30 rfl (congrArg (fun x => (x, u)) hE)
      · have hE := (if_neg c3).symm.trans hE
        refine j_iconst C 1 dX1_wouldWalk_25 ic_1 ?_
        refine j_goto C 30 dX1_wouldWalk_26 (by decide) ?_
        exact B.2.2 _ _ _ _ dX1_wouldWalk_30 rfl (congrArg (fun x => (x, u)) hE)
theorem c_M_wouldWalk (l : Launch) (D : va_G) (z : Nat → ClassId) (a : Nat → Nat) (u : St) (k : Nat) (hk : k < 8) : CtI l yX1_wouldWalk (.code yX1_wouldWalk cX1_wouldWalk 1 (some .boolean) :: TT) rm_M_wouldWalk D clA (tyl z) (cW z a) [.ref (a (7 + k))] u (f_M_wouldWalk u k) u :=
  jk_metI (own := RX1) (by decide) rfl (Nat.le_of_ble_eq_true rfl) (fun _ _ _ _ _ _ _ _ _ _ _ B => w_M_wouldWalk_0 B hk rfl)
def rm_M_countWait : Room := { frames := 1, cells := 0, slots := 0, locals := 14 }
def f_M_countWait_18 (u : St) (k : Nat) (b0 : Int32) : St := (up2 u 15 k (if (u 15 k) < (u 14 k) then (u 14 k) else (u 15 k)))
set_option maxRecDepth 20000 in
set_option maxHeartbeats 1000000 in
theorem w_M_countWait_18 {F : St} {u : St} (B : jk_BV p l e R s m args below meth c cX1_countWait 2 RX1 TT D clA (tyl z) (cW z a) A Q rm_M_countWait F) {k : Nat} (hk : k < 8) (b0 : Int32) (hE : f_M_countWait_18 u k b0 = F) : JJ p l e R s m args below meth c 0 0 2 D clA (cW z a) A Q 18 [(0, .ref (a (7 + k)))] u [] := by
  have C := B.1
  unfold f_M_countWait_18 at hE
  refine j_aload_n C 0 dX1_countWait_18 rfl ?_
  refine j_aload_n C 0 dX1_countWait_19 rfl ?_
  refine j_get C kf_1 (7 + k) (pl_mv hk) 6 (by decide) lk_1_47 rfl dX1_countWait_20 ?_
  refine j_aload_n C 0 dX1_countWait_23 rfl ?_
  refine j_get C kf_1 (7 + k) (pl_mv hk) 5 (by decide) lk_1_44 rfl dX1_countWait_24 ?_
  refine j_max C B.2.1 (Nat.le_of_ble_eq_true rfl) (Nat.le_of_ble_eq_true rfl) mx_1_50 mx_code dX1_countWait_27 ?_
  refine j_put C kf_1 (7 + k) (pl_mv hk) 6 (by decide) lk_1_47 rfl rfl rfl (Nat.le_of_ble_eq_true rfl) (pu_mv_longestWait hk) dX1_countWait_30 ?_
  exact B.2.2 _ _ _ dX1_countWait_33 hE
def f_M_countWait (u : St) (k : Nat) (b0 : Int32) : St := (if b0 = (0 : Int32) then (f_M_countWait_18 (up2 u 14 k (0 : Int32)) k b0) else (f_M_countWait_18 (up2 u 14 k ((u 14 k) + (1 : Int32))) k b0))
set_option maxRecDepth 20000 in
set_option maxHeartbeats 1000000 in
theorem w_M_countWait_0 {F : St} {u : St} (B : jk_BV p l e R s m args below meth c cX1_countWait 2 RX1 TT D clA (tyl z) (cW z a) A Q rm_M_countWait F) {k : Nat} (hk : k < 8) (b0 : Int32) (hE : f_M_countWait u k b0 = F) : JJ p l e R s m args below meth c 0 0 2 D clA (cW z a) A Q 0 [(0, .ref (a (7 + k))), (1, .int b0)] u [] := by
  have C := B.1
  unfold f_M_countWait at hE
  refine j_aload_n C 0 dX1_countWait_0 rfl ?_
  refine j_iload_n C 1 dX1_countWait_1 rfl ?_
  refine j_if_eq C 14 dX1_countWait_2 (by decide) (fun c1 => ?_) (fun c1 => ?_)
  · have hE := (if_pos c1).symm.trans hE
    refine j_iconst C 0 dX1_countWait_14 ic_0 ?_
    refine j_put C kf_1 (7 + k) (pl_mv hk) 5 (by decide) lk_1_44 rfl rfl rfl (Nat.le_of_ble_eq_true rfl) (pu_mv_waited hk) dX1_countWait_15 ?_
    refine j_lv [0] rfl ?_
    exact w_M_countWait_18 B hk b0 hE
  · have hE := (if_neg c1).symm.trans hE
    refine j_aload_n C 0 dX1_countWait_5 rfl ?_
    refine j_get C kf_1 (7 + k) (pl_mv hk) 5 (by decide) lk_1_44 rfl dX1_countWait_6 ?_
    refine j_iconst C 1 dX1_countWait_9 ic_1 ?_
    refine j_iadd C dX1_countWait_10 ?_
    refine j_goto C 15 dX1_countWait_11 (by decide) ?_
    refine j_put C kf_1 (7 + k) (pl_mv hk) 5 (by decide) lk_1_44 rfl rfl rfl (Nat.le_of_ble_eq_true rfl) (pu_mv_waited hk) dX1_countWait_15 ?_
    refine j_lv [0] rfl ?_
    exact w_M_countWait_18 B hk b0 hE
theorem c_M_countWait (l : Launch) (D : va_G) (z : Nat → ClassId) (a : Nat → Nat) (u : St) (k : Nat) (b0 : Int32) (hk : k < 8) : CtV l yX1_countWait (.code yX1_countWait cX1_countWait 2 none :: TT) rm_M_countWait D clA (tyl z) (cW z a) [.ref (a (7 + k)), .int b0] u (f_M_countWait u k b0) :=
  jk_metV (own := RX1) (by decide) rfl (Nat.le_of_ble_eq_true rfl) (fun _ _ _ _ _ _ _ _ _ _ _ B => w_M_countWait_0 B hk b0 rfl)
def rm_M_beginGreen : Room := { frames := 0, cells := 0, slots := 0, locals := 0 }
def f_M_beginGreen (u : St) (k : Nat) : St := (up2 (up2 (up2 u 12 k (0 : Int32)) 13 k (0 : Int32)) 16 k (((up2 (up2 u 12 k (0 : Int32)) 13 k (0 : Int32)) 16 k) + (1 : Int32)))
set_option maxRecDepth 20000 in
set_option maxHeartbeats 1000000 in
theorem w_M_beginGreen_0 {F : St} {u : St} (B : jk_BV p l e R s m args below meth c cX1_beginGreen 1 RX1 TT D clA (tyl z) (cW z a) A Q rm_M_beginGreen F) {k : Nat} (hk : k < 8) (hE : f_M_beginGreen u k = F) : JJ p l e R s m args below meth c 0 0 1 D clA (cW z a) A Q 0 [(0, .ref (a (7 + k)))] u [] := by
  have C := B.1
  unfold f_M_beginGreen at hE
  refine j_aload_n C 0 dX1_beginGreen_0 rfl ?_
  refine j_iconst C 0 dX1_beginGreen_1 ic_0 ?_
  refine j_put C kf_1 (7 + k) (pl_mv hk) 3 (by decide) lk_1_34 rfl rfl rfl (Nat.le_of_ble_eq_true rfl) (pu_mv_remembered hk) dX1_beginGreen_2 ?_
  refine j_aload_n C 0 dX1_beginGreen_5 rfl ?_
  refine j_iconst C 0 dX1_beginGreen_6 ic_0 ?_
  refine j_put C kf_1 (7 + k) (pl_mv hk) 4 (by decide) lk_1_37 rfl rfl rfl (Nat.le_of_ble_eq_true rfl) (pu_mv_pushed hk) dX1_beginGreen_7 ?_
  refine j_aload_n C 0 dX1_beginGreen_10 rfl ?_
  refine j_dup C dX1_beginGreen_11 rfl ?_
  refine j_get C kf_1 (7 + k) (pl_mv hk) 7 (by decide) lk_1_56 rfl dX1_beginGreen_12 ?_
  refine j_iconst C 1 dX1_beginGreen_15 ic_1 ?_
  refine j_iadd C dX1_beginGreen_16 ?_
  refine j_put C kf_1 (7 + k) (pl_mv hk) 7 (by decide) lk_1_56 rfl rfl rfl (Nat.le_of_ble_eq_true rfl) (pu_mv_greens hk) dX1_beginGreen_17 ?_
  exact B.2.2 _ _ _ dX1_beginGreen_20 hE
theorem c_M_beginGreen (l : Launch) (D : va_G) (z : Nat → ClassId) (a : Nat → Nat) (u : St) (k : Nat) (hk : k < 8) : CtV l yX1_beginGreen (.code yX1_beginGreen cX1_beginGreen 1 none :: TT) rm_M_beginGreen D clA (tyl z) (cW z a) [.ref (a (7 + k))] u (f_M_beginGreen u k) :=
  jk_metV (own := RX1) (by decide) rfl (Nat.le_of_ble_eq_true rfl) (fun _ _ _ _ _ _ _ _ _ _ _ B => w_M_beginGreen_0 B hk rfl)
def rm_R_first : Room := { frames := 0, cells := 0, slots := 0, locals := 0 }
def f_R_first (u : St) (r : Nat) (x0 : Int32) : Int32 := (if (u (40 + r) (x0.toNatClampNeg)) = (0 : Int32) then (((nI (4 * r)) + ((2 : Int32) * x0)) + (0 : Int32)) else (((nI (4 * r)) + ((2 : Int32) * x0)) + (1 : Int32)))
def g_R_first (u : St) (r : Nat) (x0 : Int32) : Prop := (vp_in x0 2)
set_option maxRecDepth 20000 in
set_option maxHeartbeats 1000000 in
theorem w_R_first_0 {Fr : Int32} {u : St} (B : jk_BI p l e R s m args below meth c cX2_first 2 RX2 TT .int D clA (tyl z) (cW z a) A Q rm_R_first (Fr, u)) {r : Nat} (hr : r < 2) (x0 : Int32) (hE : f_R_first u r x0 = Fr) (hG : g_R_first u r x0) : JJ p l e R s m args below meth c 0 0 2 D clA (cW z a) A Q 0 [(0, .ref (a (23 + r))), (1, .int x0)] u [] := by
  have C := B.1
  unfold f_R_first at hE
  unfold g_R_first at hG
  refine j_aload_n C 0 dX2_first_0 rfl ?_
  refine j_get C kf_2 (23 + r) (pl_rg hr) 0 (by decide) lk_2_9 rfl dX2_first_1 ?_
  refine j_iconst C 2 dX2_first_4 ic_2 ?_
  refine j_iload_n C 1 dX2_first_5 rfl ?_
  refine j_imul C dX2_first_6 ?_
  refine j_iadd C dX2_first_7 ?_
  refine j_aload_n C 0 dX2_first_8 rfl ?_
  refine j_get C kf_2 (23 + r) (pl_rg hr) 1 (by decide) lk_2_15 rfl dX2_first_9 ?_
  refine j_iload_n C 1 dX2_first_12 rfl ?_
  have hv1 := hG
  have lhv1 := jk_lt hv1
  refine j_zald C (25 + r) 1 (pl_ex hr) rfl (x0.toNatClampNeg) (jk_self hv1 (by decide)) (jk_lt hv1) (by decide) dX2_first_13 ?_
  refine j_if_eq C 21 dX2_first_14 (by decide) (fun c2 => ?_) (fun c2 => ?_)
  · have hE := (if_pos c2).symm.trans hE
    refine j_iconst C 0 dX2_first_21 ic_0 ?_
    refine j_iadd C dX2_first_22 ?_
    exact B.2.2 _ _ _ _ dX2_first_23 rfl (congrArg (fun x => (x, u)) hE)
  · have hE := (if_neg c2).symm.trans hE
    refine j_iconst C 1 dX2_first_17 ic_1 ?_
    refine j_goto C 22 dX2_first_18 (by decide) ?_
    refine j_iadd C dX2_first_22 ?_
    exact B.2.2 _ _ _ _ dX2_first_23 rfl (congrArg (fun x => (x, u)) hE)
theorem c_R_first (l : Launch) (D : va_G) (z : Nat → ClassId) (a : Nat → Nat) (u : St) (r : Nat) (x0 : Int32) (hr : r < 2) (hG : g_R_first u r x0) : CtI l yX2_first (.code yX2_first cX2_first 2 (some .int) :: TT) rm_R_first D clA (tyl z) (cW z a) [.ref (a (23 + r)), .int x0] u (f_R_first u r x0) u :=
  jk_metI (own := RX2) (by decide) rfl (Nat.le_of_ble_eq_true rfl) (fun _ _ _ _ _ _ _ _ _ _ _ B => w_R_first_0 B hr x0 rfl hG)
def rm_R_second : Room := { frames := 0, cells := 0, slots := 0, locals := 0 }
def f_R_second (u : St) (r : Nat) (x0 : Int32) : Int32 := (if (u (40 + r) (x0.toNatClampNeg)) = (0 : Int32) then (((nI (4 * r)) + ((2 : Int32) * x0)) + (1 : Int32)) else (((nI (4 * r)) + ((2 : Int32) * x0)) + (0 : Int32)))
def g_R_second (u : St) (r : Nat) (x0 : Int32) : Prop := (vp_in x0 2)
set_option maxRecDepth 20000 in
set_option maxHeartbeats 1000000 in
theorem w_R_second_0 {Fr : Int32} {u : St} (B : jk_BI p l e R s m args below meth c cX2_second 2 RX2 TT .int D clA (tyl z) (cW z a) A Q rm_R_second (Fr, u)) {r : Nat} (hr : r < 2) (x0 : Int32) (hE : f_R_second u r x0 = Fr) (hG : g_R_second u r x0) : JJ p l e R s m args below meth c 0 0 2 D clA (cW z a) A Q 0 [(0, .ref (a (23 + r))), (1, .int x0)] u [] := by
  have C := B.1
  unfold f_R_second at hE
  unfold g_R_second at hG
  refine j_aload_n C 0 dX2_second_0 rfl ?_
  refine j_get C kf_2 (23 + r) (pl_rg hr) 0 (by decide) lk_2_9 rfl dX2_second_1 ?_
  refine j_iconst C 2 dX2_second_4 ic_2 ?_
  refine j_iload_n C 1 dX2_second_5 rfl ?_
  refine j_imul C dX2_second_6 ?_
  refine j_iadd C dX2_second_7 ?_
  refine j_aload_n C 0 dX2_second_8 rfl ?_
  refine j_get C kf_2 (23 + r) (pl_rg hr) 1 (by decide) lk_2_15 rfl dX2_second_9 ?_
  refine j_iload_n C 1 dX2_second_12 rfl ?_
  have hv1 := hG
  have lhv1 := jk_lt hv1
  refine j_zald C (25 + r) 1 (pl_ex hr) rfl (x0.toNatClampNeg) (jk_self hv1 (by decide)) (jk_lt hv1) (by decide) dX2_second_13 ?_
  refine j_if_eq C 21 dX2_second_14 (by decide) (fun c2 => ?_) (fun c2 => ?_)
  · have hE := (if_pos c2).symm.trans hE
    refine j_iconst C 1 dX2_second_21 ic_1 ?_
    refine j_iadd C dX2_second_22 ?_
    exact B.2.2 _ _ _ _ dX2_second_23 rfl (congrArg (fun x => (x, u)) hE)
  · have hE := (if_neg c2).symm.trans hE
    refine j_iconst C 0 dX2_second_17 ic_0 ?_
    refine j_goto C 22 dX2_second_18 (by decide) ?_
    refine j_iadd C dX2_second_22 ?_
    exact B.2.2 _ _ _ _ dX2_second_23 rfl (congrArg (fun x => (x, u)) hE)
theorem c_R_second (l : Launch) (D : va_G) (z : Nat → ClassId) (a : Nat → Nat) (u : St) (r : Nat) (x0 : Int32) (hr : r < 2) (hG : g_R_second u r x0) : CtI l yX2_second (.code yX2_second cX2_second 2 (some .int) :: TT) rm_R_second D clA (tyl z) (cW z a) [.ref (a (23 + r)), .int x0] u (f_R_second u r x0) u :=
  jk_metI (own := RX2) (by decide) rfl (Nat.le_of_ble_eq_true rfl) (fun _ _ _ _ _ _ _ _ _ _ _ B => w_R_second_0 B hr x0 rfl hG)
def rm_R_isBusyWith : Room := { frames := 0, cells := 0, slots := 0, locals := 0 }
def f_R_isBusyWith (u : St) (r : Nat) (x0 : Int32) : Int32 := (if (u 30 r) = x0 then (1 : Int32) else (if (u 35 r) = x0 then (1 : Int32) else (0 : Int32)))
set_option maxRecDepth 20000 in
set_option maxHeartbeats 1000000 in
theorem w_R_isBusyWith_0 {Fr : Int32} {u : St} (B : jk_BI p l e R s m args below meth c cX2_isBusyWith 2 RX2 TT .boolean D clA (tyl z) (cW z a) A Q rm_R_isBusyWith (Fr, u)) {r : Nat} (hr : r < 2) (x0 : Int32) (hE : f_R_isBusyWith u r x0 = Fr) : JJ p l e R s m args below meth c 0 0 2 D clA (cW z a) A Q 0 [(0, .ref (a (23 + r))), (1, .int x0)] u [] := by
  have C := B.1
  unfold f_R_isBusyWith at hE
  refine j_aload_n C 0 dX2_isBusyWith_0 rfl ?_
  refine j_get C kf_2 (23 + r) (pl_rg hr) 2 (by decide) lk_2_19 rfl dX2_isBusyWith_1 ?_
  refine j_iload_n C 1 dX2_isBusyWith_4 rfl ?_
  refine j_icmp_eq C 16 dX2_isBusyWith_5 (by decide) (fun c1 => ?_) (fun c1 => ?_)
  · have hE := (if_pos c1).symm.trans hE
    refine j_iconst C 1 dX2_isBusyWith_16 ic_1 ?_
    refine j_goto C 21 dX2_isBusyWith_17 (by decide) ?_
    exact B.2.2 _ _ _ _ dX2_isBusyWith_21 rfl (congrArg (fun x => (x, u)) hE)
  · have hE := (if_neg c1).symm.trans hE
    refine j_aload_n C 0 dX2_isBusyWith_8 rfl ?_
    refine j_get C kf_2 (23 + r) (pl_rg hr) 7 (by decide) lk_2_25 rfl dX2_isBusyWith_9 ?_
    refine j_iload_n C 1 dX2_isBusyWith_12 rfl ?_
    refine j_icmp_ne C 20 dX2_isBusyWith_13 (by decide) (fun c2 => ?_) (fun c2 => ?_)
    · have hE := (if_neg c2).symm.trans hE
      refine j_iconst C 0 dX2_isBusyWith_20 ic_0 ?_
      exact B.2.2 _ _ _ _ dX2_isBusyWith_21 rfl (congrArg (fun x => (x, u)) hE)
    · have hE := (if_pos c2).symm.trans hE
      refine j_iconst C 1 dX2_isBusyWith_16 ic_1 ?_
      refine j_goto C 21 dX2_isBusyWith_17 (by decide) ?_
      exact B.2.2 _ _ _ _ dX2_isBusyWith_21 rfl (congrArg (fun x => (x, u)) hE)
theorem c_R_isBusyWith (l : Launch) (D : va_G) (z : Nat → ClassId) (a : Nat → Nat) (u : St) (r : Nat) (x0 : Int32) (hr : r < 2) : CtI l yX2_isBusyWith (.code yX2_isBusyWith cX2_isBusyWith 2 (some .boolean) :: TT) rm_R_isBusyWith D clA (tyl z) (cW z a) [.ref (a (23 + r)), .int x0] u (f_R_isBusyWith u r x0) u :=
  jk_metI (own := RX2) (by decide) rfl (Nat.le_of_ble_eq_true rfl) (fun _ _ _ _ _ _ _ _ _ _ _ B => w_R_isBusyWith_0 B hr x0 rfl)
def rm_R_walking : Room := { frames := 0, cells := 0, slots := 0, locals := 0 }
def f_R_walking (u : St) (r : Nat) : Int32 := (if (u 36 r) ≤ (0 : Int32) then (if (u 37 r) ≤ (0 : Int32) then (0 : Int32) else (2 : Int32)) else (1 : Int32))
set_option maxRecDepth 20000 in
set_option maxHeartbeats 1000000 in
theorem w_R_walking_0 {Fr : Int32} {u : St} (B : jk_BI p l e R s m args below meth c cX2_walking 1 RX2 TT .int D clA (tyl z) (cW z a) A Q rm_R_walking (Fr, u)) {r : Nat} (hr : r < 2) (hE : f_R_walking u r = Fr) : JJ p l e R s m args below meth c 0 0 1 D clA (cW z a) A Q 0 [(0, .ref (a (23 + r)))] u [] := by
  have C := B.1
  unfold f_R_walking at hE
  refine j_aload_n C 0 dX2_walking_0 rfl ?_
  refine j_get C kf_2 (23 + r) (pl_rg hr) 8 (by decide) lk_2_28 rfl dX2_walking_1 ?_
  refine j_if_le C 9 dX2_walking_4 (by decide) (fun c1 => ?_) (fun c1 => ?_)
  · have hE := (if_pos c1).symm.trans hE
    refine j_aload_n C 0 dX2_walking_9 rfl ?_
    refine j_get C kf_2 (23 + r) (pl_rg hr) 9 (by decide) lk_2_31 rfl dX2_walking_10 ?_
    refine j_if_le C 20 dX2_walking_13 (by decide) (fun c2 => ?_) (fun c2 => ?_)
    · have hE := (if_pos c2).symm.trans hE
      refine j_iconst C 0 dX2_walking_20 ic_0 ?_
      exact B.2.2 _ _ _ _ dX2_walking_21 rfl (congrArg (fun x => (x, u)) hE)
    · have hE := (if_neg c2).symm.trans hE
      refine j_iconst C 2 dX2_walking_16 ic_2 ?_
      refine j_goto C 21 dX2_walking_17 (by decide) ?_
      exact B.2.2 _ _ _ _ dX2_walking_21 rfl (congrArg (fun x => (x, u)) hE)
  · have hE := (if_neg c1).symm.trans hE
    refine j_iconst C 1 dX2_walking_7 ic_1 ?_
    exact B.2.2 _ _ _ _ dX2_walking_8 rfl (congrArg (fun x => (x, u)) hE)
theorem c_R_walking (l : Launch) (D : va_G) (z : Nat → ClassId) (a : Nat → Nat) (u : St) (r : Nat) (hr : r < 2) : CtI l yX2_walking (.code yX2_walking cX2_walking 1 (some .int) :: TT) rm_R_walking D clA (tyl z) (cW z a) [.ref (a (23 + r))] u (f_R_walking u r) u :=
  jk_metI (own := RX2) (by decide) rfl (Nat.le_of_ble_eq_true rfl) (fun _ _ _ _ _ _ _ _ _ _ _ B => w_R_walking_0 B hr rfl)
def rm_R_mayEndGreen : Room := { frames := 1, cells := 0, slots := 0, locals := 20 }
def f_R_mayEndGreen (u : St) (r : Nat) (k : Nat) : Int32 := (if (u 32 r) < (u (20 + k) 0) then (0 : Int32) else (if (f_R_walking u r) = (0 : Int32) then (if (u 33 r) = (0 : Int32) then (1 : Int32) else (if (u 34 r) < (u (20 + k) 2) then (0 : Int32) else (1 : Int32))) else (0 : Int32)))
set_option maxRecDepth 20000 in
set_option maxHeartbeats 1000000 in
theorem w_R_mayEndGreen_0 {Fr : Int32} {u : St} (B : jk_BI p l e R s m args below meth c cX2_mayEndGreen 3 RX2 TT .boolean D clA (tyl z) (cW z a) A Q rm_R_mayEndGreen (Fr, u)) {r : Nat} (hr : r < 2) {k : Nat} (hk : k < 8) (hE : f_R_mayEndGreen u r k = Fr) : JJ p l e R s m args below meth c 0 0 3 D clA (cW z a) A Q 0 [(0, .ref (a (23 + r))), (1, .ref (a (15 + k)))] u [] := by
  have C := B.1
  unfold f_R_mayEndGreen at hE
  refine j_aload_n C 0 dX2_mayEndGreen_0 rfl ?_
  refine j_get C kf_2 (23 + r) (pl_rg hr) 4 (by decide) lk_2_34 rfl dX2_mayEndGreen_1 ?_
  refine j_aload_n C 1 dX2_mayEndGreen_4 rfl ?_
  refine j_iconst C 0 dX2_mayEndGreen_5 ic_0 ?_
  refine j_iald C (15 + k) 0 (pl_times hk) rfl 0 ix_0 (by decide) (by decide) dX2_mayEndGreen_6 ?_
  refine j_icmp_lt C 21 dX2_mayEndGreen_7 (by decide) (fun c1 => ?_) (fun c1 => ?_)
  · have hE := (if_pos c1).symm.trans hE
    refine j_iconst C 0 dX2_mayEndGreen_21 ic_0 ?_
    refine j_istore_n C dX2_mayEndGreen_22 (by decide) rfl ?_
    refine j_iload_n C 0 dX2_mayEndGreen_23 rfl ?_
    refine j_if_eq C 48 dX2_mayEndGreen_24 (by decide) (fun _ => ?_) (fun hq => False.elim (by revert hq; decide))
    refine j_iconst C 0 dX2_mayEndGreen_48 ic_0 ?_
    exact B.2.2 _ _ _ _ dX2_mayEndGreen_49 rfl (congrArg (fun x => (x, u)) hE)
  · have hE := (if_neg c1).symm.trans hE
    refine j_aload_n C 0 dX2_mayEndGreen_10 rfl ?_
    refine j_cIV C B.2.1 (c_R_walking l D z a u r hr) gv_2_37 dd_R_walking ⟨⟨rfl, rfl⟩, Nat.le_of_ble_eq_true rfl, Nat.le_of_ble_eq_true rfl⟩ (23 + r) 2 (pl_rg hr) rfl rfl rfl rfl (Nat.le_of_ble_eq_true rfl) dX2_mayEndGreen_11 ?_
    refine j_if_ne C 21 dX2_mayEndGreen_14 (by decide) (fun c2 => ?_) (fun c2 => ?_)
    · have hE := (if_neg c2).symm.trans hE
      refine j_iconst C 0 dX2_mayEndGreen_21 ic_0 ?_
      refine j_istore_n C dX2_mayEndGreen_22 (by decide) rfl ?_
      refine j_iload_n C 0 dX2_mayEndGreen_23 rfl ?_
      refine j_if_eq C 48 dX2_mayEndGreen_24 (by decide) (fun _ => ?_) (fun hq => False.elim (by revert hq; decide))
      refine j_iconst C 0 dX2_mayEndGreen_48 ic_0 ?_
      exact B.2.2 _ _ _ _ dX2_mayEndGreen_49 rfl (congrArg (fun x => (x, u)) hE)
    · have hE := (if_pos c2).symm.trans hE
      refine j_iconst C 1 dX2_mayEndGreen_17 ic_1 ?_
      refine j_goto C 22 dX2_mayEndGreen_18 (by decide) ?_
      refine j_istore_n C dX2_mayEndGreen_22 (by decide) rfl ?_
      refine j_iload_n C 0 dX2_mayEndGreen_23 rfl ?_
      refine j_if_eq C 48 dX2_mayEndGreen_24 (by decide) (fun hq => False.elim (by revert hq; decide)) (fun _ => ?_)
      refine j_aload_n C 1 dX2_mayEndGreen_27 rfl ?_
      refine j_get C kf_2 (23 + r) (pl_rg hr) 5 (by decide) lk_2_41 rfl dX2_mayEndGreen_28 ?_
      refine j_if_eq C 44 dX2_mayEndGreen_31 (by decide) (fun c3 => ?_) (fun c3 => ?_)
      · have hE := (if_pos c3).symm.trans hE
        refine j_iconst C 1 dX2_mayEndGreen_44 ic_1 ?_
        refine j_goto C 49 dX2_mayEndGreen_45 (by decide) ?_
        exact B.2.2 _ _ _ _ dX2_mayEndGreen_49 rfl (congrArg (fun x => (x, u)) hE)
      · have hE := (if_neg c3).symm.trans hE
        refine j_aload_n C 1 dX2_mayEndGreen_34 rfl ?_
        refine j_get C kf_2 (23 + r) (pl_rg hr) 6 (by decide) lk_2_44 rfl dX2_mayEndGreen_35 ?_
        refine j_aload_n C 2 dX2_mayEndGreen_38 rfl ?_
        refine j_iconst C 2 dX2_mayEndGreen_39 ic_2 ?_
        refine j_iald C (15 + k) 0 (pl_times hk) rfl 2 ix_2 (by decide) (by decide) dX2_mayEndGreen_40 ?_
        refine j_icmp_lt C 48 dX2_mayEndGreen_41 (by decide) (fun c4 => ?_) (fun c4 => ?_)
        · have hE := (if_pos c4).symm.trans hE
          refine j_iconst C 0 dX2_mayEndGreen_48 ic_0 ?_
          exact B.2.2 _ _ _ _ dX2_mayEndGreen_49 rfl (congrArg (fun x => (x, u)) hE)
        · have hE := (if_neg c4).symm.trans hE
          refine j_iconst C 1 dX2_mayEndGreen_44 ic_1 ?_
          refine j_goto C 49 dX2_mayEndGreen_45 (by decide) ?_
          exact B.2.2 _ _ _ _ dX2_mayEndGreen_49 rfl (congrArg (fun x => (x, u)) hE)
theorem c_R_mayEndGreen (l : Launch) (D : va_G) (z : Nat → ClassId) (a : Nat → Nat) (u : St) (r : Nat) (k : Nat) (hr : r < 2) (hk : k < 8) : CtI l yX2_mayEndGreen (.code yX2_mayEndGreen cX2_mayEndGreen 3 (some .boolean) :: TT) rm_R_mayEndGreen D clA (tyl z) (cW z a) [.ref (a (23 + r)), .ref (a (15 + k))] u (f_R_mayEndGreen u r k) u :=
  jk_metI (own := RX2) (by decide) rfl (Nat.le_of_ble_eq_true rfl) (fun _ _ _ _ _ _ _ _ _ _ _ B => w_R_mayEndGreen_0 B hr hk rfl)
end WLK

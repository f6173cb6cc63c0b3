section WLK
variable {p : Program} {l : Launch} {e : Env} {R : Room} {s : State} {m : MethodId} {args : Array Value} {below : List Frame} {meth : Method} {c : Code} {D : va_G} {z : Nat → ClassId} {a : Nat → Nat} {A : Nat → Prop} {Q : State → Prop}
def rm_isCalled : Room := { frames := 2, cells := 0, slots := 0, locals := 42 }
def f_isCalled (u : St) (k0 : Nat) : Int32 := (if (f_M_isWanted u k0) = (0 : Int32) then (0 : Int32) else (if (f_isGreen u k0) = (0 : Int32) then (1 : Int32) else (0 : Int32)))
set_option maxRecDepth 20000 in
set_option maxHeartbeats 1000000 in
theorem w_isCalled_0 {Fr : Int32} {u : St} (B : jk_BI p l e R s m args below meth c cX3_isCalled 2 RX3 TT .boolean D clA (tyl z) (cW z a) A Q rm_isCalled (Fr, u)) {k0 : Nat} (hk0 : k0 < 8) (hE : f_isCalled u k0 = Fr) : JJ p l e R s m args below meth c 0 0 2 D clA (cW z a) A Q 0 [(0, .ref (a 0)), (1, .int (nI k0))] u [] := by
  have C := B.1
  unfold f_isCalled at hE
  refine j_aload_n C 0 dX3_isCalled_0 rfl ?_
  refine j_get C kf_3 0 pl_desk 0 (by decide) lk_3_11 rfl dX3_isCalled_1 ?_
  refine j_iload_n C 1 dX3_isCalled_4 rfl ?_
  refine j_aald C 1 2 pl_mvs rfl k0 rfl hk0 (by decide) rfl dX3_isCalled_5 ?_
  refine j_cIV C B.2.1 (c_M_isWanted l D z a u k0 hk0) gv_3_246 dd_M_isWanted ⟨⟨rfl, rfl⟩, Nat.le_of_ble_eq_true rfl, Nat.le_of_ble_eq_true rfl⟩ (7 + k0) 1 (pl_mv hk0) rfl rfl rfl rfl (Nat.le_of_ble_eq_true rfl) dX3_isCalled_6 ?_
  refine j_if_eq C 24 dX3_isCalled_9 (by decide) (fun c1 => ?_) (fun c1 => ?_)
  · have hE := (if_pos c1).symm.trans hE
    refine j_iconst C 0 dX3_isCalled_24 ic_0 ?_
    exact B.2.2 _ _ _ _ dX3_isCalled_25 rfl (congrArg (fun x => (x, u)) hE)
  · have hE := (if_neg c1).symm.trans hE
    refine j_aload_n C 0 dX3_isCalled_12 rfl ?_
    refine j_iload_n C 1 dX3_isCalled_13 rfl ?_
    refine j_cIV C B.2.1 (c_isGreen l D z a u k0 hk0) gv_3_77 dd_isGreen ⟨⟨rfl, rfl⟩, Nat.le_of_ble_eq_true rfl, Nat.le_of_ble_eq_true rfl⟩ 0 3 pl_desk rfl rfl rfl rfl (Nat.le_of_ble_eq_true rfl) dX3_isCalled_14 ?_
    refine j_if_ne C 24 dX3_isCalled_17 (by decide) (fun c2 => ?_) (fun c2 => ?_)
    · have hE := (if_neg c2).symm.trans hE
      refine j_iconst C 0 dX3_isCalled_24 ic_0 ?_
      exact B.2.2 _ _ _ _ dX3_isCalled_25 rfl (congrArg (fun x => (x, u)) hE)
    · have hE := (if_pos c2).symm.trans hE
      refine j_iconst C 1 dX3_isCalled_20 ic_1 ?_
      refine j_goto C 25 dX3_isCalled_21 (by decide) ?_
      exact B.2.2 _ _ _ _ dX3_isCalled_25 rfl (congrArg (fun x => (x, u)) hE)
theorem c_isCalled (l : Launch) (D : va_G) (z : Nat → ClassId) (a : Nat → Nat) (u : St) (k0 : Nat) (hk0 : k0 < 8) : CtI l yX3_isCalled (.code yX3_isCalled cX3_isCalled 2 (some .boolean) :: TT) rm_isCalled D clA (tyl z) (cW z a) [.ref (a 0), .int (nI k0)] u (f_isCalled u k0) u :=
  jk_metI (own := RX3) (by decide) rfl (Nat.le_of_ble_eq_true rfl) (fun _ _ _ _ _ _ _ _ _ _ _ B => w_isCalled_0 B hk0 rfl)
def rm_mayEnd : Room := { frames := 2, cells := 0, slots := 0, locals := 42 }
def f_mayEnd (u : St) (r : Nat) : Int32 := (if (u 31 r) = (1 : Int32) then (if (f_R_mayEndGreen u r ((u 30 r).toNatClampNeg)) = (0 : Int32) then (0 : Int32) else (1 : Int32)) else (0 : Int32))
def g_mayEnd (u : St) (r : Nat) : Prop := (((u 31 r) = (1 : Int32) → (vp_in (u 30 r) 8)) ∧ (¬ (u 31 r) = (1 : Int32) → True))
set_option maxRecDepth 20000 in
set_option maxHeartbeats 1000000 in
theorem w_mayEnd_0 {Fr : Int32} {u : St} (B : jk_BI p l e R s m args below meth c cX3_mayEnd 2 RX3 TT .boolean D clA (tyl z) (cW z a) A Q rm_mayEnd (Fr, u)) {r : Nat} (hr : r < 2) (hE : f_mayEnd u r = Fr) (hG : g_mayEnd u r) : JJ p l e R s m args below meth c 0 0 2 D clA (cW z a) A Q 0 [(0, .ref (a 0)), (1, .ref (a (23 + r)))] u [] := by
  have C := B.1
  unfold f_mayEnd at hE
  unfold g_mayEnd at hG
  refine j_aload_n C 1 dX3_mayEnd_0 rfl ?_
  refine j_get C kf_2 (23 + r) (pl_rg hr) 3 (by decide) lk_3_140 rfl dX3_mayEnd_1 ?_
  refine j_iconst C 1 dX3_mayEnd_4 ic_1 ?_
  refine j_icmp_ne C 31 dX3_mayEnd_5 (by decide) (fun c1 => ?_) (fun c1 => ?_)
  · have hE := (if_neg c1).symm.trans hE
    refine j_iconst C 0 dX3_mayEnd_31 ic_0 ?_
    exact B.2.2 _ _ _ _ dX3_mayEnd_32 rfl (congrArg (fun x => (x, u)) hE)
  · have hE := (if_pos c1).symm.trans hE
    have hG := hG.1 c1
    refine j_aload_n C 1 dX3_mayEnd_8 rfl ?_
    refine j_aload_n C 0 dX3_mayEnd_9 rfl ?_
    refine j_get C kf_3 0 pl_desk 0 (by decide) lk_3_11 rfl dX3_mayEnd_10 ?_
    refine j_aload_n C 1 dX3_mayEnd_13 rfl ?_
    refine j_get C kf_2 (23 + r) (pl_rg hr) 2 (by decide) lk_3_137 rfl dX3_mayEnd_14 ?_
    have hv2 := hG
    have lhv2 := jk_lt hv2
    refine j_aald C 1 2 pl_mvs rfl ((u 30 r).toNatClampNeg) (jk_self hv2 (by decide)) (jk_lt hv2) (by decide) rfl dX3_mayEnd_17 ?_
    refine j_get C kf_1 (7 + ((u 30 r).toNatClampNeg)) (pl_mv (jk_lt hv2)) 0 (by decide) lk_3_46 rfl dX3_mayEnd_18 ?_
    refine j_cIV C B.2.1 (c_R_mayEndGreen l D z a u r ((u 30 r).toNatClampNeg) hr (jk_lt hv2)) gv_3_249 dd_R_mayEndGreen ⟨⟨rfl, rfl⟩, Nat.le_of_ble_eq_true rfl, Nat.le_of_ble_eq_true rfl⟩ (23 + r) 2 (pl_rg hr) rfl rfl rfl rfl (Nat.le_of_ble_eq_true rfl) dX3_mayEnd_21 ?_
    refine j_if_eq C 31 dX3_mayEnd_24 (by decide) (fun c3 => ?_) (fun c3 => ?_)
    · have hE := (if_pos c3).symm.trans hE
      refine j_iconst C 0 dX3_mayEnd_31 ic_0 ?_
      exact B.2.2 _ _ _ _ dX3_mayEnd_32 rfl (congrArg (fun x => (x, u)) hE)
    · have hE := (if_neg c3).symm.trans hE
      refine j_iconst C 1 dX3_mayEnd_27 ic_1 ?_
      refine j_goto C 32 dX3_mayEnd_28 (by decide) ?_
      exact B.2.2 _ _ _ _ dX3_mayEnd_32 rfl (congrArg (fun x => (x, u)) hE)
theorem c_mayEnd (l : Launch) (D : va_G) (z : Nat → ClassId) (a : Nat → Nat) (u : St) (r : Nat) (hr : r < 2) (hG : g_mayEnd u r) : CtI l yX3_mayEnd (.code yX3_mayEnd cX3_mayEnd 2 (some .boolean) :: TT) rm_mayEnd D clA (tyl z) (cW z a) [.ref (a 0), .ref (a (23 + r))] u (f_mayEnd u r) u :=
  jk_metI (own := RX3) (by decide) rfl (Nat.le_of_ble_eq_true rfl) (fun _ _ _ _ _ _ _ _ _ _ _ B => w_mayEnd_0 B hr rfl hG)
def rm_isIdle : Room := { frames := 0, cells := 0, slots := 0, locals := 0 }
def f_isIdle (u : St) (r : Nat) : Int32 := (if (u 31 r) = (0 : Int32) then (if (u 35 r) = (-1 : Int32) then (1 : Int32) else (0 : Int32)) else (0 : Int32))
set_option maxRecDepth 20000 in
set_option maxHeartbeats 1000000 in
theorem w_isIdle_0 {Fr : Int32} {u : St} (B : jk_BI p l e R s m args below meth c cX3_isIdle 1 RX3 TT .boolean D clA (tyl z) (cW z a) A Q rm_isIdle (Fr, u)) {r : Nat} (hr : r < 2) (hE : f_isIdle u r = Fr) : JJ p l e R s m args below meth c 0 0 1 D clA (cW z a) A Q 0 [(0, .ref (a (23 + r)))] u [] := by
  have C := B.1
  unfold f_isIdle at hE
  refine j_aload_n C 0 dX3_isIdle_0 rfl ?_
  refine j_get C kf_2 (23 + r) (pl_rg hr) 3 (by decide) lk_3_140 rfl dX3_isIdle_1 ?_
  refine j_if_ne C 19 dX3_isIdle_4 (by decide) (fun c1 => ?_) (fun c1 => ?_)
  · have hE := (if_neg c1).symm.trans hE
    refine j_iconst C 0 dX3_isIdle_19 ic_0 ?_
    exact B.2.2 _ _ _ _ dX3_isIdle_20 rfl (congrArg (fun x => (x, u)) hE)
  · have hE := (if_pos c1).symm.trans hE
    refine j_aload_n C 0 dX3_isIdle_7 rfl ?_
    refine j_get C kf_2 (23 + r) (pl_rg hr) 7 (by decide) lk_3_100 rfl dX3_isIdle_8 ?_
    refine j_iconst C (-1) dX3_isIdle_11 ic_m1 ?_
    refine j_icmp_ne C 19 dX3_isIdle_12 (by decide) (fun c2 => ?_) (fun c2 => ?_)
    · have hE := (if_neg c2).symm.trans hE
      refine j_iconst C 0 dX3_isIdle_19 ic_0 ?_
      exact B.2.2 _ _ _ _ dX3_isIdle_20 rfl (congrArg (fun x => (x, u)) hE)
    · have hE := (if_pos c2).symm.trans hE
      refine j_iconst C 1 dX3_isIdle_15 ic_1 ?_
      refine j_goto C 20 dX3_isIdle_16 (by decide) ?_
      exact B.2.2 _ _ _ _ dX3_isIdle_20 rfl (congrArg (fun x => (x, u)) hE)
theorem c_isIdle (l : Launch) (D : va_G) (z : Nat → ClassId) (a : Nat → Nat) (u : St) (r : Nat) (hr : r < 2) : CtI l yX3_isIdle (.code yX3_isIdle cX3_isIdle 1 (some .boolean) :: TT) rm_isIdle D clA (tyl z) (cW z a) [.ref (a (23 + r))] u (f_isIdle u r) u :=
  jk_metI (own := RX3) (by decide) rfl (Nat.le_of_ble_eq_true rfl) (fun _ _ _ _ _ _ _ _ _ _ _ B => w_isIdle_0 B hr rfl)
def rm_isReady : Room := { frames := 3, cells := 0, slots := 0, locals := 63 }
def f_isReady (u : St) (r : Nat) : Int32 := (if (f_mayEnd u r) = (0 : Int32) then (if (f_isIdle u r) = (0 : Int32) then (0 : Int32) else (1 : Int32)) else (1 : Int32))
def g_isReady (u : St) (r : Nat) : Prop := (g_mayEnd u r)
set_option maxRecDepth 20000 in
set_option maxHeartbeats 1000000 in
theorem w_isReady_0 {Fr : Int32} {u : St} (B : jk_BI p l e R s m args below meth c cX3_isReady 2 RX3 TT .boolean D clA (tyl z) (cW z a) A Q rm_isReady (Fr, u)) {r : Nat} (hr : r < 2) (hE : f_isReady u r = Fr) (hG : g_isReady u r) : JJ p l e R s m args below meth c 0 0 2 D clA (cW z a) A Q 0 [(0, .ref (a 0)), (1, .ref (a (23 + r)))] u [] := by
  have C := B.1
  unfold f_isReady at hE
  unfold g_isReady at hG
  refine j_aload_n C 0 dX3_isReady_0 rfl ?_
  refine j_aload_n C 1 dX3_isReady_1 rfl ?_
  have hg1 := hG
  refine j_cIV C B.2.1 (c_mayEnd l D z a u r hr hg1) gv_3_152 dd_mayEnd ⟨⟨rfl, rfl⟩, Nat.le_of_ble_eq_true rfl, Nat.le_of_ble_eq_true rfl⟩ 0 3 pl_desk rfl rfl rfl rfl (Nat.le_of_ble_eq_true rfl) dX3_isReady_2 ?_
  refine j_if_ne C 15 dX3_isReady_5 (by decide) (fun c2 => ?_) (fun c2 => ?_)
  · have hE := (if_neg c2).symm.trans hE
    refine j_iconst C 1 dX3_isReady_15 ic_1 ?_
    refine j_goto C 20 dX3_isReady_16 (by decide) ?_
    exact B.2.2 _ _ _ _ dX3_isReady_20 rfl (congrArg (fun x => (x, u)) hE)
  · have hE := (if_pos c2).symm.trans hE
    refine j_aload_n C 1 dX3_isReady_8 rfl ?_
    refine j_cIS C B.2.1 (c_isIdle l D z a u r hr) gv_3_212 dd_isIdle ⟨⟨rfl, rfl⟩, Nat.le_of_ble_eq_true rfl, Nat.le_of_ble_eq_true rfl⟩ rfl rfl (Nat.le_of_ble_eq_true rfl) dX3_isReady_9 ?_
    refine j_if_eq C 19 dX3_isReady_12 (by decide) (fun c3 => ?_) (fun c3 => ?_)
    · have hE := (if_pos c3).symm.trans hE
      refine j_iconst C 0 dX3_isReady_19 ic_0 ?_
      exact B.2.2 _ _ _ _ dX3_isReady_20 rfl (congrArg (fun x => (x, u)) hE)
    · have hE := (if_neg c3).symm.trans hE
      refine j_iconst C 1 dX3_isReady_15 ic_1 ?_
      refine j_goto C 20 dX3_isReady_16 (by decide) ?_
      exact B.2.2 _ _ _ _ dX3_isReady_20 rfl (congrArg (fun x => (x, u)) hE)
theorem c_isReady (l : Launch) (D : va_G) (z : Nat → ClassId) (a : Nat → Nat) (u : St) (r : Nat) (hr : r < 2) (hG : g_isReady u r) : CtI l yX3_isReady (.code yX3_isReady cX3_isReady 2 (some .boolean) :: TT) rm_isReady D clA (tyl z) (cW z a) [.ref (a 0), .ref (a (23 + r))] u (f_isReady u r) u :=
  jk_metI (own := RX3) (by decide) rfl (Nat.le_of_ble_eq_true rfl) (fun _ _ _ _ _ _ _ _ _ _ _ B => w_isReady_0 B hr rfl hG)
def rm_isFlashing : Room := { frames := 0, cells := 0, slots := 0, locals := 0 }
def f_isFlashing (u : St)  : Int32 := (if (u 1 0) = (0 : Int32) then (0 : Int32) else (1 : Int32))
set_option maxRecDepth 20000 in
set_option maxHeartbeats 1000000 in
theorem w_isFlashing_0 {Fr : Int32} {u : St} (B : jk_BI p l e R s m args below meth c cX3_isFlashing 1 RX3 TT .boolean D clA (tyl z) (cW z a) A Q rm_isFlashing (Fr, u))  (hE : f_isFlashing u = Fr) : JJ p l e R s m args below meth c 0 0 1 D clA (cW z a) A Q 0 [(0, .ref (a 0))] u [] := by
  have C := B.1
  unfold f_isFlashing at hE
  refine j_aload_n C 0 dX3_isFlashing_0 rfl ?_
  refine j_get C kf_3 0 pl_desk 2 (by decide) lk_3_28 rfl dX3_isFlashing_1 ?_
  refine j_get C kf_0 3 pl_guard 3 (by decide) lk_3_159 rfl dX3_isFlashing_4 ?_
  refine j_if_eq C 14 dX3_isFlashing_7 (by decide) (fun c1 => ?_) (fun c1 => ?_)
  · have hE := (if_pos c1).symm.trans hE
    refine j_iconst C 0 dX3_isFlashing_14 ic_0 ?_
    exact B.2.2 _ _ _ _ dX3_isFlashing_15 rfl (congrArg (fun x => (x, u)) hE)
  · have hE := (if_neg c1).symm.trans hE
    refine j_iconst C 1 dX3_isFlashing_10 ic_1 ?_
    refine j_goto C 15 dX3_isFlashing_11 (by decide) ?_
    exact B.2.2 _ _ _ _ dX3_isFlashing_15 rfl (congrArg (fun x => (x, u)) hE)
theorem c_isFlashing (l : Launch) (D : va_G) (z : Nat → ClassId) (a : Nat → Nat) (u : St)  : CtI l yX3_isFlashing (.code yX3_isFlashing cX3_isFlashing 1 (some .boolean) :: TT) rm_isFlashing D clA (tyl z) (cW z a) [.ref (a 0)] u (f_isFlashing u) u :=
  jk_metI (own := RX3) (by decide) rfl (Nat.le_of_ble_eq_true rfl) (fun _ _ _ _ _ _ _ _ _ _ _ B => w_isFlashing_0 B rfl)
def rm_toldLight : Room := { frames := 1, cells := 0, slots := 0, locals := 20 }
def f_toldLight (u : St) (k0 : Nat) : Int32 := (if (u 30 (k0 / 4)) = (nI k0) then (if (u 31 (k0 / 4)) = (1 : Int32) then (2 : Int32) else (if (u 31 (k0 / 4)) = (2 : Int32) then (1 : Int32) else (0 : Int32))) else (0 : Int32))
set_option maxRecDepth 20000 in
set_option maxHeartbeats 1000000 in
theorem w_toldLight_0 {Fr : Int32} {u : St} (B : jk_BI p l e R s m args below meth c cX3_toldLight 3 RX3 TT .int D clA (tyl z) (cW z a) A Q rm_toldLight (Fr, u)) {k0 : Nat} (hk0 : k0 < 8) (hE : f_toldLight u k0 = Fr) : JJ p l e R s m args below meth c 0 0 3 D clA (cW z a) A Q 0 [(0, .ref (a 0)), (1, .int (nI k0))] u [] := by
  have C := B.1
  unfold f_toldLight at hE
  refine j_aload_n C 0 dX3_toldLight_0 rfl ?_
  refine j_get C kf_3 0 pl_desk 1 (by decide) lk_3_18 rfl dX3_toldLight_1 ?_
  refine j_iload_n C 1 dX3_toldLight_4 rfl ?_
  refine j_cIS C B.2.1 (c_ringOf l D z a u k0 hk0) gv_3_115 dd_ringOf ⟨⟨rfl, rfl⟩, Nat.le_of_ble_eq_true rfl, Nat.le_of_ble_eq_true rfl⟩ rfl rfl (Nat.le_of_ble_eq_true rfl) dX3_toldLight_5 ?_
  refine j_aald C 2 3 pl_rgs rfl (k0 / 4) rfl (by omega) (by decide) rfl dX3_toldLight_8 ?_
  refine j_astore_n C dX3_toldLight_9 (by decide) rfl ?_
  refine j_aload_n C 0 dX3_toldLight_10 rfl ?_
  refine j_get C kf_2 (23 + (k0 / 4)) (pl_rg (by omega)) 2 (by decide) lk_3_137 rfl dX3_toldLight_11 ?_
  refine j_iload_n C 2 dX3_toldLight_14 rfl ?_
  refine j_icmp_eq C 20 dX3_toldLight_15 (by decide) (fun c1 => ?_) (fun c1 => ?_)
  · have hE := (if_pos c1).symm.trans hE
    refine j_aload_n C 0 dX3_toldLight_20 rfl ?_
    refine j_get C kf_2 (23 + (k0 / 4)) (pl_rg (by omega)) 3 (by decide) lk_3_140 rfl dX3_toldLight_21 ?_
    refine j_iconst C 1 dX3_toldLight_24 ic_1 ?_
    refine j_icmp_ne C 30 dX3_toldLight_25 (by decide) (fun c2 => ?_) (fun c2 => ?_)
    · have hE := (if_neg c2).symm.trans hE
      refine j_aload_n C 0 dX3_toldLight_30 rfl ?_
      refine j_get C kf_2 (23 + (k0 / 4)) (pl_rg (by omega)) 3 (by decide) lk_3_140 rfl dX3_toldLight_31 ?_
      refine j_iconst C 2 dX3_toldLight_34 ic_2 ?_
      refine j_icmp_ne C 42 dX3_toldLight_35 (by decide) (fun c3 => ?_) (fun c3 => ?_)
      · have hE := (if_neg c3).symm.trans hE
        refine j_iconst C 0 dX3_toldLight_42 ic_0 ?_
        exact B.2.2 _ _ _ _ dX3_toldLight_43 rfl (congrArg (fun x => (x, u)) hE)
      · have hE := (if_pos c3).symm.trans hE
        refine j_iconst C 1 dX3_toldLight_38 ic_1 ?_
        refine j_goto C 43 dX3_toldLight_39 (by decide) ?_
        exact B.2.2 _ _ _ _ dX3_toldLight_43 rfl (congrArg (fun x => (x, u)) hE)
    · have hE := (if_pos c2).symm.trans hE
      refine j_iconst C 2 dX3_toldLight_28 ic_2 ?_
      exact B.2.2 _ _ _ _ dX3_toldLight_29 rfl (congrArg (fun x => (x, u)) hE)
  · have hE := (if_neg c1).symm.trans hE
    refine j_iconst C 0 dX3_toldLight_18 ic_0 ?_
    exact B.2.2 _ _ _ _ dX3_toldLight_19 rfl (congrArg (fun x => (x, u)) hE)
theorem c_toldLight (l : Launch) (D : va_G) (z : Nat → ClassId) (a : Nat → Nat) (u : St) (k0 : Nat) (hk0 : k0 < 8) : CtI l yX3_toldLight (.code yX3_toldLight cX3_toldLight 3 (some .int) :: TT) rm_toldLight D clA (tyl z) (cW z a) [.ref (a 0), .int (nI k0)] u (f_toldLight u k0) u :=
  jk_metI (own := RX3) (by decide) rfl (Nat.le_of_ble_eq_true rfl) (fun _ _ _ _ _ _ _ _ _ _ _ B => w_toldLight_0 B hk0 rfl)
def rm_shownLight : Room := { frames := 2, cells := 0, slots := 0, locals := 42 }
def f_shownLight (u : St) (k0 : Nat) : Int32 := (if (u 17 k0) = (-1 : Int32) then (f_toldLight u k0) else (u 17 k0))
set_option maxRecDepth 20000 in
set_option maxHeartbeats 1000000 in
theorem w_shownLight_0 {Fr : Int32} {u : St} (B : jk_BI p l e R s m args below meth c cX3_shownLight 3 RX3 TT .int D clA (tyl z) (cW z a) A Q rm_shownLight (Fr, u)) {k0 : Nat} (hk0 : k0 < 8) (hE : f_shownLight u k0 = Fr) : JJ p l e R s m args below meth c 0 0 3 D clA (cW z a) A Q 0 [(0, .ref (a 0)), (1, .int (nI k0))] u [] := by
  have C := B.1
  unfold f_shownLight at hE
  refine j_aload_n C 0 dX3_shownLight_0 rfl ?_
  refine j_get C kf_3 0 pl_desk 0 (by decide) lk_3_11 rfl dX3_shownLight_1 ?_
  refine j_iload_n C 1 dX3_shownLight_4 rfl ?_
  refine j_aald C 1 2 pl_mvs rfl k0 rfl hk0 (by decide) rfl dX3_shownLight_5 ?_
  refine j_get C kf_1 (7 + k0) (pl_mv hk0) 8 (by decide) lk_3_86 rfl dX3_shownLight_6 ?_
  refine j_istore_n C dX3_shownLight_9 (by decide) rfl ?_
  refine j_iload_n C 0 dX3_shownLight_10 rfl ?_
  refine j_iconst C (-1) dX3_shownLight_11 ic_m1 ?_
  refine j_icmp_eq C 19 dX3_shownLight_12 (by decide) (fun c1 => ?_) (fun c1 => ?_)
  · have hE := (if_pos c1).symm.trans hE
    refine j_aload_n C 1 dX3_shownLight_19 rfl ?_
    refine j_iload_n C 2 dX3_shownLight_20 rfl ?_
    refine j_cIV C B.2.1 (c_toldLight l D z a u k0 hk0) gv_3_165 dd_toldLight ⟨⟨rfl, rfl⟩, Nat.le_of_ble_eq_true rfl, Nat.le_of_ble_eq_true rfl⟩ 0 3 pl_desk rfl rfl rfl rfl (Nat.le_of_ble_eq_true rfl) dX3_shownLight_21 ?_
    exact B.2.2 _ _ _ _ dX3_shownLight_24 rfl (congrArg (fun x => (x, u)) hE)
  · have hE := (if_neg c1).symm.trans hE
    refine j_iload_n C 0 dX3_shownLight_15 rfl ?_
    refine j_goto C 24 dX3_shownLight_16 (by decide) ?_
    exact B.2.2 _ _ _ _ dX3_shownLight_24 rfl (congrArg (fun x => (x, u)) hE)
theorem c_shownLight (l : Launch) (D : va_G) (z : Nat → ClassId) (a : Nat → Nat) (u : St) (k0 : Nat) (hk0 : k0 < 8) : CtI l yX3_shownLight (.code yX3_shownLight cX3_shownLight 3 (some .int) :: TT) rm_shownLight D clA (tyl z) (cW z a) [.ref (a 0), .int (nI k0)] u (f_shownLight u k0) u :=
  jk_metI (own := RX3) (by decide) rfl (Nat.le_of_ble_eq_true rfl) (fun _ _ _ _ _ _ _ _ _ _ _ B => w_shownLight_0 B hk0 rfl)
def rm_isMovement : Room := { frames := 0, cells := 0, slots := 0, locals := 0 }
def f_isMovement (x0 : Int32) : Int32 := (if x0 < (0 : Int32) then (0 : Int32) else (if (8 : Int32) ≤ x0 then (0 : Int32) else (1 : Int32)))
set_option maxRecDepth 20000 in
set_option maxHeartbeats 1000000 in
theorem w_isMovement_0 {Fr : Int32} {u : St} (B : jk_BI p l e R s m args below meth c cX3_isMovement 1 RX3 TT .boolean D clA (tyl z) (cW z a) A Q rm_isMovement (Fr, u)) (x0 : Int32) (hE : f_isMovement x0 = Fr) : JJ p l e R s m args below meth c 0 0 1 D clA (cW z a) A Q 0 [(0, .int x0)] u [] := by
  have C := B.1
  unfold f_isMovement at hE
  refine j_iload_n C 0 dX3_isMovement_0 rfl ?_
  refine j_if_lt C 14 dX3_isMovement_1 (by decide) (fun c1 => ?_) (fun c1 => ?_)
  · have hE := (if_pos c1).symm.trans hE
    refine j_iconst C 0 dX3_isMovement_14 ic_0 ?_
    exact B.2.2 _ _ _ _ dX3_isMovement_15 rfl (congrArg (fun x => (x, u)) hE)
  · have hE := (if_neg c1).symm.trans hE
    refine j_iload_n C 0 dX3_isMovement_4 rfl ?_
    refine j_bipush C 8 dX3_isMovement_5 bp_8 ?_
    refine j_icmp_ge C 14 dX3_isMovement_7 (by decide) (fun c2 => ?_) (fun c2 => ?_)
    · have hE := (if_pos c2).symm.trans hE
      refine j_iconst C 0 dX3_isMovement_14 ic_0 ?_
      exact B.2.2 _ _ _ _ dX3_isMovement_15 rfl (congrArg (fun x => (x, u)) hE)
    · have hE := (if_neg c2).symm.trans hE
      refine j_iconst C 1 dX3_isMovement_10 ic_1 ?_
      refine j_goto C 15 dX3_isMovement_11 (by decide) ?_
      exact B.2.2 _ _ _ _ dX3_isMovement_15 rfl (congrArg (fun x => (x, u)) hE)
theorem c_isMovement (l : Launch) (D : va_G) (z : Nat → ClassId) (a : Nat → Nat) (u : St) (x0 : Int32) : CtI l yX3_isMovement (.code yX3_isMovement cX3_isMovement 1 (some .boolean) :: TT) rm_isMovement D clA (tyl z) (cW z a) [.int x0] u (f_isMovement x0) u :=
  jk_metI (own := RX3) (by decide) rfl (Nat.le_of_ble_eq_true rfl) (fun _ _ _ _ _ _ _ _ _ _ _ B => w_isMovement_0 B x0 rfl)
def rm_isRing : Room := { frames := 0, cells := 0, slots := 0, locals := 0 }
def f_isRing (x0 : Int32) : Int32 := (if x0 < (0 : Int32) then (0 : Int32) else (if (2 : Int32) ≤ x0 then (0 : Int32) else (1 : Int32)))
set_option maxRecDepth 20000 in
set_option maxHeartbeats 1000000 in
theorem w_isRing_0 {Fr : Int32} {u : St} (B : jk_BI p l e R s m args below meth c cX3_isRing 1 RX3 TT .boolean D clA (tyl z) (cW z a) A Q rm_isRing (Fr, u)) (x0 : Int32) (hE : f_isRing x0 = Fr) : JJ p l e R s m args below meth c 0 0 1 D clA (cW z a) A Q 0 [(0, .int x0)] u [] := by
  have C := B.1
  unfold f_isRing at hE
  refine j_iload_n C 0 dX3_isRing_0 rfl ?_
  refine j_if_lt C 13 dX3_isRing_1 (by decide) (fun c1 => ?_) (fun c1 => ?_)
  · have hE := (if_pos c1).symm.trans hE
    refine j_iconst C 0 dX3_isRing_13 ic_0 ?_
    exact B.2.2 _ _ _ _ dX3_isRing_14 rfl (congrArg (fun x => (x, u)) hE)
  · have hE := (if_neg c1).symm.trans hE
    refine j_iload_n C 0 dX3_isRing_4 rfl ?_
    refine j_iconst C 2 dX3_isRing_5 ic_2 ?_
    refine j_icmp_ge C 13 dX3_isRing_6 (by decide) (fun c2 => ?_) (fun c2 => ?_)
    · have hE := (if_pos c2).symm.trans hE
      refine j_iconst C 0 dX3_isRing_13 ic_0 ?_
      exact B.2.2 _ _ _ _ dX3_isRing_14 rfl (congrArg (fun x => (x, u)) hE)
    · have hE := (if_neg c2).symm.trans hE
      refine j_iconst C 1 dX3_isRing_9 ic_1 ?_
      refine j_goto C 14 dX3_isRing_10 (by decide) ?_
      exact B.2.2 _ _ _ _ dX3_isRing_14 rfl (congrArg (fun x => (x, u)) hE)
theorem c_isRing (l : Launch) (D : va_G) (z : Nat → ClassId) (a : Nat → Nat) (u : St) (x0 : Int32) : CtI l yX3_isRing (.code yX3_isRing cX3_isRing 1 (some .boolean) :: TT) rm_isRing D clA (tyl z) (cW z a) [.int x0] u (f_isRing x0) u :=
  jk_metI (own := RX3) (by decide) rfl (Nat.le_of_ble_eq_true rfl) (fun _ _ _ _ _ _ _ _ _ _ _ B => w_isRing_0 B x0 rfl)
def rm_number : Room := { frames := 0, cells := 0, slots := 0, locals := 0 }
def f_number (b0 : Int32) : Int32 := (if b0 = (0 : Int32) then (0 : Int32) else (1 : Int32))
set_option maxRecDepth 20000 in
set_option maxHeartbeats 1000000 in
theorem w_number_0 {Fr : Int32} {u : St} (B : jk_BI p l e R s m args below meth c cX3_number 1 RX3 TT .int D clA (tyl z) (cW z a) A Q rm_number (Fr, u)) (b0 : Int32) (hE : f_number b0 = Fr) : JJ p l e R s m args below meth c 0 0 1 D clA (cW z a) A Q 0 [(0, .int b0)] u [] := by
  have C := B.1
  unfold f_number at hE
  refine j_iload_n C 0 dX3_number_0 rfl ?_
  refine j_if_eq C 8 dX3_number_1 (by decide) (fun c1 => ?_) (fun c1 => ?_)
  · have hE := (if_pos c1).symm.trans hE
    refine j_iconst C 0 dX3_number_8 ic_0 ?_
    exact B.2.2 _ _ _ _ dX3_number_9 rfl (congrArg (fun x => (x, u)) hE)
  · have hE := (if_neg c1).symm.trans hE
    refine j_iconst C 1 dX3_number_4 ic_1 ?_
    refine j_goto C 9 dX3_number_5 (by decide) ?_
    exact B.2.2 _ _ _ _ dX3_number_9 rfl (congrArg (fun x => (x, u)) hE)
theorem c_number (l : Launch) (D : va_G) (z : Nat → ClassId) (a : Nat → Nat) (u : St) (b0 : Int32) : CtI l yX3_number (.code yX3_number cX3_number 1 (some .int) :: TT) rm_number D clA (tyl z) (cW z a) [.int b0] u (f_number b0) u :=
  jk_metI (own := RX3) (by decide) rfl (Nat.le_of_ble_eq_true rfl) (fun _ _ _ _ _ _ _ _ _ _ _ B => w_number_0 B b0 rfl)
def rm_isAnyCalledOn : Room := { frames := 3, cells := 0, slots := 0, locals := 63 }
def f_isAnyCalledOn_2 (u : St) (x0 : Int32) : Nat → Nat → Int32
  | 0, i => (0 : Int32)
  | n + 1, i => (if (f_sideOf i) = x0 then (if (f_isCalled u i) = (0 : Int32) then (f_isAnyCalledOn_2 u x0 n (i + 1)) else (1 : Int32)) else (f_isAnyCalledOn_2 u x0 n (i + 1)))
set_option maxRecDepth 20000 in
set_option maxHeartbeats 1000000 in
theorem w_isAnyCalledOn_2 {Fr : Int32} {u : St} (B : jk_BI p l e R s m args below meth c cX3_isAnyCalledOn 3 RX3 TT .boolean D clA (tyl z) (cW z a) A Q rm_isAnyCalledOn (Fr, u)) (x0 : Int32) : ∀ (n i : Nat), i + n = 8 → f_isAnyCalledOn_2 u x0 n i = Fr → JJ p l e R s m args below meth c 0 0 3 D clA (cW z a) A Q 2 [(2, .int (nI i)), (0, .ref (a 0)), (1, .int x0)] u [] := by
  have C := B.1
  intro n
  induction n with
  | zero =>
    intro i hin hE
    obtain rfl : i = 8 := by omega
    have hge : (8 : Int32) ≤ nI 8 := by decide
    refine j_iload_n C 0 dX3_isAnyCalledOn_2 rfl ?_
    refine j_bipush C 8 dX3_isAnyCalledOn_3 bp_8 ?_
    refine j_icmp_ge C 32 dX3_isAnyCalledOn_5 (by decide) (fun _ => ?_) (fun hq => absurd hge hq)
    refine j_iconst C 0 dX3_isAnyCalledOn_32 ic_0 ?_
    exact B.2.2 _ _ _ _ dX3_isAnyCalledOn_33 rfl (congrArg (fun x => (x, u)) hE)
  | succ n ih =>
    intro i hin hE
    have hlt : i < 8 := by omega
    have hnge : ¬ (8 : Int32) ≤ nI i := lt8 i hlt
    refine j_iload_n C 0 dX3_isAnyCalledOn_2 rfl ?_
    refine j_bipush C 8 dX3_isAnyCalledOn_3 bp_8 ?_
    refine j_icmp_ge C 32 dX3_isAnyCalledOn_5 (by decide) (fun hq => absurd hq hnge) (fun _ => ?_)
    refine j_iload_n C 0 dX3_isAnyCalledOn_8 rfl ?_
    refine j_cIS C B.2.1 (c_sideOf l D z a u i hlt) gv_3_243 dd_sideOf ⟨⟨rfl, rfl⟩, Nat.le_of_ble_eq_true rfl, Nat.le_of_ble_eq_true rfl⟩ rfl rfl (Nat.le_of_ble_eq_true rfl) dX3_isAnyCalledOn_9 ?_
    refine j_iload_n C 2 dX3_isAnyCalledOn_12 rfl ?_
    refine j_icmp_ne C 26 dX3_isAnyCalledOn_13 (by decide) (fun c1 => ?_) (fun c1 => ?_)
    · have hE := (if_neg c1).symm.trans hE
      refine j_iinc C 0 (nI (i + 1)) dX3_isAnyCalledOn_26 rfl (nI_1 _) (by decide) rfl ?_
      refine j_goto C 2 dX3_isAnyCalledOn_29 (by decide) ?_
      exact ih (i + 1) (by omega) hE
    · have hE := (if_pos c1).symm.trans hE
      refine j_aload_n C 1 dX3_isAnyCalledOn_16 rfl ?_
      refine j_iload_n C 0 dX3_isAnyCalledOn_17 rfl ?_
      refine j_cIV C B.2.1 (c_isCalled l D z a u i hlt) gv_3_121 dd_isCalled ⟨⟨rfl, rfl⟩, Nat.le_of_ble_eq_true rfl, Nat.le_of_ble_eq_true rfl⟩ 0 3 pl_desk rfl rfl rfl rfl (Nat.le_of_ble_eq_true rfl) dX3_isAnyCalledOn_18 ?_
      refine j_if_eq C 26 dX3_isAnyCalledOn_21 (by decide) (fun c2 => ?_) (fun c2 => ?_)
      · have hE := (if_pos c2).symm.trans hE
        refine j_iinc C 0 (nI (i + 1)) dX3_isAnyCalledOn_26 rfl (nI_1 _) (by decide) rfl ?_
        refine j_goto C 2 dX3_isAnyCalledOn_29 (by decide) ?_
        exact ih (i + 1) (by omega) hE
      · have hE := (if_neg c2).symm.trans hE
        refine j_iconst C 1 dX3_isAnyCalledOn_24 ic_1 ?_
        exact B.2.2 _ _ _ _ dX3_isAnyCalledOn_25 rfl (congrArg (fun x => (x, u)) hE)
def f_isAnyCalledOn (u : St) (x0 : Int32) : Int32 := (f_isAnyCalledOn_2 u x0 8 0)
set_option maxRecDepth 20000 in
set_option maxHeartbeats 1000000 in
theorem w_isAnyCalledOn_0 {Fr : Int32} {u : St} (B : jk_BI p l e R s m args below meth c cX3_isAnyCalledOn 3 RX3 TT .boolean D clA (tyl z) (cW z a) A Q rm_isAnyCalledOn (Fr, u)) (x0 : Int32) (hE : f_isAnyCalledOn u x0 = Fr) : JJ p l e R s m args below meth c 0 0 3 D clA (cW z a) A Q 0 [(0, .ref (a 0)), (1, .int x0)] u [] := by
  have C := B.1
  unfold f_isAnyCalledOn at hE
  refine j_iconst C 0 dX3_isAnyCalledOn_0 ic_0 ?_
  refine j_istore_n C dX3_isAnyCalledOn_1 (by decide) rfl ?_
  refine j_lq (congrArg (fun x => ([(2, .int x), (0, .ref (a 0)), (1, .int x0)] : List (Nat × Value))) ix_0) ?_
  exact w_isAnyCalledOn_2 B x0 8 0 (by omega) hE
theorem c_isAnyCalledOn (l : Launch) (D : va_G) (z : Nat → ClassId) (a : Nat → Nat) (u : St) (x0 : Int32) : CtI l yX3_isAnyCalledOn (.code yX3_isAnyCalledOn cX3_isAnyCalledOn 3 (some .boolean) :: TT) rm_isAnyCalledOn D clA (tyl z) (cW z a) [.ref (a 0), .int x0] u (f_isAnyCalledOn u x0) u :=
  jk_metI (own := RX3) (by decide) rfl (Nat.le_of_ble_eq_true rfl) (fun _ _ _ _ _ _ _ _ _ _ _ B => w_isAnyCalledOn_0 B x0 rfl)
def rm_calledOn : Room := { frames := 3, cells := 0, slots := 0, locals := 63 }
def f_calledOn (u : St) (r : Nat) (x0 : Int32) : Int32 := (if (f_isCalled u ((f_R_first u r x0).toNatClampNeg)) = (0 : Int32) then (if (f_isCalled u ((f_R_second u r x0).toNatClampNeg)) = (0 : Int32) then (-1 : Int32) else (f_R_second u r x0)) else (f_R_first u r x0))
def g_calledOn (u : St) (r : Nat) (x0 : Int32) : Prop := ((g_R_first u r x0) ∧ ((vp_in (f_R_first u r x0) 8) ∧ (((f_isCalled u ((f_R_first u r x0).toNatClampNeg)) = (0 : Int32) → ((g_R_second u r x0) ∧ ((vp_in (f_R_second u r x0) 8) ∧ (((f_isCalled u ((f_R_second u r x0).toNatClampNeg)) = (0 : Int32) → True) ∧ (¬ (f_isCalled u ((f_R_second u r x0).toNatClampNeg)) = (0 : Int32) → (g_R_second u r x0)))))) ∧ (¬ (f_isCalled u ((f_R_first u r x0).toNatClampNeg)) = (0 : Int32) → (g_R_first u r x0)))))
set_option maxRecDepth 20000 in
set_option maxHeartbeats 1000000 in
theorem w_calledOn_0 {Fr : Int32} {u : St} (B : jk_BI p l e R s m args below meth c cX3_calledOn 3 RX3 TT .int D clA (tyl z) (cW z a) A Q rm_calledOn (Fr, u)) {r : Nat} (hr : r < 2) (x0 : Int32) (hE : f_calledOn u r x0 = Fr) (hG : g_calledOn u r x0) : JJ p l e R s m args below meth c 0 0 3 D clA (cW z a) A Q 0 [(0, .ref (a 0)), (1, .ref (a (23 + r))), (2, .int x0)] u [] := by
  have C := B.1
  unfold f_calledOn at hE
  unfold g_calledOn at hG
  refine j_aload_n C 0 dX3_calledOn_0 rfl ?_
  refine j_aload_n C 1 dX3_calledOn_1 rfl ?_
  refine j_iload_n C 2 dX3_calledOn_2 rfl ?_
  obtain ⟨hg1, hG⟩ := hG
  refine j_cIV C B.2.1 (c_R_first l D z a u r x0 hr hg1) gv_3_56 dd_R_first ⟨⟨rfl, rfl⟩, Nat.le_of_ble_eq_true rfl, Nat.le_of_ble_eq_true rfl⟩ (23 + r) 2 (pl_rg hr) rfl rfl rfl rfl (Nat.le_of_ble_eq_true rfl) dX3_calledOn_3 ?_
  obtain ⟨hv2, hG⟩ := hG
  have lhv2 := jk_lt hv2
  refine j_st (st' := [.int (nI ((f_R_first u r x0).toNatClampNeg)), .ref (a 0)]) (congrArg (fun x => ([.int x, .ref (a 0)] : List Value)) (jk_self hv2 (by decide))) ?_
  refine j_cIV C B.2.1 (c_isCalled l D z a u ((f_R_first u r x0).toNatClampNeg) (jk_lt hv2)) gv_3_121 dd_isCalled ⟨⟨rfl, rfl⟩, Nat.le_of_ble_eq_true rfl, Nat.le_of_ble_eq_true rfl⟩ 0 3 pl_desk rfl rfl rfl rfl (Nat.le_of_ble_eq_true rfl) dX3_calledOn_6 ?_
  refine j_if_eq C 18 dX3_calledOn_9 (by decide) (fun c3 => ?_) (fun c3 => ?_)
  · have hE := (if_pos c3).symm.trans hE
    have hG := hG.1 c3
    refine j_aload_n C 0 dX3_calledOn_18 rfl ?_
    refine j_aload_n C 1 dX3_calledOn_19 rfl ?_
    refine j_iload_n C 2 dX3_calledOn_20 rfl ?_
    obtain ⟨hg4, hG⟩ := hG
    refine j_cIV C B.2.1 (c_R_second l D z a u r x0 hr hg4) gv_3_63 dd_R_second ⟨⟨rfl, rfl⟩, Nat.le_of_ble_eq_true rfl, Nat.le_of_ble_eq_true rfl⟩ (23 + r) 2 (pl_rg hr) rfl rfl rfl rfl (Nat.le_of_ble_eq_true rfl) dX3_calledOn_21 ?_
    obtain ⟨hv5, hG⟩ := hG
    have lhv5 := jk_lt hv5
    refine j_st (st' := [.int (nI ((f_R_second u r x0).toNatClampNeg)), .ref (a 0)]) (congrArg (fun x => ([.int x, .ref (a 0)] : List Value)) (jk_self hv5 (by decide))) ?_
    refine j_cIV C B.2.1 (c_isCalled l D z a u ((f_R_second u r x0).toNatClampNeg) (jk_lt hv5)) gv_3_121 dd_isCalled ⟨⟨rfl, rfl⟩, Nat.le_of_ble_eq_true rfl, Nat.le_of_ble_eq_true rfl⟩ 0 3 pl_desk rfl rfl rfl rfl (Nat.le_of_ble_eq_true rfl) dX3_calledOn_24 ?_
    refine j_if_eq C 38 dX3_calledOn_27 (by decide) (fun c6 => ?_) (fun c6 => ?_)
    · have hE := (if_pos c6).symm.trans hE
      refine j_iconst C (-1) dX3_calledOn_38 ic_m1 ?_
      exact B.2.2 _ _ _ _ dX3_calledOn_39 rfl (congrArg (fun x => (x, u)) hE)
    · have hE := (if_neg c6).symm.trans hE
      have hG := hG.2 c6
      refine j_aload_n C 1 dX3_calledOn_30 rfl ?_
      refine j_iload_n C 2 dX3_calledOn_31 rfl ?_
      have hg7 := hG
      refine j_cIV C B.2.1 (c_R_second l D z a u r x0 hr hg7) gv_3_63 dd_R_second ⟨⟨rfl, rfl⟩, Nat.le_of_ble_eq_true rfl, Nat.le_of_ble_eq_true rfl⟩ (23 + r) 2 (pl_rg hr) rfl rfl rfl rfl (Nat.le_of_ble_eq_true rfl) dX3_calledOn_32 ?_
      refine j_goto C 39 dX3_calledOn_35 (by decide) ?_
      exact B.2.2 _ _ _ _ dX3_calledOn_39 rfl (congrArg (fun x => (x, u)) hE)
  · have hE := (if_neg c3).symm.trans hE
    have hG := hG.2 c3
    refine j_aload_n C 1 dX3_calledOn_12 rfl ?_
    refine j_iload_n C 2 dX3_calledOn_13 rfl ?_
    have hg8 := hG
    refine j_cIV C B.2.1 (c_R_first l D z a u r x0 hr hg8) gv_3_56 dd_R_first ⟨⟨rfl, rfl⟩, Nat.le_of_ble_eq_true rfl, Nat.le_of_ble_eq_true rfl⟩ (23 + r) 2 (pl_rg hr) rfl rfl rfl rfl (Nat.le_of_ble_eq_true rfl) dX3_calledOn_14 ?_
    exact B.2.2 _ _ _ _ dX3_calledOn_17 rfl (congrArg (fun x => (x, u)) hE)
theorem c_calledOn (l : Launch) (D : va_G) (z : Nat → ClassId) (a : Nat → Nat) (u : St) (r : Nat) (x0 : Int32) (hr : r < 2) (hG : g_calledOn u r x0) : CtI l yX3_calledOn (.code yX3_calledOn cX3_calledOn 3 (some .int) :: TT) rm_calledOn D clA (tyl z) (cW z a) [.ref (a 0), .ref (a (23 + r)), .int x0] u (f_calledOn u r x0) u :=
  jk_metI (own := RX3) (by decide) rfl (Nat.le_of_ble_eq_true rfl) (fun _ _ _ _ _ _ _ _ _ _ _ B => w_calledOn_0 B hr x0 rfl hG)
end WLK

section WLK
variable {p : Program} {l : Launch} {e : Env} {R : Room} {s : State} {m : MethodId} {args : Array Value} {below : List Frame} {meth : Method} {c : Code} {D : va_G} {z : Nat → ClassId} {a : Nat → Nat} {A : Nat → Prop} {Q : State → Prop}
def rm_m_lightOf : Room := { frames := 0, cells := 0, slots := 0, locals := 0 }
def f_m_lightOf (u : St) (k0 : Nat) : Int32 := (if (u 9 k0) < (0 : Int32) then (if (u 11 (k0 / 4)) = (nI k0) then (if (u 13 (k0 / 4)) = (1 : Int32) then (2 : Int32) else (if (u 13 (k0 / 4)) = (2 : Int32) then (1 : Int32) else (0 : Int32))) else (0 : Int32)) else (u 9 k0))
set_option maxRecDepth 20000 in
set_option maxHeartbeats 1000000 in
theorem w_m_lightOf_0 {Fr : Int32} {u : St} (B : jk_BI p l e R s m args below meth c cX4_lightOf 3 RX4 TT .int D clA (tyl z) (rW z a) A Q rm_m_lightOf (Fr, u)) {k0 : Nat} (hk0 : k0 < 8) (hE : f_m_lightOf u k0 = Fr) : JJ p l e R s m args below meth c 0 0 3 D clA (rW z a) A Q 0 [(0, .ref (a 0)), (1, .int (nI k0))] u [] := by
  have C := B.1
  unfold f_m_lightOf at hE
  refine j_iload_n C 1 dX4_lightOf_0 rfl ?_
  refine j_iconst C 4 dX4_lightOf_1 ic_4 ?_
  refine j_idiv C (nI (k0 / 4)) dX4_lightOf_2 (by decide) (jk_div4 (by omega)) ?_
  refine j_istore_n C dX4_lightOf_3 (by decide) rfl ?_
  refine j_aload_n C 1 dX4_lightOf_4 rfl ?_
  refine j_get C kf_4 0 pl_md 9 (by decide) lk_4_35 rfl dX4_lightOf_5 ?_
  refine j_iload_n C 2 dX4_lightOf_8 rfl ?_
  refine j_iald C 9 0 pl_a_stuck rfl k0 rfl hk0 (by decide) dX4_lightOf_9 ?_
  refine j_if_lt C 20 dX4_lightOf_10 (by decide) (fun c1 => ?_) (fun c1 => ?_)
  · have hE := (if_pos c1).symm.trans hE
    refine j_aload_n C 1 dX4_lightOf_20 rfl ?_
    refine j_get C kf_4 0 pl_md 11 (by decide) lk_4_41 rfl dX4_lightOf_21 ?_
    refine j_iload_n C 0 dX4_lightOf_24 rfl ?_
    refine j_iald C 11 0 pl_a_now rfl (k0 / 4) rfl (by omega) (by decide) dX4_lightOf_25 ?_
    refine j_iload_n C 2 dX4_lightOf_26 rfl ?_
    refine j_icmp_eq C 34 dX4_lightOf_27 (by decide) (fun c2 => ?_) (fun c2 => ?_)
    · have hE := (if_pos c2).symm.trans hE
      refine j_aload_n C 1 dX4_lightOf_34 rfl ?_
      refine j_get C kf_4 0 pl_md 13 (by decide) lk_4_47 rfl dX4_lightOf_35 ?_
      refine j_iload_n C 0 dX4_lightOf_38 rfl ?_
      refine j_iald C 13 0 pl_a_phase rfl (k0 / 4) rfl (by omega) (by decide) dX4_lightOf_39 ?_
      refine j_iconst C 1 dX4_lightOf_40 ic_1 ?_
      refine j_icmp_ne C 48 dX4_lightOf_41 (by decide) (fun c3 => ?_) (fun c3 => ?_)
      · have hE := (if_neg c3).symm.trans hE
        refine j_aload_n C 1 dX4_lightOf_48 rfl ?_
        refine j_get C kf_4 0 pl_md 13 (by decide) lk_4_47 rfl dX4_lightOf_49 ?_
        refine j_iload_n C 0 dX4_lightOf_52 rfl ?_
        refine j_iald C 13 0 pl_a_phase rfl (k0 / 4) rfl (by omega) (by decide) dX4_lightOf_53 ?_
        refine j_iconst C 2 dX4_lightOf_54 ic_2 ?_
        refine j_icmp_ne C 62 dX4_lightOf_55 (by decide) (fun c4 => ?_) (fun c4 => ?_)
        · have hE := (if_neg c4).symm.trans hE
          refine j_iconst C 0 dX4_lightOf_62 ic_0 ?_
          exact B.2.2 _ _ _ _ dX4_lightOf_63 rfl (congrArg (fun x => (x, u)) hE)
        · have hE := (if_pos c4).symm.trans hE
          refine j_iconst C 1 dX4_lightOf_58 ic_1 ?_
          refine j_goto C 63 dX4_lightOf_59 (by decide) ?_
          exact B.2.2 _ _ _ _ dX4_lightOf_63 rfl (congrArg (fun x => (x, u)) hE)
      · have hE := (if_pos c3).symm.trans hE
        refine j_iconst C 2 dX4_lightOf_44 ic_2 ?_
        refine j_goto C 63 dX4_lightOf_45 (by decide) ?_
        exact B.2.2 _ _ _ _ dX4_lightOf_63 rfl (congrArg (fun x => (x, u)) hE)
    · have hE := (if_neg c2).symm.trans hE
      refine j_iconst C 0 dX4_lightOf_30 ic_0 ?_
      refine j_goto C 63 dX4_lightOf_31 (by decide) ?_
      exact B.2.2 _ _ _ _ dX4_lightOf_63 rfl (congrArg (fun x => (x, u)) hE)
  · have hE := (if_neg c1).symm.trans hE
    refine j_aload_n C 1 dX4_lightOf_13 rfl ?_
    refine j_get C kf_4 0 pl_md 9 (by decide) lk_4_35 rfl dX4_lightOf_14 ?_
    refine j_iload_n C 2 dX4_lightOf_17 rfl ?_
    refine j_iald C 9 0 pl_a_stuck rfl k0 rfl hk0 (by decide) dX4_lightOf_18 ?_
    exact B.2.2 _ _ _ _ dX4_lightOf_19 rfl (congrArg (fun x => (x, u)) hE)
theorem c_m_lightOf (l : Launch) (D : va_G) (z : Nat → ClassId) (a : Nat → Nat) (u : St) (k0 : Nat) (hk0 : k0 < 8) : CtI l yX4_lightOf (.code yX4_lightOf cX4_lightOf 3 (some .int) :: TT) rm_m_lightOf D clA (tyl z) (rW z a) [.ref (a 0), .int (nI k0)] u (f_m_lightOf u k0) u :=
  jk_metI (own := RX4) (by decide) rfl (Nat.le_of_ble_eq_true rfl) (fun _ _ _ _ _ _ _ _ _ _ _ B => w_m_lightOf_0 B hk0 rfl)
def rm_m_areInWay : Room := { frames := 0, cells := 0, slots := 0, locals := 0 }
def f_m_areInWay (k0 : Nat) (k1 : Nat) : Int32 := (if (nI k0) = (nI k1) then (0 : Int32) else (if (nI (k0 / 4)) = (nI (k1 / 4)) then (1 : Int32) else (if (nI ((k0 % 4) / 2)) = (nI ((k1 % 4) / 2)) then (0 : Int32) else (1 : Int32))))
set_option maxRecDepth 20000 in
set_option maxHeartbeats 1000000 in
theorem w_m_areInWay_0 {Fr : Int32} {u : St} (B : jk_BI p l e R s m args below meth c cX4_areInWay 2 RX4 TT .boolean D clA (tyl z) (rW z a) A Q rm_m_areInWay (Fr, u)) {k0 : Nat} (hk0 : k0 < 8) {k1 : Nat} (hk1 : k1 < 8) (hE : f_m_areInWay k0 k1 = Fr) : JJ p l e R s m args below meth c 0 0 2 D clA (rW z a) A Q 0 [(0, .int (nI k0)), (1, .int (nI k1))] u [] := by
  have C := B.1
  unfold f_m_areInWay at hE
  refine j_iload_n C 0 dX4_areInWay_0 rfl ?_
  refine j_iload_n C 1 dX4_areInWay_1 rfl ?_
  refine j_icmp_eq C 31 dX4_areInWay_2 (by decide) (fun c1 => ?_) (fun c1 => ?_)
  · have hE := (if_pos c1).symm.trans hE
    refine j_iconst C 0 dX4_areInWay_31 ic_0 ?_
    exact B.2.2 _ _ _ _ dX4_areInWay_32 rfl (congrArg (fun x => (x, u)) hE)
  · have hE := (if_neg c1).symm.trans hE
    refine j_iload_n C 0 dX4_areInWay_5 rfl ?_
    refine j_iconst C 4 dX4_areInWay_6 ic_4 ?_
    refine j_idiv C (nI (k0 / 4)) dX4_areInWay_7 (by decide) (jk_div4 (by omega)) ?_
    refine j_iload_n C 1 dX4_areInWay_8 rfl ?_
    refine j_iconst C 4 dX4_areInWay_9 ic_4 ?_
    refine j_idiv C (nI (k1 / 4)) dX4_areInWay_10 (by decide) (jk_div4 (by omega)) ?_
    refine j_icmp_eq C 27 dX4_areInWay_11 (by decide) (fun c2 => ?_) (fun c2 => ?_)
    · have hE := (if_pos c2).symm.trans hE
      refine j_iconst C 1 dX4_areInWay_27 ic_1 ?_
      refine j_goto C 32 dX4_areInWay_28 (by decide) ?_
      exact B.2.2 _ _ _ _ dX4_areInWay_32 rfl (congrArg (fun x => (x, u)) hE)
    · have hE := (if_neg c2).symm.trans hE
      refine j_iload_n C 0 dX4_areInWay_14 rfl ?_
      refine j_iconst C 4 dX4_areInWay_15 ic_4 ?_
      refine j_irem C (nI (k0 % 4)) dX4_areInWay_16 (by decide) (jk_rem4 (by omega)) ?_
      refine j_iconst C 2 dX4_areInWay_17 ic_2 ?_
      refine j_idiv C (nI ((k0 % 4) / 2)) dX4_areInWay_18 (by decide) (jk_div2 (by omega)) ?_
      refine j_iload_n C 1 dX4_areInWay_19 rfl ?_
      refine j_iconst C 4 dX4_areInWay_20 ic_4 ?_
      refine j_irem C (nI (k1 % 4)) dX4_areInWay_21 (by decide) (jk_rem4 (by omega)) ?_
      refine j_iconst C 2 dX4_areInWay_22 ic_2 ?_
      refine j_idiv C (nI ((k1 % 4) / 2)) dX4_areInWay_23 (by decide) (jk_div2 (by omega)) ?_
      refine j_icmp_eq C 31 dX4_areInWay_24 (by decide) (fun c3 => ?_) (fun c3 => ?_)
      · have hE := (if_pos c3).symm.trans hE
        refine j_iconst C 0 dX4_areInWay_31 ic_0 ?_
        exact B.2.2 _ _ _ _ dX4_areInWay_32 rfl (congrArg (fun x => (x, u)) hE)
      · have hE := (if_neg c3).symm.trans hE
        refine j_iconst C 1 dX4_areInWay_27 ic_1 ?_
        refine j_goto C 32 dX4_areInWay_28 (by decide) ?_
        exact B.2.2 _ _ _ _ dX4_areInWay_32 rfl (congrArg (fun x => (x, u)) hE)
theorem c_m_areInWay (l : Launch) (D : va_G) (z : Nat → ClassId) (a : Nat → Nat) (u : St) (k0 : Nat) (k1 : Nat) (hk0 : k0 < 8) (hk1 : k1 < 8) : CtI l yX4_areInWay (.code yX4_areInWay cX4_areInWay 2 (some .boolean) :: TT) rm_m_areInWay D clA (tyl z) (rW z a) [.int (nI k0), .int (nI k1)] u (f_m_areInWay k0 k1) u :=
  jk_metI (own := RX4) (by decide) rfl (Nat.le_of_ble_eq_true rfl) (fun _ _ _ _ _ _ _ _ _ _ _ B => w_m_areInWay_0 B hk0 hk1 rfl)
def rm_m_look : Room := { frames := 1, cells := 0, slots := 0, locals := 22 }
def f_m_look_187  : Nat → Nat → St → St
  | 0, i, u => u
  | n + 1, i, u => (if ((up2 u 24 i (f_m_lightOf u i)) 24 i) = (1 : Int32) then (f_m_look_187 n (i + 1) (up2 (up2 u 24 i (f_m_lightOf u i)) 25 i (((up2 u 24 i (f_m_lightOf u i)) 25 i) + (1 : Int32)))) else (f_m_look_187 n (i + 1) (up2 (up2 u 24 i (f_m_lightOf u i)) 25 i (0 : Int32))))
set_option maxRecDepth 20000 in
set_option maxHeartbeats 1000000 in
theorem w_m_look_187 {F : St} (B : jk_BV p l e R s m args below meth c cX4_look 7 RX4 TT D clA (tyl z) (rW z a) A Q rm_m_look F)  : ∀ (n i : Nat) (u : St), i + n = 8 → f_m_look_187 n i u = F → JJ p l e R s m args below meth c 0 0 7 D clA (rW z a) A Q 187 [(4, .int (nI i)), (0, .ref (a 0))] u [] := by
  have C := B.1
  intro n
  induction n with
  | zero =>
    intro i u hin hE
    obtain rfl : i = 8 := by omega
    have hge : (8 : Int32) ≤ nI 8 := by decide
    refine j_iload C 0 dX4_look_187 rfl ?_
    refine j_bipush C 8 dX4_look_189 bp_8 ?_
    refine j_icmp_ge C 244 dX4_look_191 (by decide) (fun _ => ?_) (fun hq => absurd hge hq)
    exact B.2.2 _ _ _ dX4_look_244 hE
  | succ n ih =>
    intro i u hin hE
    have hlt : i < 8 := by omega
    have hnge : ¬ (8 : Int32) ≤ nI i := lt8 i hlt
    refine j_iload C 0 dX4_look_187 rfl ?_
    refine j_bipush C 8 dX4_look_189 bp_8 ?_
    refine j_icmp_ge C 244 dX4_look_191 (by decide) (fun hq => absurd hq hnge) (fun _ => ?_)
    refine j_aload_n C 1 dX4_look_194 rfl ?_
    refine j_get C kf_4 0 pl_md 24 (by decide) lk_4_65 rfl dX4_look_195 ?_
    refine j_iload C 0 dX4_look_198 rfl ?_
    refine j_aload_n C 1 dX4_look_200 rfl ?_
    refine j_iload C 0 dX4_look_201 rfl ?_
    refine j_cIV C B.2.1 (c_m_lightOf l D z a u i hlt) gv_4_147 dd_m_lightOf ⟨⟨rfl, rfl⟩, Nat.le_of_ble_eq_true rfl, Nat.le_of_ble_eq_true rfl⟩ 0 4 pl_md rfl rfl rfl rfl (Nat.le_of_ble_eq_true rfl) dX4_look_203 ?_
    refine j_iast C 19 0 pl_a_seen rfl i rfl hlt (by decide) pu_a_seen dX4_look_206 ?_
    refine j_aload_n C 1 dX4_look_207 rfl ?_
    refine j_get C kf_4 0 pl_md 25 (by decide) lk_4_68 rfl dX4_look_208 ?_
    refine j_iload C 0 dX4_look_211 rfl ?_
    refine j_aload_n C 1 dX4_look_213 rfl ?_
    refine j_get C kf_4 0 pl_md 24 (by decide) lk_4_65 rfl dX4_look_214 ?_
    refine j_iload C 0 dX4_look_217 rfl ?_
    refine j_iald C 19 0 pl_a_seen rfl i rfl hlt (by decide) dX4_look_219 ?_
    refine j_iconst C 1 dX4_look_220 ic_1 ?_
    refine j_icmp_ne C 236 dX4_look_221 (by decide) (fun c1 => ?_) (fun c1 => ?_)
    · have hE := (if_neg c1).symm.trans hE
      refine j_iconst C 0 dX4_look_236 ic_0 ?_
      refine j_iast C 20 0 pl_a_yellows rfl i rfl hlt (by decide) pu_a_yellows dX4_look_237 ?_
      refine j_iinc C 0 (nI (i + 1)) dX4_look_238 rfl (nI_1 _) (by decide) rfl ?_
      refine j_goto C 187 dX4_look_241 (by decide) ?_
      exact ih (i + 1) (up2 (up2 u 24 i (f_m_lightOf u i)) 25 i (0 : Int32)) (by omega) hE
    · have hE := (if_pos c1).symm.trans hE
      refine j_aload_n C 1 dX4_look_224 rfl ?_
      refine j_get C kf_4 0 pl_md 25 (by decide) lk_4_68 rfl dX4_look_225 ?_
      refine j_iload C 0 dX4_look_228 rfl ?_
      refine j_iald C 20 0 pl_a_yellows rfl i rfl hlt (by decide) dX4_look_230 ?_
      refine j_iconst C 1 dX4_look_231 ic_1 ?_
      refine j_iadd C dX4_look_232 ?_
      refine j_goto C 237 dX4_look_233 (by decide) ?_
      refine j_iast C 20 0 pl_a_yellows rfl i rfl hlt (by decide) pu_a_yellows dX4_look_237 ?_
      refine j_iinc C 0 (nI (i + 1)) dX4_look_238 rfl (nI_1 _) (by decide) rfl ?_
      refine j_goto C 187 dX4_look_241 (by decide) ?_
      exact ih (i + 1) (up2 (up2 u 24 i (f_m_lightOf u i)) 25 i (((up2 u 24 i (f_m_lightOf u i)) 25 i) + (1 : Int32))) (by omega) hE
def f_m_look_27  (K : Int32 → Int32 → Int32 → Int32 → St → St) : Nat → Nat → Int32 → Int32 → Int32 → Int32 → Nat → St → St
  | 0, i, b1, b2, b3, x5, k4, u => (K b1 b2 b3 x5 u)
  | n + 1, i, b1, b2, b3, x5, k4, u => (if b1 = (0 : Int32) then (if (f_m_areInWay k4 i) = (0 : Int32) then (f_m_look_27 K n (i + 1) (0 : Int32) b2 b3 x5 k4 u) else (if x5 ≤ (0 : Int32) then (f_m_look_27 K n (i + 1) (0 : Int32) b2 b3 x5 k4 u) else (if (f_m_lightOf u i) ≤ (0 : Int32) then (f_m_look_27 K n (i + 1) (0 : Int32) b2 b3 x5 k4 u) else (f_m_look_27 K n (i + 1) (1 : Int32) b2 b3 x5 k4 u)))) else (f_m_look_27 K n (i + 1) (1 : Int32) b2 b3 x5 k4 u))
set_option maxRecDepth 20000 in
set_option maxHeartbeats 1000000 in
theorem w_m_look_27 {F : St} (B : jk_BV p l e R s m args below meth c cX4_look 7 RX4 TT D clA (tyl z) (rW z a) A Q rm_m_look F)  {k4 : Nat} (hk4 : k4 < 8) (K : Int32 → Int32 → Int32 → Int32 → St → St) (hK : ∀ (b1 : Int32) (b2 : Int32) (b3 : Int32) (x5 : Int32) , (b1 = 0 ∨ b1 = 1) → (b2 = 0 ∨ b2 = 1) → (b3 = 0 ∨ b3 = 1) → ∀ (u : St), K b1 b2 b3 x5 u = F → JJ p l e R s m args below meth c 0 0 7 D clA (rW z a) A Q 74 [(1, .int b1), (2, .int b2), (3, .int b3), (5, .int x5), (4, .int (nI k4)), (0, .ref (a 0))] u []) : ∀ (n i : Nat) (b1 : Int32) (b2 : Int32) (b3 : Int32) (x5 : Int32) (u : St), i + n = 8 → (b1 = 0 ∨ b1 = 1) → (b2 = 0 ∨ b2 = 1) → (b3 = 0 ∨ b3 = 1) → f_m_look_27 K n i b1 b2 b3 x5 k4 u = F → JJ p l e R s m args below meth c 0 0 7 D clA (rW z a) A Q 27 [(6, .int (nI i)), (1, .int b1), (2, .int b2), (3, .int b3), (5, .int x5), (4, .int (nI k4)), (0, .ref (a 0))] u [] := by
  have C := B.1
  intro n
  induction n with
  | zero =>
    intro i b1 b2 b3 x5 u hin hb1 hb2 hb3 hE
    obtain rfl : i = 8 := by omega
    have hge : (8 : Int32) ≤ nI 8 := by decide
    refine j_iload C 0 dX4_look_27 rfl ?_
    refine j_bipush C 8 dX4_look_29 bp_8 ?_
    refine j_icmp_ge C 74 dX4_look_31 (by decide) (fun _ => ?_) (fun hq => absurd hge hq)
    refine j_lv [1, 2, 3, 4, 5, 6] rfl ?_
    exact hK b1 b2 b3 x5 hb1 hb2 hb3 u hE
  | succ n ih =>
    intro i b1 b2 b3 x5 u hin hb1 hb2 hb3 hE
    have hlt : i < 8 := by omega
    have hnge : ¬ (8 : Int32) ≤ nI i := lt8 i hlt
    refine j_iload C 0 dX4_look_27 rfl ?_
    refine j_bipush C 8 dX4_look_29 bp_8 ?_
    refine j_icmp_ge C 74 dX4_look_31 (by decide) (fun hq => absurd hq hnge) (fun _ => ?_)
    refine j_iload_n C 1 dX4_look_34 rfl ?_
    refine j_if_ne C 62 dX4_look_35 (by decide) (fun c1 => ?_) (fun c1 => ?_)
    · have hE := (if_neg c1).symm.trans hE
      refine j_iconst C 1 dX4_look_62 ic_1 ?_
      refine j_goto C 67 dX4_look_63 (by decide) ?_
      refine j_istore_n C dX4_look_67 (by decide) rfl ?_
      refine j_iinc C 1 (nI (i + 1)) dX4_look_68 rfl (nI_1 _) (by decide) rfl ?_
      refine j_goto C 27 dX4_look_71 (by decide) ?_
      exact ih (i + 1) (1 : Int32) b2 b3 x5 u (by omega) (Or.inr rfl) hb2 hb3 hE
    · have hE := (if_pos c1).symm.trans hE
      refine j_iload C 5 dX4_look_38 rfl ?_
      refine j_iload C 0 dX4_look_40 rfl ?_
      refine j_cIS C B.2.1 (c_m_areInWay l D z a u k4 i hk4 hlt) gv_4_151 dd_m_areInWay ⟨⟨rfl, rfl⟩, Nat.le_of_ble_eq_true rfl, Nat.le_of_ble_eq_true rfl⟩ rfl rfl (Nat.le_of_ble_eq_true rfl) dX4_look_42 ?_
      refine j_if_eq C 66 dX4_look_45 (by decide) (fun c2 => ?_) (fun c2 => ?_)
      · have hE := (if_pos c2).symm.trans hE
        refine j_iconst C 0 dX4_look_66 ic_0 ?_
        refine j_istore_n C dX4_look_67 (by decide) rfl ?_
        refine j_iinc C 1 (nI (i + 1)) dX4_look_68 rfl (nI_1 _) (by decide) rfl ?_
        refine j_goto C 27 dX4_look_71 (by decide) ?_
        exact ih (i + 1) (0 : Int32) b2 b3 x5 u (by omega) (Or.inl rfl) hb2 hb3 hE
      · have hE := (if_neg c2).symm.trans hE
        refine j_iload C 4 dX4_look_48 rfl ?_
        refine j_if_le C 66 dX4_look_50 (by decide) (fun c3 => ?_) (fun c3 => ?_)
        · have hE := (if_pos c3).symm.trans hE
          refine j_iconst C 0 dX4_look_66 ic_0 ?_
          refine j_istore_n C dX4_look_67 (by decide) rfl ?_
          refine j_iinc C 1 (nI (i + 1)) dX4_look_68 rfl (nI_1 _) (by decide) rfl ?_
          refine j_goto C 27 dX4_look_71 (by decide) ?_
          exact ih (i + 1) (0 : Int32) b2 b3 x5 u (by omega) (Or.inl rfl) hb2 hb3 hE
        · have hE := (if_neg c3).symm.trans hE
          refine j_aload_n C 6 dX4_look_53 rfl ?_
          refine j_iload C 0 dX4_look_54 rfl ?_
          refine j_cIV C B.2.1 (c_m_lightOf l D z a u i hlt) gv_4_147 dd_m_lightOf ⟨⟨rfl, rfl⟩, Nat.le_of_ble_eq_true rfl, Nat.le_of_ble_eq_true rfl⟩ 0 4 pl_md rfl rfl rfl rfl (Nat.le_of_ble_eq_true rfl) dX4_look_56 ?_
          refine j_if_le C 66 dX4_look_59 (by decide) (fun c4 => ?_) (fun c4 => ?_)
          · have hE := (if_pos c4).symm.trans hE
            refine j_iconst C 0 dX4_look_66 ic_0 ?_
            refine j_istore_n C dX4_look_67 (by decide) rfl ?_
            refine j_iinc C 1 (nI (i + 1)) dX4_look_68 rfl (nI_1 _) (by decide) rfl ?_
            refine j_goto C 27 dX4_look_71 (by decide) ?_
            exact ih (i + 1) (0 : Int32) b2 b3 x5 u (by omega) (Or.inl rfl) hb2 hb3 hE
          · have hE := (if_neg c4).symm.trans hE
            refine j_iconst C 1 dX4_look_62 ic_1 ?_
            refine j_goto C 67 dX4_look_63 (by decide) ?_
            refine j_istore_n C dX4_look_67 (by decide) rfl ?_
            refine j_iinc C 1 (nI (i + 1)) dX4_look_68 rfl (nI_1 _) (by decide) rfl ?_
            refine j_goto C 27 dX4_look_71 (by decide) ?_
            exact ih (i + 1) (1 : Int32) b2 b3 x5 u (by omega) (Or.inr rfl) hb2 hb3 hE
def f_m_look_9  : Nat → Nat → Int32 → Int32 → Int32 → St → St
  | 0, i, b1, b2, b3, u => (if b1 = (0 : Int32) then (if b2 = (0 : Int32) then (if b3 = (0 : Int32) then (f_m_look_187 8 0 (up2 (up2 u 0 23 (0 : Int32)) 0 26 b1)) else (f_m_look_187 8 0 (up2 (up2 u 0 23 (3 : Int32)) 0 26 b1))) else (f_m_look_187 8 0 (up2 (up2 u 0 23 (2 : Int32)) 0 26 b1))) else (if (u 0 26) = (0 : Int32) then (if b2 = (0 : Int32) then (if b3 = (0 : Int32) then (f_m_look_187 8 0 (up2 (up2 u 0 23 (0 : Int32)) 0 26 b1)) else (f_m_look_187 8 0 (up2 (up2 u 0 23 (3 : Int32)) 0 26 b1))) else (f_m_look_187 8 0 (up2 (up2 u 0 23 (2 : Int32)) 0 26 b1))) else (f_m_look_187 8 0 (up2 (up2 u 0 23 (1 : Int32)) 0 26 b1))))
  | n + 1, i, b1, b2, b3, u => (f_m_look_27 (fun b1q2 b2q2 b3q2 x5q2 uq2 => (if b2q2 = (0 : Int32) then (if x5q2 = (0 : Int32) then (if (uq2 24 i) = (2 : Int32) then (if b3q2 = (0 : Int32) then (if x5q2 = (0 : Int32) then (if (uq2 24 i) = (1 : Int32) then (if (3 : Int32) ≤ (uq2 25 i) then (f_m_look_9 n (i + 1) b1q2 (1 : Int32) (0 : Int32) uq2) else (f_m_look_9 n (i + 1) b1q2 (1 : Int32) (1 : Int32) uq2)) else (f_m_look_9 n (i + 1) b1q2 (1 : Int32) (0 : Int32) uq2)) else (f_m_look_9 n (i + 1) b1q2 (1 : Int32) (0 : Int32) uq2)) else (f_m_look_9 n (i + 1) b1q2 (1 : Int32) (1 : Int32) uq2)) else (if b3q2 = (0 : Int32) then (if x5q2 = (0 : Int32) then (if (uq2 24 i) = (1 : Int32) then (if (3 : Int32) ≤ (uq2 25 i) then (f_m_look_9 n (i + 1) b1q2 (0 : Int32) (0 : Int32) uq2) else (f_m_look_9 n (i + 1) b1q2 (0 : Int32) (1 : Int32) uq2)) else (f_m_look_9 n (i + 1) b1q2 (0 : Int32) (0 : Int32) uq2)) else (f_m_look_9 n (i + 1) b1q2 (0 : Int32) (0 : Int32) uq2)) else (f_m_look_9 n (i + 1) b1q2 (0 : Int32) (1 : Int32) uq2))) else (if b3q2 = (0 : Int32) then (if x5q2 = (0 : Int32) then (if (uq2 24 i) = (1 : Int32) then (if (3 : Int32) ≤ (uq2 25 i) then (f_m_look_9 n (i + 1) b1q2 (0 : Int32) (0 : Int32) uq2) else (f_m_look_9 n (i + 1) b1q2 (0 : Int32) (1 : Int32) uq2)) else (f_m_look_9 n (i + 1) b1q2 (0 : Int32) (0 : Int32) uq2)) else (f_m_look_9 n (i + 1) b1q2 (0 : Int32) (0 : Int32) uq2)) else (f_m_look_9 n (i + 1) b1q2 (0 : Int32) (1 : Int32) uq2))) else (if b3q2 = (0 : Int32) then (if x5q2 = (0 : Int32) then (if (uq2 24 i) = (1 : Int32) then (if (3 : Int32) ≤ (uq2 25 i) then (f_m_look_9 n (i + 1) b1q2 (1 : Int32) (0 : Int32) uq2) else (f_m_look_9 n (i + 1) b1q2 (1 : Int32) (1 : Int32) uq2)) else (f_m_look_9 n (i + 1) b1q2 (1 : Int32) (0 : Int32) uq2)) else (f_m_look_9 n (i + 1) b1q2 (1 : Int32) (0 : Int32) uq2)) else (f_m_look_9 n (i + 1) b1q2 (1 : Int32) (1 : Int32) uq2)))) 8 0 b1 b2 b3 (f_m_lightOf u i) i u)
set_option maxRecDepth 20000 in
set_option maxHeartbeats 1000000 in
theorem w_m_look_9 {F : St} (B : jk_BV p l e R s m args below meth c cX4_look 7 RX4 TT D clA (tyl z) (rW z a) A Q rm_m_look F)  : ∀ (n i : Nat) (b1 : Int32) (b2 : Int32) (b3 : Int32) (u : St), i + n = 8 → (b1 = 0 ∨ b1 = 1) → (b2 = 0 ∨ b2 = 1) → (b3 = 0 ∨ b3 = 1) → f_m_look_9 n i b1 b2 b3 u = F → JJ p l e R s m args below meth c 0 0 7 D clA (rW z a) A Q 9 [(4, .int (nI i)), (1, .int b1), (2, .int b2), (3, .int b3), (0, .ref (a 0))] u [] := by
  have C := B.1
  intro n
  induction n with
  | zero =>
    intro i b1 b2 b3 u hin hb1 hb2 hb3 hE
    obtain rfl : i = 8 := by omega
    have hge : (8 : Int32) ≤ nI 8 := by decide
    refine j_iload C 0 dX4_look_9 rfl ?_
    refine j_bipush C 8 dX4_look_11 bp_8 ?_
    refine j_icmp_ge C 143 dX4_look_13 (by decide) (fun _ => ?_) (fun hq => absurd hge hq)
    refine j_aload_n C 4 dX4_look_143 rfl ?_
    refine j_iload_n C 1 dX4_look_144 rfl ?_
    refine j_if_eq C 159 dX4_look_145 (by decide) (fun c1 => ?_) (fun c1 => ?_)
    · have hE := (if_pos c1).symm.trans hE
      refine j_iload_n C 2 dX4_look_159 rfl ?_
      refine j_if_eq C 167 dX4_look_160 (by decide) (fun c2 => ?_) (fun c2 => ?_)
      · have hE := (if_pos c2).symm.trans hE
        refine j_iload_n C 3 dX4_look_167 rfl ?_
        refine j_if_eq C 175 dX4_look_168 (by decide) (fun c3 => ?_) (fun c3 => ?_)
        · have hE := (if_pos c3).symm.trans hE
          refine j_iconst C 0 dX4_look_175 ic_0 ?_
          refine j_put C kf_4 0 pl_md 23 (by decide) lk_4_157 rfl rfl rfl (Nat.le_of_ble_eq_true rfl) pu_md_wrong dX4_look_176 ?_
          refine j_aload_n C 4 dX4_look_179 rfl ?_
          refine j_iload_n C 1 dX4_look_180 rfl ?_
          refine j_put C kf_4 0 pl_md 26 (by decide) lk_4_154 rfl (jk_nb hb1) (jk_fb hb1) (Nat.le_of_ble_eq_true rfl) pu_md_clashed dX4_look_181 ?_
          refine j_iconst C 0 dX4_look_184 ic_0 ?_
          refine j_istore C dX4_look_185 (by decide) rfl ?_
          refine j_lv [0, 4] rfl ?_
          refine j_lq (congrArg (fun x => ([(4, .int x), (0, .ref (a 0))] : List (Nat × Value))) ix_0) ?_
          exact w_m_look_187 B 8 0 (up2 (up2 u 0 23 (0 : Int32)) 0 26 b1) (by omega) hE
        · have hE := (if_neg c3).symm.trans hE
          refine j_iconst C 3 dX4_look_171 ic_3 ?_
          refine j_goto C 176 dX4_look_172 (by decide) ?_
          refine j_put C kf_4 0 pl_md 23 (by decide) lk_4_157 rfl rfl rfl (Nat.le_of_ble_eq_true rfl) pu_md_wrong dX4_look_176 ?_
          refine j_aload_n C 4 dX4_look_179 rfl ?_
          refine j_iload_n C 1 dX4_look_180 rfl ?_
          refine j_put C kf_4 0 pl_md 26 (by decide) lk_4_154 rfl (jk_nb hb1) (jk_fb hb1) (Nat.le_of_ble_eq_true rfl) pu_md_clashed dX4_look_181 ?_
          refine j_iconst C 0 dX4_look_184 ic_0 ?_
          refine j_istore C dX4_look_185 (by decide) rfl ?_
          refine j_lv [0, 4] rfl ?_
          refine j_lq (congrArg (fun x => ([(4, .int x), (0, .ref (a 0))] : List (Nat × Value))) ix_0) ?_
          exact w_m_look_187 B 8 0 (up2 (up2 u 0 23 (3 : Int32)) 0 26 b1) (by omega) hE
      · have hE := (if_neg c2).symm.trans hE
        refine j_iconst C 2 dX4_look_163 ic_2 ?_
        refine j_goto C 176 dX4_look_164 (by decide) ?_
        refine j_put C kf_4 0 pl_md 23 (by decide) lk_4_157 rfl rfl rfl (Nat.le_of_ble_eq_true rfl) pu_md_wrong dX4_look_176 ?_
        refine j_aload_n C 4 dX4_look_179 rfl ?_
        refine j_iload_n C 1 dX4_look_180 rfl ?_
        refine j_put C kf_4 0 pl_md 26 (by decide) lk_4_154 rfl (jk_nb hb1) (jk_fb hb1) (Nat.le_of_ble_eq_true rfl) pu_md_clashed dX4_look_181 ?_
        refine j_iconst C 0 dX4_look_184 ic_0 ?_
        refine j_istore C dX4_look_185 (by decide) rfl ?_
        refine j_lv [0, 4] rfl ?_
        refine j_lq (congrArg (fun x => ([(4, .int x), (0, .ref (a 0))] : List (Nat × Value))) ix_0) ?_
        exact w_m_look_187 B 8 0 (up2 (up2 u 0 23 (2 : Int32)) 0 26 b1) (by omega) hE
    · have hE := (if_neg c1).symm.trans hE
      refine j_aload_n C 4 dX4_look_148 rfl ?_
      refine j_get C kf_4 0 pl_md 26 (by decide) lk_4_154 rfl dX4_look_149 ?_
      refine j_if_eq C 159 dX4_look_152 (by decide) (fun c4 => ?_) (fun c4 => ?_)
      · have hE := (if_pos c4).symm.trans hE
        refine j_iload_n C 2 dX4_look_159 rfl ?_
        refine j_if_eq C 167 dX4_look_160 (by decide) (fun c5 => ?_) (fun c5 => ?_)
        · have hE := (if_pos c5).symm.trans hE
          refine j_iload_n C 3 dX4_look_167 rfl ?_
          refine j_if_eq C 175 dX4_look_168 (by decide) (fun c6 => ?_) (fun c6 => ?_)
          · have hE := (if_pos c6).symm.trans hE
            refine j_iconst C 0 dX4_look_175 ic_0 ?_
            refine j_put C kf_4 0 pl_md 23 (by decide) lk_4_157 rfl rfl rfl (Nat.le_of_ble_eq_true rfl) pu_md_wrong dX4_look_176 ?_
            refine j_aload_n C 4 dX4_look_179 rfl ?_
            refine j_iload_n C 1 dX4_look_180 rfl ?_
            refine j_put C kf_4 0 pl_md 26 (by decide) lk_4_154 rfl (jk_nb hb1) (jk_fb hb1) (Nat.le_of_ble_eq_true rfl) pu_md_clashed dX4_look_181 ?_
            refine j_iconst C 0 dX4_look_184 ic_0 ?_
            refine j_istore C dX4_look_185 (by decide) rfl ?_
            refine j_lv [0, 4] rfl ?_
            refine j_lq (congrArg (fun x => ([(4, .int x), (0, .ref (a 0))] : List (Nat × Value))) ix_0) ?_
            exact w_m_look_187 B 8 0 (up2 (up2 u 0 23 (0 : Int32)) 0 26 b1) (by omega) hE
          · have hE := (if_neg c6).symm.trans hE
            refine j_iconst C 3 dX4_look_171 ic_3 ?_
            refine j_goto C 176 dX4_look_172 (by decide) ?_
            refine j_put C kf_4 0 pl_md 23 (by decide) lk_4_157 rfl rfl rfl (Nat.le_of_ble_eq_true rfl) pu_md_wrong dX4_look_176 ?_
            refine j_aload_n C 4 dX4_look_179 rfl ?_
            refine j_iload_n C 1 dX4_look_180 rfl ?_
            refine j_put C kf_4 0 pl_md 26 (by decide) lk_4_154 rfl (jk_nb hb1) (jk_fb hb1) (Nat.le_of_ble_eq_true rfl) pu_md_clashed dX4_look_181 ?_
            refine j_iconst C 0 dX4_look_184 ic_0 ?_
            refine j_istore C dX4_look_185 (by decide) rfl ?_
            refine j_lv [0, 4] rfl ?_
            refine j_lq (congrArg (fun x => ([(4, .int x), (0, .ref (a 0))] : List (Nat × Value))) ix_0) ?_
            exact w_m_look_187 B 8 0 (up2 (up2 u 0 23 (3 : Int32)) 0 26 b1) (by omega) hE
        · have hE := (if_neg c5).symm.trans hE
          refine j_iconst C 2 dX4_look_163 ic_2 ?_
          refine j_goto C 176 dX4_look_164 (by decide) ?_
          refine j_put C kf_4 0 pl_md 23 (by decide) lk_4_157 rfl rfl rfl (Nat.le_of_ble_eq_true rfl) pu_md_wrong dX4_look_176 ?_
          refine j_aload_n C 4 dX4_look_179 rfl ?_
          refine j_iload_n C 1 dX4_look_180 rfl ?_
          refine j_put C kf_4 0 pl_md 26 (by decide) lk_4_154 rfl (jk_nb hb1) (jk_fb hb1) (Nat.le_of_ble_eq_true rfl) pu_md_clashed dX4_look_181 ?_
          refine j_iconst C 0 dX4_look_184 ic_0 ?_
          refine j_istore C dX4_look_185 (by decide) rfl ?_
          refine j_lv [0, 4] rfl ?_
          refine j_lq (congrArg (fun x => ([(4, .int x), (0, .ref (a 0))] : List (Nat × Value))) ix_0) ?_
          exact w_m_look_187 B 8 0 (up2 (up2 u 0 23 (2 : Int32)) 0 26 b1) (by omega) hE
      · have hE := (if_neg c4).symm.trans hE
        refine j_iconst C 1 dX4_look_155 ic_1 ?_
        refine j_goto C 176 dX4_look_156 (by decide) ?_
        refine j_put C kf_4 0 pl_md 23 (by decide) lk_4_157 rfl rfl rfl (Nat.le_of_ble_eq_true rfl) pu_md_wrong dX4_look_176 ?_
        refine j_aload_n C 4 dX4_look_179 rfl ?_
        refine j_iload_n C 1 dX4_look_180 rfl ?_
        refine j_put C kf_4 0 pl_md 26 (by decide) lk_4_154 rfl (jk_nb hb1) (jk_fb hb1) (Nat.le_of_ble_eq_true rfl) pu_md_clashed dX4_look_181 ?_
        refine j_iconst C 0 dX4_look_184 ic_0 ?_
        refine j_istore C dX4_look_185 (by decide) rfl ?_
        refine j_lv [0, 4] rfl ?_
        refine j_lq (congrArg (fun x => ([(4, .int x), (0, .ref (a 0))] : List (Nat × Value))) ix_0) ?_
        exact w_m_look_187 B 8 0 (up2 (up2 u 0 23 (1 : Int32)) 0 26 b1) (by omega) hE
  | succ n ih =>
    intro i b1 b2 b3 u hin hb1 hb2 hb3 hE
    have hlt : i < 8 := by omega
    have hnge : ¬ (8 : Int32) ≤ nI i := lt8 i hlt
    refine j_iload C 0 dX4_look_9 rfl ?_
    refine j_bipush C 8 dX4_look_11 bp_8 ?_
    refine j_icmp_ge C 143 dX4_look_13 (by decide) (fun hq => absurd hq hnge) (fun _ => ?_)
    refine j_aload_n C 4 dX4_look_16 rfl ?_
    refine j_iload C 0 dX4_look_17 rfl ?_
    refine j_cIV C B.2.1 (c_m_lightOf l D z a u i hlt) gv_4_147 dd_m_lightOf ⟨⟨rfl, rfl⟩, Nat.le_of_ble_eq_true rfl, Nat.le_of_ble_eq_true rfl⟩ 0 4 pl_md rfl rfl rfl rfl (Nat.le_of_ble_eq_true rfl) dX4_look_19 ?_
    refine j_istore C dX4_look_22 (by decide) rfl ?_
    refine j_iconst C 0 dX4_look_24 ic_0 ?_
    refine j_istore C dX4_look_25 (by decide) rfl ?_
    refine j_lv [0, 3, 4, 5, 1, 2, 6] rfl ?_
    refine j_lq (congrArg (fun x => ([(6, .int x), (1, .int b1), (2, .int b2), (3, .int b3), (5, .int (f_m_lightOf u i)), (4, .int (nI i)), (0, .ref (a 0))] : List (Nat × Value))) ix_0) ?_
    refine w_m_look_27 B hlt (fun b1q2 b2q2 b3q2 x5q2 uq2 => (if b2q2 = (0 : Int32) then (if x5q2 = (0 : Int32) then (if (uq2 24 i) = (2 : Int32) then (if b3q2 = (0 : Int32) then (if x5q2 = (0 : Int32) then (if (uq2 24 i) = (1 : Int32) then (if (3 : Int32) ≤ (uq2 25 i) then (f_m_look_9 n (i + 1) b1q2 (1 : Int32) (0 : Int32) uq2) else (f_m_look_9 n (i + 1) b1q2 (1 : Int32) (1 : Int32) uq2)) else (f_m_look_9 n (i + 1) b1q2 (1 : Int32) (0 : Int32) uq2)) else (f_m_look_9 n (i + 1) b1q2 (1 : Int32) (0 : Int32) uq2)) else (f_m_look_9 n (i + 1) b1q2 (1 : Int32) (1 : Int32) uq2)) else (if b3q2 = (0 : Int32) then (if x5q2 = (0 : Int32) then (if (uq2 24 i) = (1 : Int32) then (if (3 : Int32) ≤ (uq2 25 i) then (f_m_look_9 n (i + 1) b1q2 (0 : Int32) (0 : Int32) uq2) else (f_m_look_9 n (i + 1) b1q2 (0 : Int32) (1 : Int32) uq2)) else (f_m_look_9 n (i + 1) b1q2 (0 : Int32) (0 : Int32) uq2)) else (f_m_look_9 n (i + 1) b1q2 (0 : Int32) (0 : Int32) uq2)) else (f_m_look_9 n (i + 1) b1q2 (0 : Int32) (1 : Int32) uq2))) else (if b3q2 = (0 : Int32) then (if x5q2 = (0 : Int32) then (if (uq2 24 i) = (1 : Int32) then (if (3 : Int32) ≤ (uq2 25 i) then (f_m_look_9 n (i + 1) b1q2 (0 : Int32) (0 : Int32) uq2) else (f_m_look_9 n (i + 1) b1q2 (0 : Int32) (1 : Int32) uq2)) else (f_m_look_9 n (i + 1) b1q2 (0 : Int32) (0 : Int32) uq2)) else (f_m_look_9 n (i + 1) b1q2 (0 : Int32) (0 : Int32) uq2)) else (f_m_look_9 n (i + 1) b1q2 (0 : Int32) (1 : Int32) uq2))) else (if b3q2 = (0 : Int32) then (if x5q2 = (0 : Int32) then (if (uq2 24 i) = (1 : Int32) then (if (3 : Int32) ≤ (uq2 25 i) then (f_m_look_9 n (i + 1) b1q2 (1 : Int32) (0 : Int32) uq2) else (f_m_look_9 n (i + 1) b1q2 (1 : Int32) (1 : Int32) uq2)) else (f_m_look_9 n (i + 1) b1q2 (1 : Int32) (0 : Int32) uq2)) else (f_m_look_9 n (i + 1) b1q2 (1 : Int32) (0 : Int32) uq2)) else (f_m_look_9 n (i + 1) b1q2 (1 : Int32) (1 : Int32) uq2)))) (fun b1q2 b2q2 b3q2 x5q2 hb1q2 hb2q2 hb3q2 uq2 hE => ?_) 8 0 b1 b2 b3 (f_m_lightOf u i) u (by omega) hb1 hb2 hb3 hE
    refine j_iload_n C 1 dX4_look_74 rfl ?_
    refine j_if_ne C 94 dX4_look_75 (by decide) (fun c1 => ?_) (fun c1 => ?_)
    · have hE := (if_neg c1).symm.trans hE
      refine j_iconst C 1 dX4_look_94 ic_1 ?_
      refine j_goto C 99 dX4_look_95 (by decide) ?_
      refine j_istore_n C dX4_look_99 (by decide) rfl ?_
      refine j_iload_n C 2 dX4_look_100 rfl ?_
      refine j_if_ne C 131 dX4_look_101 (by decide) (fun c2 => ?_) (fun c2 => ?_)
      · have hE := (if_neg c2).symm.trans hE
        refine j_iconst C 1 dX4_look_131 ic_1 ?_
        refine j_goto C 136 dX4_look_132 (by decide) ?_
        refine j_istore_n C dX4_look_136 (by decide) rfl ?_
        refine j_iinc C 4 (nI (i + 1)) dX4_look_137 rfl (nI_1 _) (by decide) rfl ?_
        refine j_goto C 9 dX4_look_140 (by decide) ?_
        refine j_lv [0, 3, 2, 1, 5] rfl ?_
        exact ih (i + 1) b1q2 (1 : Int32) (1 : Int32) uq2 (by omega) hb1q2 (Or.inr rfl) (Or.inr rfl) hE
      · have hE := (if_pos c2).symm.trans hE
        refine j_iload C 3 dX4_look_104 rfl ?_
        refine j_if_ne C 135 dX4_look_106 (by decide) (fun c3 => ?_) (fun c3 => ?_)
        · have hE := (if_neg c3).symm.trans hE
          refine j_iconst C 0 dX4_look_135 ic_0 ?_
          refine j_istore_n C dX4_look_136 (by decide) rfl ?_
          refine j_iinc C 4 (nI (i + 1)) dX4_look_137 rfl (nI_1 _) (by decide) rfl ?_
          refine j_goto C 9 dX4_look_140 (by decide) ?_
          refine j_lv [0, 3, 2, 1, 5] rfl ?_
          exact ih (i + 1) b1q2 (1 : Int32) (0 : Int32) uq2 (by omega) hb1q2 (Or.inr rfl) (Or.inl rfl) hE
        · have hE := (if_pos c3).symm.trans hE
          refine j_aload_n C 5 dX4_look_109 rfl ?_
          refine j_get C kf_4 0 pl_md 24 (by decide) lk_4_65 rfl dX4_look_110 ?_
          refine j_iload C 4 dX4_look_113 rfl ?_
          refine j_iald C 19 0 pl_a_seen rfl i rfl hlt (by decide) dX4_look_115 ?_
          refine j_iconst C 1 dX4_look_116 ic_1 ?_
          refine j_icmp_ne C 135 dX4_look_117 (by decide) (fun c4 => ?_) (fun c4 => ?_)
          · have hE := (if_neg c4).symm.trans hE
            refine j_iconst C 0 dX4_look_135 ic_0 ?_
            refine j_istore_n C dX4_look_136 (by decide) rfl ?_
            refine j_iinc C 4 (nI (i + 1)) dX4_look_137 rfl (nI_1 _) (by decide) rfl ?_
            refine j_goto C 9 dX4_look_140 (by decide) ?_
            refine j_lv [0, 3, 2, 1, 5] rfl ?_
            exact ih (i + 1) b1q2 (1 : Int32) (0 : Int32) uq2 (by omega) hb1q2 (Or.inr rfl) (Or.inl rfl) hE
          · have hE := (if_pos c4).symm.trans hE
            refine j_aload_n C 5 dX4_look_120 rfl ?_
            refine j_get C kf_4 0 pl_md 25 (by decide) lk_4_68 rfl dX4_look_121 ?_
            refine j_iload C 4 dX4_look_124 rfl ?_
            refine j_iald C 20 0 pl_a_yellows rfl i rfl hlt (by decide) dX4_look_126 ?_
            refine j_iconst C 3 dX4_look_127 ic_3 ?_
            refine j_icmp_ge C 135 dX4_look_128 (by decide) (fun c5 => ?_) (fun c5 => ?_)
            · have hE := (if_pos c5).symm.trans hE
              refine j_iconst C 0 dX4_look_135 ic_0 ?_
              refine j_istore_n C dX4_look_136 (by decide) rfl ?_
              refine j_iinc C 4 (nI (i + 1)) dX4_look_137 rfl (nI_1 _) (by decide) rfl ?_
              refine j_goto C 9 dX4_look_140 (by decide) ?_
              refine j_lv [0, 3, 2, 1, 5] rfl ?_
              exact ih (i + 1) b1q2 (1 : Int32) (0 : Int32) uq2 (by omega) hb1q2 (Or.inr rfl) (Or.inl rfl) hE
            · have hE := (if_neg c5).symm.trans hE
              refine j_iconst C 1 dX4_look_131 ic_1 ?_
              refine j_goto C 136 dX4_look_132 (by decide) ?_
              refine j_istore_n C dX4_look_136 (by decide) rfl ?_
              refine j_iinc C 4 (nI (i + 1)) dX4_look_137 rfl (nI_1 _) (by decide) rfl ?_
              refine j_goto C 9 dX4_look_140 (by decide) ?_
              refine j_lv [0, 3, 2, 1, 5] rfl ?_
              exact ih (i + 1) b1q2 (1 : Int32) (1 : Int32) uq2 (by omega) hb1q2 (Or.inr rfl) (Or.inr rfl) hE
    · have hE := (if_pos c1).symm.trans hE
      refine j_iload C 3 dX4_look_78 rfl ?_
      refine j_if_ne C 98 dX4_look_80 (by decide) (fun c6 => ?_) (fun c6 => ?_)
      · have hE := (if_neg c6).symm.trans hE
        refine j_iconst C 0 dX4_look_98 ic_0 ?_
        refine j_istore_n C dX4_look_99 (by decide) rfl ?_
        refine j_iload_n C 2 dX4_look_100 rfl ?_
        refine j_if_ne C 131 dX4_look_101 (by decide) (fun c7 => ?_) (fun c7 => ?_)
        · have hE := (if_neg c7).symm.trans hE
          refine j_iconst C 1 dX4_look_131 ic_1 ?_
          refine j_goto C 136 dX4_look_132 (by decide) ?_
          refine j_istore_n C dX4_look_136 (by decide) rfl ?_
          refine j_iinc C 4 (nI (i + 1)) dX4_look_137 rfl (nI_1 _) (by decide) rfl ?_
          refine j_goto C 9 dX4_look_140 (by decide) ?_
          refine j_lv [0, 3, 2, 1, 5] rfl ?_
          exact ih (i + 1) b1q2 (0 : Int32) (1 : Int32) uq2 (by omega) hb1q2 (Or.inl rfl) (Or.inr rfl) hE
        · have hE := (if_pos c7).symm.trans hE
          refine j_iload C 3 dX4_look_104 rfl ?_
          refine j_if_ne C 135 dX4_look_106 (by decide) (fun c8 => ?_) (fun c8 => ?_)
          · have hE := (if_neg c8).symm.trans hE
            refine j_iconst C 0 dX4_look_135 ic_0 ?_
            refine j_istore_n C dX4_look_136 (by decide) rfl ?_
            refine j_iinc C 4 (nI (i + 1)) dX4_look_137 rfl (nI_1 _) (by decide) rfl ?_
            refine j_goto C 9 dX4_look_140 (by decide) ?_
            refine j_lv [0, 3, 2, 1, 5] rfl ?_
            exact ih (i + 1) b1q2 (0 : Int32) (0 : Int32) uq2 (by omega) hb1q2 (Or.inl rfl) (Or.inl rfl) hE
          · have hE := (if_pos c8).symm.trans hE
            refine j_aload_n C 5 dX4_look_109 rfl ?_
            refine j_get C kf_4 0 pl_md 24 (by decide) lk_4_65 rfl dX4_look_110 ?_
            refine j_iload C 4 dX4_look_113 rfl ?_
            refine j_iald C 19 0 pl_a_seen rfl i rfl hlt (by decide) dX4_look_115 ?_
            refine j_iconst C 1 dX4_look_116 ic_1 ?_
            refine j_icmp_ne C 135 dX4_look_117 (by decide) (fun c9 => ?_) (fun c9 => ?_)
            · have hE := (if_neg c9).symm.trans hE
              refine j_iconst C 0 dX4_look_135 ic_0 ?_
              refine j_istore_n C dX4_look_136 (by decide) rfl ?_
              refine j_iinc C 4 (nI (i + 1)) dX4_look_137 rfl (nI_1 _) (by decide) rfl ?_
              refine j_goto C 9 dX4_look_140 (by decide) ?_
              refine j_lv [0, 3, 2, 1, 5] rfl ?_
              exact ih (i + 1) b1q2 (0 : Int32) (0 : Int32) uq2 (by omega) hb1q2 (Or.inl rfl) (Or.inl rfl) hE
            · have hE := (if_pos c9).symm.trans hE
              refine j_aload_n C 5 dX4_look_120 rfl ?_
              refine j_get C kf_4 0 pl_md 25 (by decide) lk_4_68 rfl dX4_look_121 ?_
              refine j_iload C 4 dX4_look_124 rfl ?_
              refine j_iald C 20 0 pl_a_yellows rfl i rfl hlt (by decide) dX4_look_126 ?_
              refine j_iconst C 3 dX4_look_127 ic_3 ?_
              refine j_icmp_ge C 135 dX4_look_128 (by decide) (fun c10 => ?_) (fun c10 => ?_)
              · have hE := (if_pos c10).symm.trans hE
                refine j_iconst C 0 dX4_look_135 ic_0 ?_
                refine j_istore_n C dX4_look_136 (by decide) rfl ?_
                refine j_iinc C 4 (nI (i + 1)) dX4_look_137 rfl (nI_1 _) (by decide) rfl ?_
                refine j_goto C 9 dX4_look_140 (by decide) ?_
                refine j_lv [0, 3, 2, 1, 5] rfl ?_
                exact ih (i + 1) b1q2 (0 : Int32) (0 : Int32) uq2 (by omega) hb1q2 (Or.inl rfl) (Or.inl rfl) hE
              · have hE := (if_neg c10).symm.trans hE
                refine j_iconst C 1 dX4_look_131 ic_1 ?_
                refine j_goto C 136 dX4_look_132 (by decide) ?_
                refine j_istore_n C dX4_look_136 (by decide) rfl ?_
                refine j_iinc C 4 (nI (i + 1)) dX4_look_137 rfl (nI_1 _) (by decide) rfl ?_
                refine j_goto C 9 dX4_look_140 (by decide) ?_
                refine j_lv [0, 3, 2, 1, 5] rfl ?_
                exact ih (i + 1) b1q2 (0 : Int32) (1 : Int32) uq2 (by omega) hb1q2 (Or.inl rfl) (Or.inr rfl) hE
      · have hE := (if_pos c6).symm.trans hE
        refine j_aload_n C 5 dX4_look_83 rfl ?_
        refine j_get C kf_4 0 pl_md 24 (by decide) lk_4_65 rfl dX4_look_84 ?_
        refine j_iload C 4 dX4_look_87 rfl ?_
        refine j_iald C 19 0 pl_a_seen rfl i rfl hlt (by decide) dX4_look_89 ?_
        refine j_iconst C 2 dX4_look_90 ic_2 ?_
        refine j_icmp_ne C 98 dX4_look_91 (by decide) (fun c11 => ?_) (fun c11 => ?_)
        · have hE := (if_neg c11).symm.trans hE
          refine j_iconst C 0 dX4_look_98 ic_0 ?_
          refine j_istore_n C dX4_look_99 (by decide) rfl ?_
          refine j_iload_n C 2 dX4_look_100 rfl ?_
          refine j_if_ne C 131 dX4_look_101 (by decide) (fun c12 => ?_) (fun c12 => ?_)
          · have hE := (if_neg c12).symm.trans hE
            refine j_iconst C 1 dX4_look_131 ic_1 ?_
            refine j_goto C 136 dX4_look_132 (by decide) ?_
            refine j_istore_n C dX4_look_136 (by decide) rfl ?_
            refine j_iinc C 4 (nI (i + 1)) dX4_look_137 rfl (nI_1 _) (by decide) rfl ?_
            refine j_goto C 9 dX4_look_140 (by decide) ?_
            refine j_lv [0, 3, 2, 1, 5] rfl ?_
            exact ih (i + 1) b1q2 (0 : Int32) (1 : Int32) uq2 (by omega) hb1q2 (Or.inl rfl) (Or.inr rfl) hE
          · have hE := (if_pos c12).symm.trans hE
            refine j_iload C 3 dX4_look_104 rfl ?_
            refine j_if_ne C 135 dX4_look_106 (by decide) (fun c13 => ?_) (fun c13 => ?_)
            · have hE := (if_neg c13).symm.trans hE
              refine j_iconst C 0 dX4_look_135 ic_0 ?_
              refine j_istore_n C dX4_look_136 (by decide) rfl ?_
              refine j_iinc C 4 (nI (i + 1)) dX4_look_137 rfl (nI_1 _) (by decide) rfl ?_
              refine j_goto C 9 dX4_look_140 (by decide) ?_
              refine j_lv [0, 3, 2, 1, 5] rfl ?_
              exact ih (i + 1) b1q2 (0 : Int32) (0 : Int32) uq2 (by omega) hb1q2 (Or.inl rfl) (Or.inl rfl) hE
            · have hE := (if_pos c13).symm.trans hE
              refine j_aload_n C 5 dX4_look_109 rfl ?_
              refine j_get C kf_4 0 pl_md 24 (by decide) lk_4_65 rfl dX4_look_110 ?_
              refine j_iload C 4 dX4_look_113 rfl ?_
              refine j_iald C 19 0 pl_a_seen rfl i rfl hlt (by decide) dX4_look_115 ?_
              refine j_iconst C 1 dX4_look_116 ic_1 ?_
              refine j_icmp_ne C 135 dX4_look_117 (by decide) (fun c14 => ?_) (fun c14 => ?_)
              · have hE := (if_neg c14).symm.trans hE
                refine j_iconst C 0 dX4_look_135 ic_0 ?_
                refine j_istore_n C dX4_look_136 (by decide) rfl ?_
                refine j_iinc C 4 (nI (i + 1)) dX4_look_137 rfl (nI_1 _) (by decide) rfl ?_
                refine j_goto C 9 dX4_look_140 (by decide) ?_
                refine j_lv [0, 3, 2, 1, 5] rfl ?_
                exact ih (i + 1) b1q2 (0 : Int32) (0 : Int32) uq2 (by omega) hb1q2 (Or.inl rfl) (Or.inl rfl) hE
              · have hE := (if_pos c14).symm.trans hE
                refine j_aload_n C 5 dX4_look_120 rfl ?_
                refine j_get C kf_4 0 pl_md 25 (by decide) lk_4_68 rfl dX4_look_121 ?_
                refine j_iload C 4 dX4_look_124 rfl ?_
                refine j_iald C 20 0 pl_a_yellows rfl i rfl hlt (by decide) dX4_look_126 ?_
                refine j_iconst C 3 dX4_look_127 ic_3 ?_
                refine j_icmp_ge C 135 dX4_look_128 (by decide) (fun c15 => ?_) (fun c15 => ?_)
                · have hE := (if_pos c15).symm.trans hE
                  refine j_iconst C 0 dX4_look_135 ic_0 ?_
                  refine j_istore_n C dX4_look_136 (by decide) rfl ?_
                  refine j_iinc C 4 (nI (i + 1)) dX4_look_137 rfl (nI_1 _) (by decide) rfl ?_
                  refine j_goto C 9 dX4_look_140 (by decide) ?_
                  refine j_lv [0, 3, 2, 1, 5] rfl ?_
                  exact ih (i + 1) b1q2 (0 : Int32) (0 : Int32) uq2 (by omega) hb1q2 (Or.inl rfl) (Or.inl rfl) hE
                · have hE := (if_neg c15).symm.trans hE
                  refine j_iconst C 1 dX4_look_131 ic_1 ?_
                  refine j_goto C 136 dX4_look_132 (by decide) ?_
                  refine j_istore_n C dX4_look_136 (by decide) rfl ?_
                  refine j_iinc C 4 (nI (i + 1)) dX4_look_137 rfl (nI_1 _) (by decide) rfl ?_
                  refine j_goto C 9 dX4_look_140 (by decide) ?_
                  refine j_lv [0, 3, 2, 1, 5] rfl ?_
                  exact ih (i + 1) b1q2 (0 : Int32) (1 : Int32) uq2 (by omega) hb1q2 (Or.inl rfl) (Or.inr rfl) hE
        · have hE := (if_pos c11).symm.trans hE
          refine j_iconst C 1 dX4_look_94 ic_1 ?_
          refine j_goto C 99 dX4_look_95 (by decide) ?_
          refine j_istore_n C dX4_look_99 (by decide) rfl ?_
          refine j_iload_n C 2 dX4_look_100 rfl ?_
          refine j_if_ne C 131 dX4_look_101 (by decide) (fun c16 => ?_) (fun c16 => ?_)
          · have hE := (if_neg c16).symm.trans hE
            refine j_iconst C 1 dX4_look_131 ic_1 ?_
            refine j_goto C 136 dX4_look_132 (by decide) ?_
            refine j_istore_n C dX4_look_136 (by decide) rfl ?_
            refine j_iinc C 4 (nI (i + 1)) dX4_look_137 rfl (nI_1 _) (by decide) rfl ?_
            refine j_goto C 9 dX4_look_140 (by decide) ?_
            refine j_lv [0, 3, 2, 1, 5] rfl ?_
            exact ih (i + 1) b1q2 (1 : Int32) (1 : Int32) uq2 (by omega) hb1q2 (Or.inr rfl) (Or.inr rfl) hE
          · have hE := (if_pos c16).symm.trans hE
            refine j_iload C 3 dX4_look_104 rfl ?_
            refine j_if_ne C 135 dX4_look_106 (by decide) (fun c17 => ?_) (fun c17 => ?_)
            · have hE := (if_neg c17).symm.trans hE
              refine j_iconst C 0 dX4_look_135 ic_0 ?_
              refine j_istore_n C dX4_look_136 (by decide) rfl ?_
              refine j_iinc C 4 (nI (i + 1)) dX4_look_137 rfl (nI_1 _) (by decide) rfl ?_
              refine j_goto C 9 dX4_look_140 (by decide) ?_
              refine j_lv [0, 3, 2, 1, 5] rfl ?_
              exact ih (i + 1) b1q2 (1 : Int32) (0 : Int32) uq2 (by omega) hb1q2 (Or.inr rfl) (Or.inl rfl) hE
            · have hE := (if_pos c17).symm.trans hE
              refine j_aload_n C 5 dX4_look_109 rfl ?_
              refine j_get C kf_4 0 pl_md 24 (by decide) lk_4_65 rfl dX4_look_110 ?_
              refine j_iload C 4 dX4_look_113 rfl ?_
              refine j_iald C 19 0 pl_a_seen rfl i rfl hlt (by decide) dX4_look_115 ?_
              refine j_iconst C 1 dX4_look_116 ic_1 ?_
              refine j_icmp_ne C 135 dX4_look_117 (by decide) (fun c18 => ?_) (fun c18 => ?_)
              · have hE := (if_neg c18).symm.trans hE
                refine j_iconst C 0 dX4_look_135 ic_0 ?_
                refine j_istore_n C dX4_look_136 (by decide) rfl ?_
                refine j_iinc C 4 (nI (i + 1)) dX4_look_137 rfl (nI_1 _) (by decide) rfl ?_
                refine j_goto C 9 dX4_look_140 (by decide) ?_
                refine j_lv [0, 3, 2, 1, 5] rfl ?_
                exact ih (i + 1) b1q2 (1 : Int32) (0 : Int32) uq2 (by omega) hb1q2 (Or.inr rfl) (Or.inl rfl) hE
              · have hE := (if_pos c18).symm.trans hE
                refine j_aload_n C 5 dX4_look_120 rfl ?_
                refine j_get C kf_4 0 pl_md 25 (by decide) lk_4_68 rfl dX4_look_121 ?_
                refine j_iload C 4 dX4_look_124 rfl ?_
                refine j_iald C 20 0 pl_a_yellows rfl i rfl hlt (by decide) dX4_look_126 ?_
                refine j_iconst C 3 dX4_look_127 ic_3 ?_
                refine j_icmp_ge C 135 dX4_look_128 (by decide) (fun c19 => ?_) (fun c19 => ?_)
                · have hE := (if_pos c19).symm.trans hE
                  refine j_iconst C 0 dX4_look_135 ic_0 ?_
                  refine j_istore_n C dX4_look_136 (by decide) rfl ?_
                  refine j_iinc C 4 (nI (i + 1)) dX4_look_137 rfl (nI_1 _) (by decide) rfl ?_
                  refine j_goto C 9 dX4_look_140 (by decide) ?_
                  refine j_lv [0, 3, 2, 1, 5] rfl ?_
                  exact ih (i + 1) b1q2 (1 : Int32) (0 : Int32) uq2 (by omega) hb1q2 (Or.inr rfl) (Or.inl rfl) hE
                · have hE := (if_neg c19).symm.trans hE
                  refine j_iconst C 1 dX4_look_131 ic_1 ?_
                  refine j_goto C 136 dX4_look_132 (by decide) ?_
                  refine j_istore_n C dX4_look_136 (by decide) rfl ?_
                  refine j_iinc C 4 (nI (i + 1)) dX4_look_137 rfl (nI_1 _) (by decide) rfl ?_
                  refine j_goto C 9 dX4_look_140 (by decide) ?_
                  refine j_lv [0, 3, 2, 1, 5] rfl ?_
                  exact ih (i + 1) b1q2 (1 : Int32) (1 : Int32) uq2 (by omega) hb1q2 (Or.inr rfl) (Or.inr rfl) hE
def f_m_look (u : St)  : St := (f_m_look_9 8 0 (0 : Int32) (0 : Int32) (0 : Int32) u)
set_option maxRecDepth 20000 in
set_option maxHeartbeats 1000000 in
theorem w_m_look_0 {F : St} {u : St} (B : jk_BV p l e R s m args below meth c cX4_look 7 RX4 TT D clA (tyl z) (rW z a) A Q rm_m_look F)  (hE : f_m_look u = F) : JJ p l e R s m args below meth c 0 0 7 D clA (rW z a) A Q 0 [(0, .ref (a 0))] u [] := by
  have C := B.1
  unfold f_m_look at hE
  refine j_iconst C 0 dX4_look_0 ic_0 ?_
  refine j_istore_n C dX4_look_1 (by decide) rfl ?_
  refine j_iconst C 0 dX4_look_2 ic_0 ?_
  refine j_istore_n C dX4_look_3 (by decide) rfl ?_
  refine j_iconst C 0 dX4_look_4 ic_0 ?_
  refine j_istore_n C dX4_look_5 (by decide) rfl ?_
  refine j_iconst C 0 dX4_look_6 ic_0 ?_
  refine j_istore C dX4_look_7 (by decide) rfl ?_
  refine j_lv [0, 3, 2, 1, 4] rfl ?_
  refine j_lq (congrArg (fun x => ([(4, .int x), (1, .int 0), (2, .int 0), (3, .int 0), (0, .ref (a 0))] : List (Nat × Value))) ix_0) ?_
  exact w_m_look_9 B 8 0 (0 : Int32) (0 : Int32) (0 : Int32) u (by omega) (Or.inl rfl) (Or.inl rfl) (Or.inl rfl) hE
theorem c_m_look (l : Launch) (D : va_G) (z : Nat → ClassId) (a : Nat → Nat) (u : St)  : CtV l yX4_look (.code yX4_look cX4_look 7 none :: TT) rm_m_look D clA (tyl z) (rW z a) [.ref (a 0)] u (f_m_look u) :=
  jk_metV (own := RX4) (by decide) rfl (Nat.le_of_ble_eq_true rfl) (fun _ _ _ _ _ _ _ _ _ _ _ B => w_m_look_0 B rfl)
end WLK

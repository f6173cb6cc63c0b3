section WLK
variable {p : Program} {l : Launch} {e : Env} {R : Room} {s : State} {m : MethodId} {args : Array Value} {below : List Frame} {meth : Method} {c : Code} {D : va_G} {z : Nat → ClassId} {a : Nat → Nat} {A : Nat → Prop} {Q : State → Prop}
def rm_m_comesAlong : Room := { frames := 1, cells := 0, slots := 0, locals := 22 }
def f_m_comesAlong (u : St) (k0 : Nat) : Int32 := (if (f_m_has u k0 (1 : Int32)) = (0 : Int32) then (0 : Int32) else (if (f_m_has u k0 (32 : Int32)) = (0 : Int32) then (0 : Int32) else (1 : Int32)))
set_option maxRecDepth 20000 in
set_option maxHeartbeats 1000000 in
theorem w_m_comesAlong_0 {Fr : Int32} {u : St} (B : jk_BI p l e R s m args below meth c cX4_comesAlong 2 RX4 TT .boolean D clA (tyl z) (rW z a) A Q rm_m_comesAlong (Fr, u)) {k0 : Nat} (hk0 : k0 < 8) (hE : f_m_comesAlong u k0 = Fr) : JJ p l e R s m args below meth c 0 0 2 D clA (rW z a) A Q 0 [(0, .ref (a 0)), (1, .int (nI k0))] u [] := by
  have C := B.1
  unfold f_m_comesAlong at hE
  refine j_aload_n C 0 dX4_comesAlong_0 rfl ?_
  refine j_iload_n C 1 dX4_comesAlong_1 rfl ?_
  refine j_iconst C 1 dX4_comesAlong_2 ic_1 ?_
  refine j_cIV C B.2.1 (c_m_has l D z a u k0 (1 : Int32) hk0) gv_4_75 dd_m_has ⟨⟨rfl, rfl⟩, Nat.le_of_ble_eq_true rfl, Nat.le_of_ble_eq_true rfl⟩ 0 4 pl_md rfl rfl rfl rfl (Nat.le_of_ble_eq_true rfl) dX4_comesAlong_3 ?_
  refine j_if_eq C 23 dX4_comesAlong_6 (by decide) (fun c1 => ?_) (fun c1 => ?_)
  · have hE := (if_pos c1).symm.trans hE
    refine j_iconst C 0 dX4_comesAlong_23 ic_0 ?_
    exact B.2.2 _ _ _ _ dX4_comesAlong_24 rfl (congrArg (fun x => (x, u)) hE)
  · have hE := (if_neg c1).symm.trans hE
    refine j_aload_n C 0 dX4_comesAlong_9 rfl ?_
    refine j_iload_n C 1 dX4_comesAlong_10 rfl ?_
    refine j_bipush C 32 dX4_comesAlong_11 bp_32 ?_
    refine j_cIV C B.2.1 (c_m_has l D z a u k0 (32 : Int32) hk0) gv_4_75 dd_m_has ⟨⟨rfl, rfl⟩, Nat.le_of_ble_eq_true rfl, Nat.le_of_ble_eq_true rfl⟩ 0 4 pl_md rfl rfl rfl rfl (Nat.le_of_ble_eq_true rfl) dX4_comesAlong_13 ?_
    refine j_if_eq C 23 dX4_comesAlong_16 (by decide) (fun c2 => ?_) (fun c2 => ?_)
    · have hE := (if_pos c2).symm.trans hE
      refine j_iconst C 0 dX4_comesAlong_23 ic_0 ?_
      exact B.2.2 _ _ _ _ dX4_comesAlong_24 rfl (congrArg (fun x => (x, u)) hE)
    · have hE := (if_neg c2).symm.trans hE
      refine j_iconst C 1 dX4_comesAlong_19 ic_1 ?_
      refine j_goto C 24 dX4_comesAlong_20 (by decide) ?_
      exact B.2.2 _ _ _ _ dX4_comesAlong_24 rfl (congrArg (fun x => (x, u)) hE)
theorem c_m_comesAlong (l : Launch) (D : va_G) (z : Nat → ClassId) (a : Nat → Nat) (u : St) (k0 : Nat) (hk0 : k0 < 8) : CtI l yX4_comesAlong (.code yX4_comesAlong cX4_comesAlong 2 (some .boolean) :: TT) rm_m_comesAlong D clA (tyl z) (rW z a) [.ref (a 0), .int (nI k0)] u (f_m_comesAlong u k0) u :=
  jk_metI (own := RX4) (by decide) rfl (Nat.le_of_ble_eq_true rfl) (fun _ _ _ _ _ _ _ _ _ _ _ B => w_m_comesAlong_0 B hk0 rfl)
def rm_m_begin : Room := { frames := 1, cells := 0, slots := 0, locals := 22 }
def f_m_begin (u : St) (k0 : Nat) : St := (if ((up2 (up2 (up2 (up2 (up2 (up2 (up2 (up2 u 11 k0 (u 12 k0)) 12 k0 (-1 : Int32)) 13 k0 (1 : Int32)) 14 k0 (0 : Int32)) 15 k0 (f_m_timeOf (up2 (up2 (up2 (up2 u 11 k0 (u 12 k0)) 12 k0 (-1 : Int32)) 13 k0 (1 : Int32)) 14 k0 (0 : Int32)) ((u 12 k0).toNatClampNeg) 1)) 16 k0 (0 : Int32)) 5 ((u 12 k0).toNatClampNeg) (0 : Int32)) 8 ((u 12 k0).toNatClampNeg) (((up2 (up2 (up2 (up2 (up2 (up2 (up2 u 11 k0 (u 12 k0)) 12 k0 (-1 : Int32)) 13 k0 (1 : Int32)) 14 k0 (0 : Int32)) 15 k0 (f_m_timeOf (up2 (up2 (up2 (up2 u 11 k0 (u 12 k0)) 12 k0 (-1 : Int32)) 13 k0 (1 : Int32)) 14 k0 (0 : Int32)) ((u 12 k0).toNatClampNeg) 1)) 16 k0 (0 : Int32)) 5 ((u 12 k0).toNatClampNeg) (0 : Int32)) 8 ((u 12 k0).toNatClampNeg)) + (1 : Int32))) 4 ((u 12 k0).toNatClampNeg)) = (0 : Int32) then (if (f_m_has (up2 (up2 (up2 (up2 (up2 (up2 (up2 (up2 u 11 k0 (u 12 k0)) 12 k0 (-1 : Int32)) 13 k0 (1 : Int32)) 14 k0 (0 : Int32)) 15 k0 (f_m_timeOf (up2 (up2 (up2 (up2 u 11 k0 (u 12 k0)) 12 k0 (-1 : Int32)) 13 k0 (1 : Int32)) 14 k0 (0 : Int32)) ((u 12 k0).toNatClampNeg) 1)) 16 k0 (0 : Int32)) 5 ((u 12 k0).toNatClampNeg) (0 : Int32)) 8 ((u 12 k0).toNatClampNeg) (((up2 (up2 (up2 (up2 (up2 (up2 (up2 u 11 k0 (u 12 k0)) 12 k0 (-1 : Int32)) 13 k0 (1 : Int32)) 14 k0 (0 : Int32)) 15 k0 (f_m_timeOf (up2 (up2 (up2 (up2 u 11 k0 (u 12 k0)) 12 k0 (-1 : Int32)) 13 k0 (1 : Int32)) 14 k0 (0 : Int32)) ((u 12 k0).toNatClampNeg) 1)) 16 k0 (0 : Int32)) 5 ((u 12 k0).toNatClampNeg) (0 : Int32)) 8 ((u 12 k0).toNatClampNeg)) + (1 : Int32))) ((u 12 k0).toNatClampNeg) (16 : Int32)) = (0 : Int32) then (up2 (up2 (up2 (up2 (up2 (up2 (up2 (up2 (up2 (up2 (up2 u 11 k0 (u 12 k0)) 12 k0 (-1 : Int32)) 13 k0 (1 : Int32)) 14 k0 (0 : Int32)) 15 k0 (f_m_timeOf (up2 (up2 (up2 (up2 u 11 k0 (u 12 k0)) 12 k0 (-1 : Int32)) 13 k0 (1 : Int32)) 14 k0 (0 : Int32)) ((u 12 k0).toNatClampNeg) 1)) 16 k0 (0 : Int32)) 5 ((u 12 k0).toNatClampNeg) (0 : Int32)) 8 ((u 12 k0).toNatClampNeg) (((up2 (up2 (up2 (up2 (up2 (up2 (up2 u 11 k0 (u 12 k0)) 12 k0 (-1 : Int32)) 13 k0 (1 : Int32)) 14 k0 (0 : Int32)) 15 k0 (f_m_timeOf (up2 (up2 (up2 (up2 u 11 k0 (u 12 k0)) 12 k0 (-1 : Int32)) 13 k0 (1 : Int32)) 14 k0 (0 : Int32)) ((u 12 k0).toNatClampNeg) 1)) 16 k0 (0 : Int32)) 5 ((u 12 k0).toNatClampNeg) (0 : Int32)) 8 ((u 12 k0).toNatClampNeg)) + (1 : Int32))) 17 k0 (0 : Int32)) 18 k0 (0 : Int32)) 4 ((u 12 k0).toNatClampNeg) (0 : Int32)) else (if (f_m_timeOf (up2 (up2 (up2 (up2 (up2 (up2 (up2 (up2 u 11 k0 (u 12 k0)) 12 k0 (-1 : Int32)) 13 k0 (1 : Int32)) 14 k0 (0 : Int32)) 15 k0 (f_m_timeOf (up2 (up2 (up2 (up2 u 11 k0 (u 12 k0)) 12 k0 (-1 : Int32)) 13 k0 (1 : Int32)) 14 k0 (0 : Int32)) ((u 12 k0).toNatClampNeg) 1)) 16 k0 (0 : Int32)) 5 ((u 12 k0).toNatClampNeg) (0 : Int32)) 8 ((u 12 k0).toNatClampNeg) (((up2 (up2 (up2 (up2 (up2 (up2 (up2 u 11 k0 (u 12 k0)) 12 k0 (-1 : Int32)) 13 k0 (1 : Int32)) 14 k0 (0 : Int32)) 15 k0 (f_m_timeOf (up2 (up2 (up2 (up2 u 11 k0 (u 12 k0)) 12 k0 (-1 : Int32)) 13 k0 (1 : Int32)) 14 k0 (0 : Int32)) ((u 12 k0).toNatClampNeg) 1)) 16 k0 (0 : Int32)) 5 ((u 12 k0).toNatClampNeg) (0 : Int32)) 8 ((u 12 k0).toNatClampNeg)) + (1 : Int32))) ((u 12 k0).toNatClampNeg) 5) ≤ (0 : Int32) then (up2 (up2 (up2 (up2 (up2 (up2 (up2 (up2 (up2 (up2 (up2 u 11 k0 (u 12 k0)) 12 k0 (-1 : Int32)) 13 k0 (1 : Int32)) 14 k0 (0 : Int32)) 15 k0 (f_m_timeOf (up2 (up2 (up2 (up2 u 11 k0 (u 12 k0)) 12 k0 (-1 : Int32)) 13 k0 (1 : Int32)) 14 k0 (0 : Int32)) ((u 12 k0).toNatClampNeg) 1)) 16 k0 (0 : Int32)) 5 ((u 12 k0).toNatClampNeg) (0 : Int32)) 8 ((u 12 k0).toNatClampNeg) (((up2 (up2 (up2 (up2 (up2 (up2 (up2 u 11 k0 (u 12 k0)) 12 k0 (-1 : Int32)) 13 k0 (1 : Int32)) 14 k0 (0 : Int32)) 15 k0 (f_m_timeOf (up2 (up2 (up2 (up2 u 11 k0 (u 12 k0)) 12 k0 (-1 : Int32)) 13 k0 (1 : Int32)) 14 k0 (0 : Int32)) ((u 12 k0).toNatClampNeg) 1)) 16 k0 (0 : Int32)) 5 ((u 12 k0).toNatClampNeg) (0 : Int32)) 8 ((u 12 k0).toNatClampNeg)) + (1 : Int32))) 17 k0 (0 : Int32)) 18 k0 (0 : Int32)) 4 ((u 12 k0).toNatClampNeg) (0 : Int32)) else (up2 (up2 (up2 (up2 (up2 (up2 (up2 (up2 (up2 (up2 (up2 u 11 k0 (u 12 k0)) 12 k0 (-1 : Int32)) 13 k0 (1 : Int32)) 14 k0 (0 : Int32)) 15 k0 (f_m_timeOf (up2 (up2 (up2 (up2 u 11 k0 (u 12 k0)) 12 k0 (-1 : Int32)) 13 k0 (1 : Int32)) 14 k0 (0 : Int32)) ((u 12 k0).toNatClampNeg) 1)) 16 k0 (0 : Int32)) 5 ((u 12 k0).toNatClampNeg) (0 : Int32)) 8 ((u 12 k0).toNatClampNeg) (((up2 (up2 (up2 (up2 (up2 (up2 (up2 u 11 k0 (u 12 k0)) 12 k0 (-1 : Int32)) 13 k0 (1 : Int32)) 14 k0 (0 : Int32)) 15 k0 (f_m_timeOf (up2 (up2 (up2 (up2 u 11 k0 (u 12 k0)) 12 k0 (-1 : Int32)) 13 k0 (1 : Int32)) 14 k0 (0 : Int32)) ((u 12 k0).toNatClampNeg) 1)) 16 k0 (0 : Int32)) 5 ((u 12 k0).toNatClampNeg) (0 : Int32)) 8 ((u 12 k0).toNatClampNeg)) + (1 : Int32))) 17 k0 (f_m_timeOf (up2 (up2 (up2 (up2 (up2 (up2 (up2 (up2 u 11 k0 (u 12 k0)) 12 k0 (-1 : Int32)) 13 k0 (1 : Int32)) 14 k0 (0 : Int32)) 15 k0 (f_m_timeOf (up2 (up2 (up2 (up2 u 11 k0 (u 12 k0)) 12 k0 (-1 : Int32)) 13 k0 (1 : Int32)) 14 k0 (0 : Int32)) ((u 12 k0).toNatClampNeg) 1)) 16 k0 (0 : Int32)) 5 ((u 12 k0).toNatClampNeg) (0 : Int32)) 8 ((u 12 k0).toNatClampNeg) (((up2 (up2 (up2 (up2 (up2 (up2 (up2 u 11 k0 (u 12 k0)) 12 k0 (-1 : Int32)) 13 k0 (1 : Int32)) 14 k0 (0 : Int32)) 15 k0 (f_m_timeOf (up2 (up2 (up2 (up2 u 11 k0 (u 12 k0)) 12 k0 (-1 : Int32)) 13 k0 (1 : Int32)) 14 k0 (0 : Int32)) ((u 12 k0).toNatClampNeg) 1)) 16 k0 (0 : Int32)) 5 ((u 12 k0).toNatClampNeg) (0 : Int32)) 8 ((u 12 k0).toNatClampNeg)) + (1 : Int32))) ((u 12 k0).toNatClampNeg) 5)) 18 k0 (f_m_timeOf (up2 (up2 (up2 (up2 (up2 (up2 (up2 (up2 (up2 u 11 k0 (u 12 k0)) 12 k0 (-1 : Int32)) 13 k0 (1 : Int32)) 14 k0 (0 : Int32)) 15 k0 (f_m_timeOf (up2 (up2 (up2 (up2 u 11 k0 (u 12 k0)) 12 k0 (-1 : Int32)) 13 k0 (1 : Int32)) 14 k0 (0 : Int32)) ((u 12 k0).toNatClampNeg) 1)) 16 k0 (0 : Int32)) 5 ((u 12 k0).toNatClampNeg) (0 : Int32)) 8 ((u 12 k0).toNatClampNeg) (((up2 (up2 (up2 (up2 (up2 (up2 (up2 u 11 k0 (u 12 k0)) 12 k0 (-1 : Int32)) 13 k0 (1 : Int32)) 14 k0 (0 : Int32)) 15 k0 (f_m_timeOf (up2 (up2 (up2 (up2 u 11 k0 (u 12 k0)) 12 k0 (-1 : Int32)) 13 k0 (1 : Int32)) 14 k0 (0 : Int32)) ((u 12 k0).toNatClampNeg) 1)) 16 k0 (0 : Int32)) 5 ((u 12 k0).toNatClampNeg) (0 : Int32)) 8 ((u 12 k0).toNatClampNeg)) + (1 : Int32))) 17 k0 (f_m_timeOf (up2 (up2 (up2 (up2 (up2 (up2 (up2 (up2 u 11 k0 (u 12 k0)) 12 k0 (-1 : Int32)) 13 k0 (1 : Int32)) 14 k0 (0 : Int32)) 15 k0 (f_m_timeOf (up2 (up2 (up2 (up2 u 11 k0 (u 12 k0)) 12 k0 (-1 : Int32)) 13 k0 (1 : Int32)) 14 k0 (0 : Int32)) ((u 12 k0).toNatClampNeg) 1)) 16 k0 (0 : Int32)) 5 ((u 12 k0).toNatClampNeg) (0 : Int32)) 8 ((u 12 k0).toNatClampNeg) (((up2 (up2 (up2 (up2 (up2 (up2 (up2 u 11 k0 (u 12 k0)) 12 k0 (-1 : Int32)) 13 k0 (1 : Int32)) 14 k0 (0 : Int32)) 15 k0 (f_m_timeOf (up2 (up2 (up2 (up2 u 11 k0 (u 12 k0)) 12 k0 (-1 : Int32)) 13 k0 (1 : Int32)) 14 k0 (0 : Int32)) ((u 12 k0).toNatClampNeg) 1)) 16 k0 (0 : Int32)) 5 ((u 12 k0).toNatClampNeg) (0 : Int32)) 8 ((u 12 k0).toNatClampNeg)) + (1 : Int32))) ((u 12 k0).toNatClampNeg) 5)) ((u 12 k0).toNatClampNeg) 6)) 4 ((u 12 k0).toNatClampNeg) (0 : Int32)))) else (if (f_m_timeOf (up2 (up2 (up2 (up2 (up2 (up2 (up2 (up2 u 11 k0 (u 12 k0)) 12 k0 (-1 : Int32)) 13 k0 (1 : Int32)) 14 k0 (0 : Int32)) 15 k0 (f_m_timeOf (up2 (up2 (up2 (up2 u 11 k0 (u 12 k0)) 12 k0 (-1 : Int32)) 13 k0 (1 : Int32)) 14 k0 (0 : Int32)) ((u 12 k0).toNatClampNeg) 1)) 16 k0 (0 : Int32)) 5 ((u 12 k0).toNatClampNeg) (0 : Int32)) 8 ((u 12 k0).toNatClampNeg) (((up2 (up2 (up2 (up2 (up2 (up2 (up2 u 11 k0 (u 12 k0)) 12 k0 (-1 : Int32)) 13 k0 (1 : Int32)) 14 k0 (0 : Int32)) 15 k0 (f_m_timeOf (up2 (up2 (up2 (up2 u 11 k0 (u 12 k0)) 12 k0 (-1 : Int32)) 13 k0 (1 : Int32)) 14 k0 (0 : Int32)) ((u 12 k0).toNatClampNeg) 1)) 16 k0 (0 : Int32)) 5 ((u 12 k0).toNatClampNeg) (0 : Int32)) 8 ((u 12 k0).toNatClampNeg)) + (1 : Int32))) ((u 12 k0).toNatClampNeg) 5) ≤ (0 : Int32) then (up2 (up2 (up2 (up2 (up2 (up2 (up2 (up2 (up2 (up2 (up2 u 11 k0 (u 12 k0)) 12 k0 (-1 : Int32)) 13 k0 (1 : Int32)) 14 k0 (0 : Int32)) 15 k0 (f_m_timeOf (up2 (up2 (up2 (up2 u 11 k0 (u 12 k0)) 12 k0 (-1 : Int32)) 13 k0 (1 : Int32)) 14 k0 (0 : Int32)) ((u 12 k0).toNatClampNeg) 1)) 16 k0 (0 : Int32)) 5 ((u 12 k0).toNatClampNeg) (0 : Int32)) 8 ((u 12 k0).toNatClampNeg) (((up2 (up2 (up2 (up2 (up2 (up2 (up2 u 11 k0 (u 12 k0)) 12 k0 (-1 : Int32)) 13 k0 (1 : Int32)) 14 k0 (0 : Int32)) 15 k0 (f_m_timeOf (up2 (up2 (up2 (up2 u 11 k0 (u 12 k0)) 12 k0 (-1 : Int32)) 13 k0 (1 : Int32)) 14 k0 (0 : Int32)) ((u 12 k0).toNatClampNeg) 1)) 16 k0 (0 : Int32)) 5 ((u 12 k0).toNatClampNeg) (0 : Int32)) 8 ((u 12 k0).toNatClampNeg)) + (1 : Int32))) 17 k0 (0 : Int32)) 18 k0 (0 : Int32)) 4 ((u 12 k0).toNatClampNeg) (0 : Int32)) else (up2 (up2 (up2 (up2 (up2 (up2 (up2 (up2 (up2 (up2 (up2 u 11 k0 (u 12 k0)) 12 k0 (-1 : Int32)) 13 k0 (1 : Int32)) 14 k0 (0 : Int32)) 15 k0 (f_m_timeOf (up2 (up2 (up2 (up2 u 11 k0 (u 12 k0)) 12 k0 (-1 : Int32)) 13 k0 (1 : Int32)) 14 k0 (0 : Int32)) ((u 12 k0).toNatClampNeg) 1)) 16 k0 (0 : Int32)) 5 ((u 12 k0).toNatClampNeg) (0 : Int32)) 8 ((u 12 k0).toNatClampNeg) (((up2 (up2 (up2 (up2 (up2 (up2 (up2 u 11 k0 (u 12 k0)) 12 k0 (-1 : Int32)) 13 k0 (1 : Int32)) 14 k0 (0 : Int32)) 15 k0 (f_m_timeOf (up2 (up2 (up2 (up2 u 11 k0 (u 12 k0)) 12 k0 (-1 : Int32)) 13 k0 (1 : Int32)) 14 k0 (0 : Int32)) ((u 12 k0).toNatClampNeg) 1)) 16 k0 (0 : Int32)) 5 ((u 12 k0).toNatClampNeg) (0 : Int32)) 8 ((u 12 k0).toNatClampNeg)) + (1 : Int32))) 17 k0 (f_m_timeOf (up2 (up2 (up2 (up2 (up2 (up2 (up2 (up2 u 11 k0 (u 12 k0)) 12 k0 (-1 : Int32)) 13 k0 (1 : Int32)) 14 k0 (0 : Int32)) 15 k0 (f_m_timeOf (up2 (up2 (up2 (up2 u 11 k0 (u 12 k0)) 12 k0 (-1 : Int32)) 13 k0 (1 : Int32)) 14 k0 (0 : Int32)) ((u 12 k0).toNatClampNeg) 1)) 16 k0 (0 : Int32)) 5 ((u 12 k0).toNatClampNeg) (0 : Int32)) 8 ((u 12 k0).toNatClampNeg) (((up2 (up2 (up2 (up2 (up2 (up2 (up2 u 11 k0 (u 12 k0)) 12 k0 (-1 : Int32)) 13 k0 (1 : Int32)) 14 k0 (0 : Int32)) 15 k0 (f_m_timeOf (up2 (up2 (up2 (up2 u 11 k0 (u 12 k0)) 12 k0 (-1 : Int32)) 13 k0 (1 : Int32)) 14 k0 (0 : Int32)) ((u 12 k0).toNatClampNeg) 1)) 16 k0 (0 : Int32)) 5 ((u 12 k0).toNatClampNeg) (0 : Int32)) 8 ((u 12 k0).toNatClampNeg)) + (1 : Int32))) ((u 12 k0).toNatClampNeg) 5)) 18 k0 (f_m_timeOf (up2 (up2 (up2 (up2 (up2 (up2 (up2 (up2 (up2 u 11 k0 (u 12 k0)) 12 k0 (-1 : Int32)) 13 k0 (1 : Int32)) 14 k0 (0 : Int32)) 15 k0 (f_m_timeOf (up2 (up2 (up2 (up2 u 11 k0 (u 12 k0)) 12 k0 (-1 : Int32)) 13 k0 (1 : Int32)) 14 k0 (0 : Int32)) ((u 12 k0).toNatClampNeg) 1)) 16 k0 (0 : Int32)) 5 ((u 12 k0).toNatClampNeg) (0 : Int32)) 8 ((u 12 k0).toNatClampNeg) (((up2 (up2 (up2 (up2 (up2 (up2 (up2 u 11 k0 (u 12 k0)) 12 k0 (-1 : Int32)) 13 k0 (1 : Int32)) 14 k0 (0 : Int32)) 15 k0 (f_m_timeOf (up2 (up2 (up2 (up2 u 11 k0 (u 12 k0)) 12 k0 (-1 : Int32)) 13 k0 (1 : Int32)) 14 k0 (0 : Int32)) ((u 12 k0).toNatClampNeg) 1)) 16 k0 (0 : Int32)) 5 ((u 12 k0).toNatClampNeg) (0 : Int32)) 8 ((u 12 k0).toNatClampNeg)) + (1 : Int32))) 17 k0 (f_m_timeOf (up2 (up2 (up2 (up2 (up2 (up2 (up2 (up2 u 11 k0 (u 12 k0)) 12 k0 (-1 : Int32)) 13 k0 (1 : Int32)) 14 k0 (0 : Int32)) 15 k0 (f_m_timeOf (up2 (up2 (up2 (up2 u 11 k0 (u 12 k0)) 12 k0 (-1 : Int32)) 13 k0 (1 : Int32)) 14 k0 (0 : Int32)) ((u 12 k0).toNatClampNeg) 1)) 16 k0 (0 : Int32)) 5 ((u 12 k0).toNatClampNeg) (0 : Int32)) 8 ((u 12 k0).toNatClampNeg) (((up2 (up2 (up2 (up2 (up2 (up2 (up2 u 11 k0 (u 12 k0)) 12 k0 (-1 : Int32)) 13 k0 (1 : Int32)) 14 k0 (0 : Int32)) 15 k0 (f_m_timeOf (up2 (up2 (up2 (up2 u 11 k0 (u 12 k0)) 12 k0 (-1 : Int32)) 13 k0 (1 : Int32)) 14 k0 (0 : Int32)) ((u 12 k0).toNatClampNeg) 1)) 16 k0 (0 : Int32)) 5 ((u 12 k0).toNatClampNeg) (0 : Int32)) 8 ((u 12 k0).toNatClampNeg)) + (1 : Int32))) ((u 12 k0).toNatClampNeg) 5)) ((u 12 k0).toNatClampNeg) 6)) 4 ((u 12 k0).toNatClampNeg) (0 : Int32))))
def g_m_begin (u : St) (k0 : Nat) : Prop := (vp_in (u 12 k0) 8)
set_option maxRecDepth 20000 in
set_option maxHeartbeats 1000000 in
theorem w_m_begin_0 {F : St} {u : St} (B : jk_BV p l e R s m args below meth c cX4_begin 4 RX4 TT D clA (tyl z) (rW z a) A Q rm_m_begin F) {k0 : Nat} (hk0 : k0 < 2) (hE : f_m_begin u k0 = F) (hG : g_m_begin u k0) : JJ p l e R s m args below meth c 0 0 4 D clA (rW z a) A Q 0 [(0, .ref (a 0)), (1, .int (nI k0))] u [] := by
  have C := B.1
  unfold f_m_begin at hE
  unfold g_m_begin at hG
  refine j_aload_n C 0 dX4_begin_0 rfl ?_
  refine j_get C kf_4 0 pl_md 12 (by decide) lk_4_44 rfl dX4_begin_1 ?_
  refine j_iload_n C 1 dX4_begin_4 rfl ?_
  refine j_iald C 12 0 pl_a_next rfl k0 rfl hk0 (by decide) dX4_begin_5 ?_
  refine j_istore_n C dX4_begin_6 (by decide) rfl ?_
  refine j_aload_n C 1 dX4_begin_7 rfl ?_
  refine j_get C kf_4 0 pl_md 11 (by decide) lk_4_41 rfl dX4_begin_8 ?_
  refine j_iload_n C 2 dX4_begin_11 rfl ?_
  refine j_iload_n C 0 dX4_begin_12 rfl ?_
  refine j_iast C 11 0 pl_a_now rfl k0 rfl hk0 (by decide) pu_a_now dX4_begin_13 ?_
  refine j_aload_n C 1 dX4_begin_14 rfl ?_
  refine j_get C kf_4 0 pl_md 12 (by decide) lk_4_44 rfl dX4_begin_15 ?_
  refine j_iload_n C 2 dX4_begin_18 rfl ?_
  refine j_iconst C (-1) dX4_begin_19 ic_m1 ?_
  refine j_iast C 12 0 pl_a_next rfl k0 rfl hk0 (by decide) pu_a_next dX4_begin_20 ?_
  refine j_aload_n C 1 dX4_begin_21 rfl ?_
  refine j_get C kf_4 0 pl_md 13 (by decide) lk_4_47 rfl dX4_begin_22 ?_
  refine j_iload_n C 2 dX4_begin_25 rfl ?_
  refine j_iconst C 1 dX4_begin_26 ic_1 ?_
  refine j_iast C 13 0 pl_a_phase rfl k0 rfl hk0 (by decide) pu_a_phase dX4_begin_27 ?_
  refine j_aload_n C 1 dX4_begin_28 rfl ?_
  refine j_get C kf_4 0 pl_md 14 (by decide) lk_4_50 rfl dX4_begin_29 ?_
  refine j_iload_n C 2 dX4_begin_32 rfl ?_
  refine j_iconst C 0 dX4_begin_33 ic_0 ?_
  refine j_iast C 14 0 pl_a_age rfl k0 rfl hk0 (by decide) pu_a_age dX4_begin_34 ?_
  refine j_aload_n C 1 dX4_begin_35 rfl ?_
  refine j_get C kf_4 0 pl_md 15 (by decide) lk_4_53 rfl dX4_begin_36 ?_
  refine j_iload_n C 2 dX4_begin_39 rfl ?_
  refine j_aload_n C 1 dX4_begin_40 rfl ?_
  refine j_iload_n C 0 dX4_begin_41 rfl ?_
  refine j_iconst C 1 dX4_begin_42 ic_1 ?_
  have hv1 := hG
  have lhv1 := jk_lt hv1
  refine j_st (st' := [.int (nI 1), .int (nI ((u 12 k0).toNatClampNeg)), .ref (a 0), .int (nI k0), .ref (a 15)]) ((congrArg (fun x => ([.int 1, .int x, .ref (a 0), .int (nI k0), .ref (a 15)] : List Value)) (jk_self hv1 (by decide))).trans (congrArg (fun x => ([.int x, .int (nI ((u 12 k0).toNatClampNeg)), .ref (a 0), .int (nI k0), .ref (a 15)] : List Value)) ix_1)) ?_
  refine j_cIV C B.2.1 (c_m_timeOf l D z a (up2 (up2 (up2 (up2 u 11 k0 (u 12 k0)) 12 k0 (-1 : Int32)) 13 k0 (1 : Int32)) 14 k0 (0 : Int32)) ((u 12 k0).toNatClampNeg) 1 (jk_lt hv1) (by decide)) gv_4_103 dd_m_timeOf ⟨⟨rfl, rfl⟩, Nat.le_of_ble_eq_true rfl, Nat.le_of_ble_eq_true rfl⟩ 0 4 pl_md rfl rfl rfl rfl (Nat.le_of_ble_eq_true rfl) dX4_begin_43 ?_
  refine j_iast C 15 0 pl_a_left rfl k0 rfl hk0 (by decide) pu_a_left dX4_begin_46 ?_
  refine j_aload_n C 1 dX4_begin_47 rfl ?_
  refine j_get C kf_4 0 pl_md 16 (by decide) lk_4_56 rfl dX4_begin_48 ?_
  refine j_iload_n C 2 dX4_begin_51 rfl ?_
  refine j_iconst C 0 dX4_begin_52 ic_0 ?_
  refine j_iast C 16 0 pl_a_pressure rfl k0 rfl hk0 (by decide) pu_a_pressure dX4_begin_53 ?_
  refine j_aload_n C 1 dX4_begin_54 rfl ?_
  refine j_get C kf_4 0 pl_md 5 (by decide) lk_4_23 rfl dX4_begin_55 ?_
  refine j_iload_n C 0 dX4_begin_58 rfl ?_
  refine j_iconst C 0 dX4_begin_59 ic_0 ?_
  refine j_zast C 5 1 pl_a_remembered rfl ((u 12 k0).toNatClampNeg) (jk_self hv1 (by decide)) (jk_lt hv1) (by decide) rfl pu_a_remembered dX4_begin_60 ?_
  refine j_aload_n C 1 dX4_begin_61 rfl ?_
  refine j_get C kf_4 0 pl_md 8 (by decide) lk_4_32 rfl dX4_begin_62 ?_
  refine j_iload_n C 0 dX4_begin_65 rfl ?_
  refine j_dup2 C dX4_begin_66 rfl rfl ?_
  refine j_iald C 8 0 pl_a_greens rfl ((u 12 k0).toNatClampNeg) (jk_self hv1 (by decide)) (jk_lt hv1) (by decide) dX4_begin_67 ?_
  refine j_iconst C 1 dX4_begin_68 ic_1 ?_
  refine j_iadd C dX4_begin_69 ?_
  refine j_iast C 8 0 pl_a_greens rfl ((u 12 k0).toNatClampNeg) (jk_self hv1 (by decide)) (jk_lt hv1) (by decide) pu_a_greens dX4_begin_70 ?_
  refine j_aload_n C 1 dX4_begin_71 rfl ?_
  refine j_get C kf_4 0 pl_md 4 (by decide) lk_4_20 rfl dX4_begin_72 ?_
  refine j_iload_n C 0 dX4_begin_75 rfl ?_
  refine j_zald C 4 1 pl_a_pushes rfl ((u 12 k0).toNatClampNeg) (jk_self hv1 (by decide)) (jk_lt hv1) (by decide) dX4_begin_76 ?_
  refine j_if_ne C 90 dX4_begin_77 (by decide) (fun c2 => ?_) (fun c2 => ?_)
  · have hE := (if_neg c2).symm.trans hE
    refine j_aload_n C 1 dX4_begin_90 rfl ?_
    refine j_iload_n C 0 dX4_begin_91 rfl ?_
    refine j_iconst C 5 dX4_begin_92 ic_5 ?_
    refine j_st (st' := [.int (nI 5), .int (nI ((u 12 k0).toNatClampNeg)), .ref (a 0)]) ((congrArg (fun x => ([.int 5, .int x, .ref (a 0)] : List Value)) (jk_self hv1 (by decide))).trans (congrArg (fun x => ([.int x, .int (nI ((u 12 k0).toNatClampNeg)), .ref (a 0)] : List Value)) ix_5)) ?_
    refine j_cIV C B.2.1 (c_m_timeOf l D z a (up2 (up2 (up2 (up2 (up2 (up2 (up2 (up2 u 11 k0 (u 12 k0)) 12 k0 (-1 : Int32)) 13 k0 (1 : Int32)) 14 k0 (0 : Int32)) 15 k0 (f_m_timeOf (up2 (up2 (up2 (up2 u 11 k0 (u 12 k0)) 12 k0 (-1 : Int32)) 13 k0 (1 : Int32)) 14 k0 (0 : Int32)) ((u 12 k0).toNatClampNeg) 1)) 16 k0 (0 : Int32)) 5 ((u 12 k0).toNatClampNeg) (0 : Int32)) 8 ((u 12 k0).toNatClampNeg) (((up2 (up2 (up2 (up2 (up2 (up2 (up2 u 11 k0 (u 12 k0)) 12 k0 (-1 : Int32)) 13 k0 (1 : Int32)) 14 k0 (0 : Int32)) 15 k0 (f_m_timeOf (up2 (up2 (up2 (up2 u 11 k0 (u 12 k0)) 12 k0 (-1 : Int32)) 13 k0 (1 : Int32)) 14 k0 (0 : Int32)) ((u 12 k0).toNatClampNeg) 1)) 16 k0 (0 : Int32)) 5 ((u 12 k0).toNatClampNeg) (0 : Int32)) 8 ((u 12 k0).toNatClampNeg)) + (1 : Int32))) ((u 12 k0).toNatClampNeg) 5 (jk_lt hv1) (by decide)) gv_4_103 dd_m_timeOf ⟨⟨rfl, rfl⟩, Nat.le_of_ble_eq_true rfl, Nat.le_of_ble_eq_true rfl⟩ 0 4 pl_md rfl rfl rfl rfl (Nat.le_of_ble_eq_true rfl) dX4_begin_93 ?_
    refine j_if_le C 103 dX4_begin_96 (by decide) (fun c3 => ?_) (fun c3 => ?_)
    · have hE := (if_pos c3).symm.trans hE
      refine j_iconst C 0 dX4_begin_103 ic_0 ?_
      refine j_istore_n C dX4_begin_104 (by decide) rfl ?_
      refine j_aload_n C 2 dX4_begin_105 rfl ?_
      refine j_get C kf_4 0 pl_md 17 (by decide) lk_4_59 rfl dX4_begin_106 ?_
      refine j_iload_n C 3 dX4_begin_109 rfl ?_
      refine j_iload_n C 0 dX4_begin_110 rfl ?_
      refine j_if_eq C 123 dX4_begin_111 (by decide) (fun _ => ?_) (fun hq => False.elim (by revert hq; decide))
      refine j_iconst C 0 dX4_begin_123 ic_0 ?_
      refine j_iast C 17 0 pl_a_walking rfl k0 rfl hk0 (by decide) pu_a_walking dX4_begin_124 ?_
      refine j_aload_n C 2 dX4_begin_125 rfl ?_
      refine j_get C kf_4 0 pl_md 18 (by decide) lk_4_62 rfl dX4_begin_126 ?_
      refine j_iload_n C 3 dX4_begin_129 rfl ?_
      refine j_iload_n C 0 dX4_begin_130 rfl ?_
      refine j_if_eq C 144 dX4_begin_131 (by decide) (fun _ => ?_) (fun hq => False.elim (by revert hq; decide))
      refine j_iconst C 0 dX4_begin_144 ic_0 ?_
      refine j_iast C 18 0 pl_a_clearing rfl k0 rfl hk0 (by decide) pu_a_clearing dX4_begin_145 ?_
      refine j_aload_n C 2 dX4_begin_146 rfl ?_
      refine j_get C kf_4 0 pl_md 4 (by decide) lk_4_20 rfl dX4_begin_147 ?_
      refine j_iload_n C 1 dX4_begin_150 rfl ?_
      refine j_iconst C 0 dX4_begin_151 ic_0 ?_
      refine j_zast C 4 1 pl_a_pushes rfl ((u 12 k0).toNatClampNeg) (jk_self hv1 (by decide)) (jk_lt hv1) (by decide) rfl pu_a_pushes dX4_begin_152 ?_
      exact B.2.2 _ _ _ dX4_begin_153 hE
    · have hE := (if_neg c3).symm.trans hE
      refine j_iconst C 1 dX4_begin_99 ic_1 ?_
      refine j_goto C 104 dX4_begin_100 (by decide) ?_
      refine j_istore_n C dX4_begin_104 (by decide) rfl ?_
      refine j_aload_n C 2 dX4_begin_105 rfl ?_
      refine j_get C kf_4 0 pl_md 17 (by decide) lk_4_59 rfl dX4_begin_106 ?_
      refine j_iload_n C 3 dX4_begin_109 rfl ?_
      refine j_iload_n C 0 dX4_begin_110 rfl ?_
      refine j_if_eq C 123 dX4_begin_111 (by decide) (fun hq => False.elim (by revert hq; decide)) (fun _ => ?_)
      refine j_aload_n C 2 dX4_begin_114 rfl ?_
      refine j_iload_n C 1 dX4_begin_115 rfl ?_
      refine j_iconst C 5 dX4_begin_116 ic_5 ?_
      refine j_st (st' := [.int (nI 5), .int (nI ((u 12 k0).toNatClampNeg)), .ref (a 0), .int (nI k0), .ref (a 17)]) ((congrArg (fun x => ([.int 5, .int x, .ref (a 0), .int (nI k0), .ref (a 17)] : List Value)) (jk_self hv1 (by decide))).trans (congrArg (fun x => ([.int x, .int (nI ((u 12 k0).toNatClampNeg)), .ref (a 0), .int (nI k0), .ref (a 17)] : List Value)) ix_5)) ?_
      refine j_cIV C B.2.1 (c_m_timeOf l D z a (up2 (up2 (up2 (up2 (up2 (up2 (up2 (up2 u 11 k0 (u 12 k0)) 12 k0 (-1 : Int32)) 13 k0 (1 : Int32)) 14 k0 (0 : Int32)) 15 k0 (f_m_timeOf (up2 (up2 (up2 (up2 u 11 k0 (u 12 k0)) 12 k0 (-1 : Int32)) 13 k0 (1 : Int32)) 14 k0 (0 : Int32)) ((u 12 k0).toNatClampNeg) 1)) 16 k0 (0 : Int32)) 5 ((u 12 k0).toNatClampNeg) (0 : Int32)) 8 ((u 12 k0).toNatClampNeg) (((up2 (up2 (up2 (up2 (up2 (up2 (up2 u 11 k0 (u 12 k0)) 12 k0 (-1 : Int32)) 13 k0 (1 : Int32)) 14 k0 (0 : Int32)) 15 k0 (f_m_timeOf (up2 (up2 (up2 (up2 u 11 k0 (u 12 k0)) 12 k0 (-1 : Int32)) 13 k0 (1 : Int32)) 14 k0 (0 : Int32)) ((u 12 k0).toNatClampNeg) 1)) 16 k0 (0 : Int32)) 5 ((u 12 k0).toNatClampNeg) (0 : Int32)) 8 ((u 12 k0).toNatClampNeg)) + (1 : Int32))) ((u 12 k0).toNatClampNeg) 5 (jk_lt hv1) (by decide)) gv_4_103 dd_m_timeOf ⟨⟨rfl, rfl⟩, Nat.le_of_ble_eq_true rfl, Nat.le_of_ble_eq_true rfl⟩ 0 4 pl_md rfl rfl rfl rfl (Nat.le_of_ble_eq_true rfl) dX4_begin_117 ?_
      refine j_goto C 124 dX4_begin_120 (by decide) ?_
      refine j_iast C 17 0 pl_a_walking rfl k0 rfl hk0 (by decide) pu_a_walking dX4_begin_124 ?_
      refine j_aload_n C 2 dX4_begin_125 rfl ?_
      refine j_get C kf_4 0 pl_md 18 (by decide) lk_4_62 rfl dX4_begin_126 ?_
      refine j_iload_n C 3 dX4_begin_129 rfl ?_
      refine j_iload_n C 0 dX4_begin_130 rfl ?_
      refine j_if_eq C 144 dX4_begin_131 (by decide) (fun hq => False.elim (by revert hq; decide)) (fun _ => ?_)
      refine j_aload_n C 2 dX4_begin_134 rfl ?_
      refine j_iload_n C 1 dX4_begin_135 rfl ?_
      refine j_bipush C 6 dX4_begin_136 bp_6 ?_
      refine j_st (st' := [.int (nI 6), .int (nI ((u 12 k0).toNatClampNeg)), .ref (a 0), .int (nI k0), .ref (a 18)]) ((congrArg (fun x => ([.int 6, .int x, .ref (a 0), .int (nI k0), .ref (a 18)] : List Value)) (jk_self hv1 (by decide))).trans (congrArg (fun x => ([.int x, .int (nI ((u 12 k0).toNatClampNeg)), .ref (a 0), .int (nI k0), .ref (a 18)] : List Value)) ix_6)) ?_
      refine j_cIV C B.2.1 (c_m_timeOf l D z a (up2 (up2 (up2 (up2 (up2 (up2 (up2 (up2 (up2 u 11 k0 (u 12 k0)) 12 k0 (-1 : Int32)) 13 k0 (1 : Int32)) 14 k0 (0 : Int32)) 15 k0 (f_m_timeOf (up2 (up2 (up2 (up2 u 11 k0 (u 12 k0)) 12 k0 (-1 : Int32)) 13 k0 (1 : Int32)) 14 k0 (0 : Int32)) ((u 12 k0).toNatClampNeg) 1)) 16 k0 (0 : Int32)) 5 ((u 12 k0).toNatClampNeg) (0 : Int32)) 8 ((u 12 k0).toNatClampNeg) (((up2 (up2 (up2 (up2 (up2 (up2 (up2 u 11 k0 (u 12 k0)) 12 k0 (-1 : Int32)) 13 k0 (1 : Int32)) 14 k0 (0 : Int32)) 15 k0 (f_m_timeOf (up2 (up2 (up2 (up2 u 11 k0 (u 12 k0)) 12 k0 (-1 : Int32)) 13 k0 (1 : Int32)) 14 k0 (0 : Int32)) ((u 12 k0).toNatClampNeg) 1)) 16 k0 (0 : Int32)) 5 ((u 12 k0).toNatClampNeg) (0 : Int32)) 8 ((u 12 k0).toNatClampNeg)) + (1 : Int32))) 17 k0 (f_m_timeOf (up2 (up2 (up2 (up2 (up2 (up2 (up2 (up2 u 11 k0 (u 12 k0)) 12 k0 (-1 : Int32)) 13 k0 (1 : Int32)) 14 k0 (0 : Int32)) 15 k0 (f_m_timeOf (up2 (up2 (up2 (up2 u 11 k0 (u 12 k0)) 12 k0 (-1 : Int32)) 13 k0 (1 : Int32)) 14 k0 (0 : Int32)) ((u 12 k0).toNatClampNeg) 1)) 16 k0 (0 : Int32)) 5 ((u 12 k0).toNatClampNeg) (0 : Int32)) 8 ((u 12 k0).toNatClampNeg) (((up2 (up2 (up2 (up2 (up2 (up2 (up2 u 11 k0 (u 12 k0)) 12 k0 (-1 : Int32)) 13 k0 (1 : Int32)) 14 k0 (0 : Int32)) 15 k0 (f_m_timeOf (up2 (up2 (up2 (up2 u 11 k0 (u 12 k0)) 12 k0 (-1 : Int32)) 13 k0 (1 : Int32)) 14 k0 (0 : Int32)) ((u 12 k0).toNatClampNeg) 1)) 16 k0 (0 : Int32)) 5 ((u 12 k0).toNatClampNeg) (0 : Int32)) 8 ((u 12 k0).toNatClampNeg)) + (1 : Int32))) ((u 12 k0).toNatClampNeg) 5)) ((u 12 k0).toNatClampNeg) 6 (jk_lt hv1) (by decide)) gv_4_103 dd_m_timeOf ⟨⟨rfl, rfl⟩, Nat.le_of_ble_eq_true rfl, Nat.le_of_ble_eq_true rfl⟩ 0 4 pl_md rfl rfl rfl rfl (Nat.le_of_ble_eq_true rfl) dX4_begin_138 ?_
      refine j_goto C 145 dX4_begin_141 (by decide) ?_
      refine j_iast C 18 0 pl_a_clearing rfl k0 rfl hk0 (by decide) pu_a_clearing dX4_begin_145 ?_
      refine j_aload_n C 2 dX4_begin_146 rfl ?_
      refine j_get C kf_4 0 pl_md 4 (by decide) lk_4_20 rfl dX4_begin_147 ?_
      refine j_iload_n C 1 dX4_begin_150 rfl ?_
      refine j_iconst C 0 dX4_begin_151 ic_0 ?_
      refine j_zast C 4 1 pl_a_pushes rfl ((u 12 k0).toNatClampNeg) (jk_self hv1 (by decide)) (jk_lt hv1) (by decide) rfl pu_a_pushes dX4_begin_152 ?_
      exact B.2.2 _ _ _ dX4_begin_153 hE
  · have hE := (if_pos c2).symm.trans hE
    refine j_aload_n C 1 dX4_begin_80 rfl ?_
    refine j_iload_n C 0 dX4_begin_81 rfl ?_
    refine j_bipush C 16 dX4_begin_82 bp_16 ?_
    refine j_st (st' := [.int 16, .int (nI ((u 12 k0).toNatClampNeg)), .ref (a 0)]) (congrArg (fun x => ([.int 16, .int x, .ref (a 0)] : List Value)) (jk_self hv1 (by decide))) ?_
    refine j_cIV C B.2.1 (c_m_has l D z a (up2 (up2 (up2 (up2 (up2 (up2 (up2 (up2 u 11 k0 (u 12 k0)) 12 k0 (-1 : Int32)) 13 k0 (1 : Int32)) 14 k0 (0 : Int32)) 15 k0 (f_m_timeOf (up2 (up2 (up2 (up2 u 11 k0 (u 12 k0)) 12 k0 (-1 : Int32)) 13 k0 (1 : Int32)) 14 k0 (0 : Int32)) ((u 12 k0).toNatClampNeg) 1)) 16 k0 (0 : Int32)) 5 ((u 12 k0).toNatClampNeg) (0 : Int32)) 8 ((u 12 k0).toNatClampNeg) (((up2 (up2 (up2 (up2 (up2 (up2 (up2 u 11 k0 (u 12 k0)) 12 k0 (-1 : Int32)) 13 k0 (1 : Int32)) 14 k0 (0 : Int32)) 15 k0 (f_m_timeOf (up2 (up2 (up2 (up2 u 11 k0 (u 12 k0)) 12 k0 (-1 : Int32)) 13 k0 (1 : Int32)) 14 k0 (0 : Int32)) ((u 12 k0).toNatClampNeg) 1)) 16 k0 (0 : Int32)) 5 ((u 12 k0).toNatClampNeg) (0 : Int32)) 8 ((u 12 k0).toNatClampNeg)) + (1 : Int32))) ((u 12 k0).toNatClampNeg) (16 : Int32) (jk_lt hv1)) gv_4_75 dd_m_has ⟨⟨rfl, rfl⟩, Nat.le_of_ble_eq_true rfl, Nat.le_of_ble_eq_true rfl⟩ 0 4 pl_md rfl rfl rfl rfl (Nat.le_of_ble_eq_true rfl) dX4_begin_84 ?_
    refine j_if_eq C 103 dX4_begin_87 (by decide) (fun c4 => ?_) (fun c4 => ?_)
    · have hE := (if_pos c4).symm.trans hE
      refine j_iconst C 0 dX4_begin_103 ic_0 ?_
      refine j_istore_n C dX4_begin_104 (by decide) rfl ?_
      refine j_aload_n C 2 dX4_begin_105 rfl ?_
      refine j_get C kf_4 0 pl_md 17 (by decide) lk_4_59 rfl dX4_begin_106 ?_
      refine j_iload_n C 3 dX4_begin_109 rfl ?_
      refine j_iload_n C 0 dX4_begin_110 rfl ?_
      refine j_if_eq C 123 dX4_begin_111 (by decide) (fun _ => ?_) (fun hq => False.elim (by revert hq; decide))
      refine j_iconst C 0 dX4_begin_123 ic_0 ?_
      refine j_iast C 17 0 pl_a_walking rfl k0 rfl hk0 (by decide) pu_a_walking dX4_begin_124 ?_
      refine j_aload_n C 2 dX4_begin_125 rfl ?_
      refine j_get C kf_4 0 pl_md 18 (by decide) lk_4_62 rfl dX4_begin_126 ?_
      refine j_iload_n C 3 dX4_begin_129 rfl ?_
      refine j_iload_n C 0 dX4_begin_130 rfl ?_
      refine j_if_eq C 144 dX4_begin_131 (by decide) (fun _ => ?_) (fun hq => False.elim (by revert hq; decide))
      refine j_iconst C 0 dX4_begin_144 ic_0 ?_
      refine j_iast C 18 0 pl_a_clearing rfl k0 rfl hk0 (by decide) pu_a_clearing dX4_begin_145 ?_
      refine j_aload_n C 2 dX4_begin_146 rfl ?_
      refine j_get C kf_4 0 pl_md 4 (by decide) lk_4_20 rfl dX4_begin_147 ?_
      refine j_iload_n C 1 dX4_begin_150 rfl ?_
      refine j_iconst C 0 dX4_begin_151 ic_0 ?_
      refine j_zast C 4 1 pl_a_pushes rfl ((u 12 k0).toNatClampNeg) (jk_self hv1 (by decide)) (jk_lt hv1) (by decide) rfl pu_a_pushes dX4_begin_152 ?_
      exact B.2.2 _ _ _ dX4_begin_153 hE
    · have hE := (if_neg c4).symm.trans hE
      refine j_aload_n C 1 dX4_begin_90 rfl ?_
      refine j_iload_n C 0 dX4_begin_91 rfl ?_
      refine j_iconst C 5 dX4_begin_92 ic_5 ?_
      refine j_st (st' := [.int (nI 5), .int (nI ((u 12 k0).toNatClampNeg)), .ref (a 0)]) ((congrArg (fun x => ([.int 5, .int x, .ref (a 0)] : List Value)) (jk_self hv1 (by decide))).trans (congrArg (fun x => ([.int x, .int (nI ((u 12 k0).toNatClampNeg)), .ref (a 0)] : List Value)) ix_5)) ?_
      refine j_cIV C B.2.1 (c_m_timeOf l D z a (up2 (up2 (up2 (up2 (up2 (up2 (up2 (up2 u 11 k0 (u 12 k0)) 12 k0 (-1 : Int32)) 13 k0 (1 : Int32)) 14 k0 (0 : Int32)) 15 k0 (f_m_timeOf (up2 (up2 (up2 (up2 u 11 k0 (u 12 k0)) 12 k0 (-1 : Int32)) 13 k0 (1 : Int32)) 14 k0 (0 : Int32)) ((u 12 k0).toNatClampNeg) 1)) 16 k0 (0 : Int32)) 5 ((u 12 k0).toNatClampNeg) (0 : Int32)) 8 ((u 12 k0).toNatClampNeg) (((up2 (up2 (up2 (up2 (up2 (up2 (up2 u 11 k0 (u 12 k0)) 12 k0 (-1 : Int32)) 13 k0 (1 : Int32)) 14 k0 (0 : Int32)) 15 k0 (f_m_timeOf (up2 (up2 (up2 (up2 u 11 k0 (u 12 k0)) 12 k0 (-1 : Int32)) 13 k0 (1 : Int32)) 14 k0 (0 : Int32)) ((u 12 k0).toNatClampNeg) 1)) 16 k0 (0 : Int32)) 5 ((u 12 k0).toNatClampNeg) (0 : Int32)) 8 ((u 12 k0).toNatClampNeg)) + (1 : Int32))) ((u 12 k0).toNatClampNeg) 5 (jk_lt hv1) (by decide)) gv_4_103 dd_m_timeOf ⟨⟨rfl, rfl⟩, Nat.le_of_ble_eq_true rfl, Nat.le_of_ble_eq_true rfl⟩ 0 4 pl_md rfl rfl rfl rfl (Nat.le_of_ble_eq_true rfl) dX4_begin_93 ?_
      refine j_if_le C 103 dX4_begin_96 (by decide) (fun c5 => ?_) (fun c5 => ?_)
      · have hE := (if_pos c5).symm.trans hE
        refine j_iconst C 0 dX4_begin_103 ic_0 ?_
        refine j_istore_n C dX4_begin_104 (by decide) rfl ?_
        refine j_aload_n C 2 dX4_begin_105 rfl ?_
        refine j_get C kf_4 0 pl_md 17 (by decide) lk_4_59 rfl dX4_begin_106 ?_
        refine j_iload_n C 3 dX4_begin_109 rfl ?_
        refine j_iload_n C 0 dX4_begin_110 rfl ?_
        refine j_if_eq C 123 dX4_begin_111 (by decide) (fun _ => ?_) (fun hq => False.elim (by revert hq; decide))
        refine j_iconst C 0 dX4_begin_123 ic_0 ?_
        refine j_iast C 17 0 pl_a_walking rfl k0 rfl hk0 (by decide) pu_a_walking dX4_begin_124 ?_
        refine j_aload_n C 2 dX4_begin_125 rfl ?_
        refine j_get C kf_4 0 pl_md 18 (by decide) lk_4_62 rfl dX4_begin_126 ?_
        refine j_iload_n C 3 dX4_begin_129 rfl ?_
        refine j_iload_n C 0 dX4_begin_130 rfl ?_
        refine j_if_eq C 144 dX4_begin_131 (by decide) (fun _ => ?_) (fun hq => False.elim (by revert hq; decide))
        refine j_iconst C 0 dX4_begin_144 ic_0 ?_
        refine j_iast C 18 0 pl_a_clearing rfl k0 rfl hk0 (by decide) pu_a_clearing dX4_begin_145 ?_
        refine j_aload_n C 2 dX4_begin_146 rfl ?_
        refine j_get C kf_4 0 pl_md 4 (by decide) lk_4_20 rfl dX4_begin_147 ?_
        refine j_iload_n C 1 dX4_begin_150 rfl ?_
        refine j_iconst C 0 dX4_begin_151 ic_0 ?_
        refine j_zast C 4 1 pl_a_pushes rfl ((u 12 k0).toNatClampNeg) (jk_self hv1 (by decide)) (jk_lt hv1) (by decide) rfl pu_a_pushes dX4_begin_152 ?_
        exact B.2.2 _ _ _ dX4_begin_153 hE
      · have hE := (if_neg c5).symm.trans hE
        refine j_iconst C 1 dX4_begin_99 ic_1 ?_
        refine j_goto C 104 dX4_begin_100 (by decide) ?_
        refine j_istore_n C dX4_begin_104 (by decide) rfl ?_
        refine j_aload_n C 2 dX4_begin_105 rfl ?_
        refine j_get C kf_4 0 pl_md 17 (by decide) lk_4_59 rfl dX4_begin_106 ?_
        refine j_iload_n C 3 dX4_begin_109 rfl ?_
        refine j_iload_n C 0 dX4_begin_110 rfl ?_
        refine j_if_eq C 123 dX4_begin_111 (by decide) (fun hq => False.elim (by revert hq; decide)) (fun _ => ?_)
        refine j_aload_n C 2 dX4_begin_114 rfl ?_
        refine j_iload_n C 1 dX4_begin_115 rfl ?_
        refine j_iconst C 5 dX4_begin_116 ic_5 ?_
        refine j_st (st' := [.int (nI 5), .int (nI ((u 12 k0).toNatClampNeg)), .ref (a 0), .int (nI k0), .ref (a 17)]) ((congrArg (fun x => ([.int 5, .int x, .ref (a 0), .int (nI k0), .ref (a 17)] : List Value)) (jk_self hv1 (by decide))).trans (congrArg (fun x => ([.int x, .int (nI ((u 12 k0).toNatClampNeg)), .ref (a 0), .int (nI k0), .ref (a 17)] : List Value)) ix_5)) ?_
        refine j_cIV C B.2.1 (c_m_timeOf l D z a (up2 (up2 (up2 (up2 (up2 (up2 (up2 (up2 u 11 k0 (u 12 k0)) 12 k0 (-1 : Int32)) 13 k0 (1 : Int32)) 14 k0 (0 : Int32)) 15 k0 (f_m_timeOf (up2 (up2 (up2 (up2 u 11 k0 (u 12 k0)) 12 k0 (-1 : Int32)) 13 k0 (1 : Int32)) 14 k0 (0 : Int32)) ((u 12 k0).toNatClampNeg) 1)) 16 k0 (0 : Int32)) 5 ((u 12 k0).toNatClampNeg) (0 : Int32)) 8 ((u 12 k0).toNatClampNeg) (((up2 (up2 (up2 (up2 (up2 (up2 (up2 u 11 k0 (u 12 k0)) 12 k0 (-1 : Int32)) 13 k0 (1 : Int32)) 14 k0 (0 : Int32)) 15 k0 (f_m_timeOf (up2 (up2 (up2 (up2 u 11 k0 (u 12 k0)) 12 k0 (-1 : Int32)) 13 k0 (1 : Int32)) 14 k0 (0 : Int32)) ((u 12 k0).toNatClampNeg) 1)) 16 k0 (0 : Int32)) 5 ((u 12 k0).toNatClampNeg) (0 : Int32)) 8 ((u 12 k0).toNatClampNeg)) + (1 : Int32))) ((u 12 k0).toNatClampNeg) 5 (jk_lt hv1) (by decide)) gv_4_103 dd_m_timeOf ⟨⟨rfl, rfl⟩, Nat.le_of_ble_eq_true rfl, Nat.le_of_ble_eq_true rfl⟩ 0 4 pl_md rfl rfl rfl rfl (Nat.le_of_ble_eq_true rfl) dX4_begin_117 ?_
        refine j_goto C 124 dX4_begin_120 (by decide) ?_
        refine j_iast C 17 0 pl_a_walking rfl k0 rfl hk0 (by decide) pu_a_walking dX4_begin_124 ?_
        refine j_aload_n C 2 dX4_begin_125 rfl ?_
        refine j_get C kf_4 0 pl_md 18 (by decide) lk_4_62 rfl dX4_begin_126 ?_
        refine j_iload_n C 3 dX4_begin_129 rfl ?_
        refine j_iload_n C 0 dX4_begin_130 rfl ?_
        refine j_if_eq C 144 dX4_begin_131 (by decide) (fun hq => False.elim (by revert hq; decide)) (fun _ => ?_)
        refine j_aload_n C 2 dX4_begin_134 rfl ?_
        refine j_iload_n C 1 dX4_begin_135 rfl ?_
        refine j_bipush C 6 dX4_begin_136 bp_6 ?_
        refine j_st (st' := [.int (nI 6), .int (nI ((u 12 k0).toNatClampNeg)), .ref (a 0), .int (nI k0), .ref (a 18)]) ((congrArg (fun x => ([.int 6, .int x, .ref (a 0), .int (nI k0), .ref (a 18)] : List Value)) (jk_self hv1 (by decide))).trans (congrArg (fun x => ([.int x, .int (nI ((u 12 k0).toNatClampNeg)), .ref (a 0), .int (nI k0), .ref (a 18)] : List Value)) ix_6)) ?_
        refine j_cIV C B.2.1 (c_m_timeOf l D z a (up2 (up2 (up2 (up2 (up2 (up2 (up2 (up2 (up2 u 11 k0 (u 12 k0)) 12 k0 (-1 : Int32)) 13 k0 (1 : Int32)) 14 k0 (0 : Int32)) 15 k0 (f_m_timeOf (up2 (up2 (up2 (up2 u 11 k0 (u 12 k0)) 12 k0 (-1 : Int32)) 13 k0 (1 : Int32)) 14 k0 (0 : Int32)) ((u 12 k0).toNatClampNeg) 1)) 16 k0 (0 : Int32)) 5 ((u 12 k0).toNatClampNeg) (0 : Int32)) 8 ((u 12 k0).toNatClampNeg) (((up2 (up2 (up2 (up2 (up2 (up2 (up2 u 11 k0 (u 12 k0)) 12 k0 (-1 : Int32)) 13 k0 (1 : Int32)) 14 k0 (0 : Int32)) 15 k0 (f_m_timeOf (up2 (up2 (up2 (up2 u 11 k0 (u 12 k0)) 12 k0 (-1 : Int32)) 13 k0 (1 : Int32)) 14 k0 (0 : Int32)) ((u 12 k0).toNatClampNeg) 1)) 16 k0 (0 : Int32)) 5 ((u 12 k0).toNatClampNeg) (0 : Int32)) 8 ((u 12 k0).toNatClampNeg)) + (1 : Int32))) 17 k0 (f_m_timeOf (up2 (up2 (up2 (up2 (up2 (up2 (up2 (up2 u 11 k0 (u 12 k0)) 12 k0 (-1 : Int32)) 13 k0 (1 : Int32)) 14 k0 (0 : Int32)) 15 k0 (f_m_timeOf (up2 (up2 (up2 (up2 u 11 k0 (u 12 k0)) 12 k0 (-1 : Int32)) 13 k0 (1 : Int32)) 14 k0 (0 : Int32)) ((u 12 k0).toNatClampNeg) 1)) 16 k0 (0 : Int32)) 5 ((u 12 k0).toNatClampNeg) (0 : Int32)) 8 ((u 12 k0).toNatClampNeg) (((up2 (up2 (up2 (up2 (up2 (up2 (up2 u 11 k0 (u 12 k0)) 12 k0 (-1 : Int32)) 13 k0 (1 : Int32)) 14 k0 (0 : Int32)) 15 k0 (f_m_timeOf (up2 (up2 (up2 (up2 u 11 k0 (u 12 k0)) 12 k0 (-1 : Int32)) 13 k0 (1 : Int32)) 14 k0 (0 : Int32)) ((u 12 k0).toNatClampNeg) 1)) 16 k0 (0 : Int32)) 5 ((u 12 k0).toNatClampNeg) (0 : Int32)) 8 ((u 12 k0).toNatClampNeg)) + (1 : Int32))) ((u 12 k0).toNatClampNeg) 5)) ((u 12 k0).toNatClampNeg) 6 (jk_lt hv1) (by decide)) gv_4_103 dd_m_timeOf ⟨⟨rfl, rfl⟩, Nat.le_of_ble_eq_true rfl, Nat.le_of_ble_eq_true rfl⟩ 0 4 pl_md rfl rfl rfl rfl (Nat.le_of_ble_eq_true rfl) dX4_begin_138 ?_
        refine j_goto C 145 dX4_begin_141 (by decide) ?_
        refine j_iast C 18 0 pl_a_clearing rfl k0 rfl hk0 (by decide) pu_a_clearing dX4_begin_145 ?_
        refine j_aload_n C 2 dX4_begin_146 rfl ?_
        refine j_get C kf_4 0 pl_md 4 (by decide) lk_4_20 rfl dX4_begin_147 ?_
        refine j_iload_n C 1 dX4_begin_150 rfl ?_
        refine j_iconst C 0 dX4_begin_151 ic_0 ?_
        refine j_zast C 4 1 pl_a_pushes rfl ((u 12 k0).toNatClampNeg) (jk_self hv1 (by decide)) (jk_lt hv1) (by decide) rfl pu_a_pushes dX4_begin_152 ?_
        exact B.2.2 _ _ _ dX4_begin_153 hE
theorem c_m_begin (l : Launch) (D : va_G) (z : Nat → ClassId) (a : Nat → Nat) (u : St) (k0 : Nat) (hk0 : k0 < 2) (hG : g_m_begin u k0) : CtV l yX4_begin (.code yX4_begin cX4_begin 4 none :: TT) rm_m_begin D clA (tyl z) (rW z a) [.ref (a 0), .int (nI k0)] u (f_m_begin u k0) :=
  jk_metV (own := RX4) (by decide) rfl (Nat.le_of_ble_eq_true rfl) (fun _ _ _ _ _ _ _ _ _ _ _ B => w_m_begin_0 B hk0 rfl hG)
end WLK

-- THE DESK'S CONSTRUCTOR, ITS END
def cu0 : St := fun g i => if g = 10 then 3 else if g = 17 then -1 else if 20 ≤ g ∧ g < 28 then jk_first i else if g = 30 then -1 else if g = 35 then -1 else 0
theorem jk_lt2 {i : Nat} (h : i < 2) : ¬ (2 : Int32) ≤ nI i := lt2 i h
section DJ
variable {p : Program} {l : Launch} {e : Env} {R : Room} {s : State} {m : MethodId} {args : Array Value} {below : List Frame} {meth : Method} {c : Code} {cells slots : Nat} {D : va_G} {z : Nat → ClassId} {A : Nat → Prop} {Q : State → Prop}
theorem it_rg (C : jk_C p R s m args c cells slots cX3_init 2 RX3 TT D clA (tyl z) A) (HT : jk_AT A s) (hR : R = rmD) (i : Nat) (hi : i < 2) (hc : cells + 2 ≤ 26) (hs : slots + 12 ≤ 190) {h q1 : Nat} {v0 v2 v3 : Value} {f : Nat → Option Nat} (k1 : Nat) {u : va_W} (h0 : u[0]? = some (dkN h v0 (.ref q1) v2 v3)) (h1 : u[k1]? = some (oaN q1 (z 3) 2 f))
    (kk : ∀ a b : Nat, JJ p l e R s m args below meth c (cells + 1 + 1) (slots + 10 + 2) 2 D clA (id : va_W → va_W) A Q 50 [(1, .int (nI (i + 1))), (0, .ref h)] (u.set k1 (oaN q1 (z 3) 2 (va_up f i (some a))) ++ [rgN a b (4 * nI i), iaN b (z 1) 2 (fun _ => 0)]) []) :
    JJ p l e R s m args below meth c cells slots 2 D clA (id : va_W → va_W) A Q 50 [(1, .int (nI i)), (0, .ref h)] u [] := by
  have l0 := (List.getElem?_eq_some_iff.mp h0).1
  have l1 := (List.getElem?_eq_some_iff.mp h1).1
  refine j_iload_n C 0 dX3_init_50 rfl ?_
  refine j_iconst C 2 dX3_init_51 ic_2 ?_
  refine j_icmp_ge C 77 dX3_init_52 rfl (fun q => absurd q (jk_lt2 hi)) (fun _ => ?_)
  refine j_aload_n C 1 dX3_init_55 rfl ?_
  refine j_get C kf_3 0 h0 1 (by decide) lk_3_18 (v := .ref q1) rfl dX3_init_56 ?_
  refine j_iload_n C 0 dX3_init_59 rfl ?_
  refine j_new C kf_2 [.int 0, .null, .int 0, .int 0, .int 0, .int 0, .int 0, .int 0, .int 0, .int 0] (by decide) (jk_3 qc_3_16 qn_2 qi_2) (by rw [hR]; exact Nat.le_trans (by omega) hc) (by rw [hR]; exact Nat.le_trans (by omega) hs) dX3_init_60 ?_
  intro a
  have C1 := jk_up C (k := cells + 1) (n := slots + 10) (by rw [hR]; exact Nat.le_trans (by omega) hc) (by rw [hR]; exact Nat.le_trans (by omega) hs)
  refine j_dup C1 dX3_init_63 rfl ?_
  refine j_iconst C1 4 dX3_init_64 ic_4 ?_
  refine j_iload_n C1 0 dX3_init_65 rfl ?_
  refine j_imul C1 dX3_init_66 ?_
  refine j_init (n := 1) C1 HT hR (c_rgI l D z a (4 * nI i)) (jk_GI TT_good qk_2) (jk_3 qi_2 qm_3_22 qs_2) rfl (by decide +kernel) ⟨⟨rfl, rfl⟩, by decide, by decide⟩ ⟨by omega, by omega⟩ rfl rfl rfl (Nat.le_of_ble_eq_true rfl) dX3_init_67 ?_
  rintro w1 ⟨b, rfl⟩
  have C2 := jk_up C (k := cells + 1 + 1) (n := slots + 10 + 2) (by rw [hR]; exact Nat.le_trans (by omega) hc) (by rw [hR]; exact Nat.le_trans (by omega) hs)
  have ha : (u ++ [rgN a b (4 * nI i), iaN b (z 1) 2 (fun _ => 0)])[k1]? = some (oaN q1 (z 3) 2 f) := by rw [List.getElem?_append_left l1]; exact h1
  have hv : (u ++ [rgN a b (4 * nI i), iaN b (z 1) 2 (fun _ => 0)])[u.length]? = some (a, .inr (2, [.int (4 * nI i), .ref b, .int (-1), .int 0, .int 0, .int 0, .int 0, .int (-1), .int 0, .int 0])) := by
    rw [List.getElem?_append_right (Nat.le_refl _), Nat.sub_self]
    rfl
  refine j_astq C2 k1 3 u.length 2 (r := (RX2, TX2, 10)) (f := f) (v := a) ha rfl hv rfl i rfl hi (by decide) (List.set_append_left _ _ l1) dX3_init_70 ?_
  refine j_iinc C2 0 (nI (i + 1)) dX3_init_71 rfl (nI_add i 1) (by decide) rfl ?_
  refine j_goto C2 50 dX3_init_74 rfl ?_
  exact kk a b
end DJ
theorem jk_oeq {zc : ClassId} {n : Nat} {f g : Nat → Option Nat} (h : ∀ j, j < n → f j = g j) : vp_cell zc (n, .inr (.inr (.inr (.inr f)))) = vp_cell zc (n, .inr (.inr (.inr (.inr g)))) := by
  rw [vp_cell_q, vp_cell_q]
  refine arrV_eq (fun j hj => ?_)
  rw [h j hj]
set_option maxHeartbeats 4000000 in
set_option maxRecDepth 4000 in
theorem c_dkI (l : Launch) (D : va_G) (z : Nat → ClassId) (h : Nat) : CtN l yX3_init (.code yX3_init cX3_init 2 none :: TT) rmD 26 190 D clA (tyl z) [.ref h] [dkN h .null .null .null .null] (fun w => ∃ a : Nat → Nat, a 0 = h ∧ w = cW z a cu0) := by
  refine jk_metN (own := RX3) (by decide) rfl rfl (Nat.le_of_ble_eq_true rfl) ?_
  intro p e R s m args below meth c A Q B
  obtain ⟨C, hR, HT, hin, fin⟩ := B
  have up : ∀ k n : Nat, k ≤ 26 → n ≤ 190 → jk_C p R s m args c k n cX3_init 2 RX3 TT D clA (tyl z) A := fun k n h1 h2 => jk_up C (by rw [hR]; exact h1) (by rw [hR]; exact h2)
  refine j_aload_n C 0 dX3_init_0 rfl ?_
  refine j_oi C hR (jk_3 qo_3 qs_o qk_o) (by decide) (by decide) dX3_init_1 ?_
  refine j_aload_n C 0 dX3_init_4 rfl ?_
  refine j_bipush C 8 dX3_init_5 bp_8 ?_
  refine j_newq C HT.2.2.1 2 rfl 8 (by decide) (by decide) (by decide) qc_3_9 (by rw [hR]; decide) (by rw [hR]; decide) dX3_init_7 ?_
  intro q0
  have C1 := up 1 8 (by decide) (by decide)
  refine j_putF C1 hin kf_3 0 rfl 0 (by decide) lk_3_11 rfl rfl rfl rfl (Nat.le_of_ble_eq_true rfl) (u' := [dkN h (.ref q0) .null .null .null, oaN q0 (z 2) 8 (fun _ => none)]) rfl dX3_init_10 ?_
  refine j_iconst C1 0 dX3_init_13 ic_0 ?_
  refine j_istore_n C1 dX3_init_14 (by decide) (lv' := [(1, .int (nI 0)), (0, .ref h)]) rfl ?_
  refine it_mv (cells := 1) (slots := 8) (up 1 8 (by decide) (by decide)) HT hR 0 (by decide) (by decide) (by decide) (ms := []) ?_
  intro a0 b0
  refine it_mv (cells := 3) (slots := 24) (up 3 24 (by decide) (by decide)) HT hR 1 (by decide) (by decide) (by decide) (ms := [mvN a0 b0, iaN b0 (z 0) 7 jk_first]) ?_
  intro a1 b1
  refine it_mv (cells := 5) (slots := 40) (up 5 40 (by decide) (by decide)) HT hR 2 (by decide) (by decide) (by decide) (ms := [mvN a0 b0, iaN b0 (z 0) 7 jk_first, mvN a1 b1, iaN b1 (z 0) 7 jk_first]) ?_
  intro a2 b2
  refine it_mv (cells := 7) (slots := 56) (up 7 56 (by decide) (by decide)) HT hR 3 (by decide) (by decide) (by decide) (ms := [mvN a0 b0, iaN b0 (z 0) 7 jk_first, mvN a1 b1, iaN b1 (z 0) 7 jk_first, mvN a2 b2, iaN b2 (z 0) 7 jk_first]) ?_
  intro a3 b3
  refine it_mv (cells := 9) (slots := 72) (up 9 72 (by decide) (by decide)) HT hR 4 (by decide) (by decide) (by decide) (ms := [mvN a0 b0, iaN b0 (z 0) 7 jk_first, mvN a1 b1, iaN b1 (z 0) 7 jk_first, mvN a2 b2, iaN b2 (z 0) 7 jk_first, mvN a3 b3, iaN b3 (z 0) 7 jk_first]) ?_
  intro a4 b4
  refine it_mv (cells := 11) (slots := 88) (up 11 88 (by decide) (by decide)) HT hR 5 (by decide) (by decide) (by decide) (ms := [mvN a0 b0, iaN b0 (z 0) 7 jk_first, mvN a1 b1, iaN b1 (z 0) 7 jk_first, mvN a2 b2, iaN b2 (z 0) 7 jk_first, mvN a3 b3, iaN b3 (z 0) 7 jk_first, mvN a4 b4, iaN b4 (z 0) 7 jk_first]) ?_
  intro a5 b5
  refine it_mv (cells := 13) (slots := 104) (up 13 104 (by decide) (by decide)) HT hR 6 (by decide) (by decide) (by decide) (ms := [mvN a0 b0, iaN b0 (z 0) 7 jk_first, mvN a1 b1, iaN b1 (z 0) 7 jk_first, mvN a2 b2, iaN b2 (z 0) 7 jk_first, mvN a3 b3, iaN b3 (z 0) 7 jk_first, mvN a4 b4, iaN b4 (z 0) 7 jk_first, mvN a5 b5, iaN b5 (z 0) 7 jk_first]) ?_
  intro a6 b6
  refine it_mv (cells := 15) (slots := 120) (up 15 120 (by decide) (by decide)) HT hR 7 (by decide) (by decide) (by decide) (ms := [mvN a0 b0, iaN b0 (z 0) 7 jk_first, mvN a1 b1, iaN b1 (z 0) 7 jk_first, mvN a2 b2, iaN b2 (z 0) 7 jk_first, mvN a3 b3, iaN b3 (z 0) 7 jk_first, mvN a4 b4, iaN b4 (z 0) 7 jk_first, mvN a5 b5, iaN b5 (z 0) 7 jk_first, mvN a6 b6, iaN b6 (z 0) 7 jk_first]) ?_
  intro a7 b7
  have C2 := up 17 136 (by decide) (by decide)
  refine j_iload_n C2 0 dX3_init_15 rfl ?_
  refine j_bipush C2 8 dX3_init_16 bp_8 ?_
  refine j_icmp_ge C2 40 dX3_init_18 rfl (fun _ => ?_) (fun q => absurd (show (8 : Int32) ≤ nI (7 + 1) by decide) q)
  refine j_aload_n C2 1 dX3_init_40 rfl ?_
  refine j_iconst C2 2 dX3_init_41 ic_2 ?_
  refine j_newq C2 HT.2.2.2.1 3 rfl 2 (by decide) (by decide) (by decide) qc_3_16 (by rw [hR]; decide) (by rw [hR]; decide) dX3_init_42 ?_
  intro q1
  have C3 := up 18 138 (by decide) (by decide)
  refine j_putF C3 hin kf_3 0 rfl 1 (by decide) lk_3_18 rfl rfl rfl rfl (Nat.le_of_ble_eq_true rfl) (u' := [dkN h (.ref q0) (.ref q1) .null .null, oaN q0 (z 2) 8 (va_up (va_up (va_up (va_up (va_up (va_up (va_up (va_up (fun _ => none) 0 (some a0)) 1 (some a1)) 2 (some a2)) 3 (some a3)) 4 (some a4)) 5 (some a5)) 6 (some a6)) 7 (some a7)), mvN a0 b0, iaN b0 (z 0) 7 jk_first, mvN a1 b1, iaN b1 (z 0) 7 jk_first, mvN a2 b2, iaN b2 (z 0) 7 jk_first, mvN a3 b3, iaN b3 (z 0) 7 jk_first, mvN a4 b4, iaN b4 (z 0) 7 jk_first, mvN a5 b5, iaN b5 (z 0) 7 jk_first, mvN a6 b6, iaN b6 (z 0) 7 jk_first, mvN a7 b7, iaN b7 (z 0) 7 jk_first, oaN q1 (z 3) 2 (fun _ => none)]) rfl dX3_init_45 ?_
  refine j_iconst C3 0 dX3_init_48 ic_0 ?_
  refine j_istore_n C3 dX3_init_49 (by decide) (lv' := [(1, .int (nI 0)), (0, .ref h)]) rfl ?_
  refine it_rg (cells := 18) (slots := 138) (q1 := q1) (v0 := .ref q0) (v2 := .null) (v3 := .null) (f := (fun _ => none)) (up 18 138 (by decide) (by decide)) HT hR 0 (by decide) (by decide) (by decide) 18 rfl rfl ?_
  intro r0 e0
  refine j_u (u' := [dkN h (.ref q0) (.ref q1) .null .null, oaN q0 (z 2) 8 (va_up (va_up (va_up (va_up (va_up (va_up (va_up (va_up (fun _ => none) 0 (some a0)) 1 (some a1)) 2 (some a2)) 3 (some a3)) 4 (some a4)) 5 (some a5)) 6 (some a6)) 7 (some a7)), mvN a0 b0, iaN b0 (z 0) 7 jk_first, mvN a1 b1, iaN b1 (z 0) 7 jk_first, mvN a2 b2, iaN b2 (z 0) 7 jk_first, mvN a3 b3, iaN b3 (z 0) 7 jk_first, mvN a4 b4, iaN b4 (z 0) 7 jk_first, mvN a5 b5, iaN b5 (z 0) 7 jk_first, mvN a6 b6, iaN b6 (z 0) 7 jk_first, mvN a7 b7, iaN b7 (z 0) 7 jk_first, oaN q1 (z 3) 2 (va_up (fun _ => none) 0 (some r0)), rgN r0 e0 (4 * nI 0), iaN e0 (z 1) 2 (fun _ => 0)]) rfl ?_
  refine it_rg (cells := 20) (slots := 150) (q1 := q1) (v0 := .ref q0) (v2 := .null) (v3 := .null) (f := (va_up (fun _ => none) 0 (some r0))) (up 20 150 (by decide) (by decide)) HT hR 1 (by decide) (by decide) (by decide) 18 rfl rfl ?_
  intro r1 e1
  refine j_u (u' := [dkN h (.ref q0) (.ref q1) .null .null, oaN q0 (z 2) 8 (va_up (va_up (va_up (va_up (va_up (va_up (va_up (va_up (fun _ => none) 0 (some a0)) 1 (some a1)) 2 (some a2)) 3 (some a3)) 4 (some a4)) 5 (some a5)) 6 (some a6)) 7 (some a7)), mvN a0 b0, iaN b0 (z 0) 7 jk_first, mvN a1 b1, iaN b1 (z 0) 7 jk_first, mvN a2 b2, iaN b2 (z 0) 7 jk_first, mvN a3 b3, iaN b3 (z 0) 7 jk_first, mvN a4 b4, iaN b4 (z 0) 7 jk_first, mvN a5 b5, iaN b5 (z 0) 7 jk_first, mvN a6 b6, iaN b6 (z 0) 7 jk_first, mvN a7 b7, iaN b7 (z 0) 7 jk_first, oaN q1 (z 3) 2 (va_up (va_up (fun _ => none) 0 (some r0)) 1 (some r1)), rgN r0 e0 (4 * nI 0), iaN e0 (z 1) 2 (fun _ => 0), rgN r1 e1 (4 * nI 1), iaN e1 (z 1) 2 (fun _ => 0)]) rfl ?_
  have C4 := up 22 162 (by decide) (by decide)
  refine j_iload_n C4 0 dX3_init_50 rfl ?_
  refine j_iconst C4 2 dX3_init_51 ic_2 ?_
  refine j_icmp_ge C4 77 dX3_init_52 rfl (fun _ => ?_) (fun q => absurd (show (2 : Int32) ≤ nI (1 + 1) by decide) q)
  refine j_aload_n C4 1 dX3_init_77 rfl ?_
  refine j_new C4 kf_0 [.null, .null, .int 0, .int 0] (by decide) (jk_3 qc_3_25 qn_0 qi_0) (by rw [hR]; decide) (by rw [hR]; decide) dX3_init_78 ?_
  intro g
  have C5 := up 23 166 (by decide) (by decide)
  refine j_dup C5 dX3_init_81 rfl ?_
  refine j_init C5 HT hR (c_gdI l D z g) (jk_GI TT_good qk_0) (jk_3 qi_0 qm_3_27 qs_0) rfl (by decide +kernel) ⟨⟨rfl, rfl⟩, by decide, by decide⟩ ⟨by decide, by decide⟩ rfl rfl rfl (Nat.le_of_ble_eq_true rfl) dX3_init_82 ?_
  rintro w1 ⟨la, ye, rfl⟩
  have C6 := up 25 182 (by decide) (by decide)
  refine j_putF C6 hin kf_3 0 rfl 2 (by decide) lk_3_28 rfl rfl rfl rfl (Nat.le_of_ble_eq_true rfl) (u' := [dkN h (.ref q0) (.ref q1) (.ref g) .null, oaN q0 (z 2) 8 (va_up (va_up (va_up (va_up (va_up (va_up (va_up (va_up (fun _ => none) 0 (some a0)) 1 (some a1)) 2 (some a2)) 3 (some a3)) 4 (some a4)) 5 (some a5)) 6 (some a6)) 7 (some a7)), mvN a0 b0, iaN b0 (z 0) 7 jk_first, mvN a1 b1, iaN b1 (z 0) 7 jk_first, mvN a2 b2, iaN b2 (z 0) 7 jk_first, mvN a3 b3, iaN b3 (z 0) 7 jk_first, mvN a4 b4, iaN b4 (z 0) 7 jk_first, mvN a5 b5, iaN b5 (z 0) 7 jk_first, mvN a6 b6, iaN b6 (z 0) 7 jk_first, mvN a7 b7, iaN b7 (z 0) 7 jk_first, oaN q1 (z 3) 2 (va_up (va_up (fun _ => none) 0 (some r0)) 1 (some r1)), rgN r0 e0 (4 * nI 0), iaN e0 (z 1) 2 (fun _ => 0), rgN r1 e1 (4 * nI 1), iaN e1 (z 1) 2 (fun _ => 0), gdN g la ye, iaN la (z 0) 8 (fun _ => 0), iaN ye (z 0) 8 (fun _ => 0)]) rfl dX3_init_85 ?_
  refine j_aload_n C6 1 dX3_init_88 rfl ?_
  refine j_bipush C6 8 dX3_init_89 bp_8 ?_
  refine j_newi C6 0 rfl 8 (by decide) (by decide) (by decide) qa_int (by rw [hR]; decide) (by rw [hR]; decide) dX3_init_91 ?_
  intro li
  have C7 := up 26 190 (by decide) (by decide)
  refine j_putF C7 hin kf_3 0 rfl 3 (by decide) lk_3_32 rfl rfl rfl rfl (Nat.le_of_ble_eq_true rfl) (u' := [dkN h (.ref q0) (.ref q1) (.ref g) (.ref li), oaN q0 (z 2) 8 (va_up (va_up (va_up (va_up (va_up (va_up (va_up (va_up (fun _ => none) 0 (some a0)) 1 (some a1)) 2 (some a2)) 3 (some a3)) 4 (some a4)) 5 (some a5)) 6 (some a6)) 7 (some a7)), mvN a0 b0, iaN b0 (z 0) 7 jk_first, mvN a1 b1, iaN b1 (z 0) 7 jk_first, mvN a2 b2, iaN b2 (z 0) 7 jk_first, mvN a3 b3, iaN b3 (z 0) 7 jk_first, mvN a4 b4, iaN b4 (z 0) 7 jk_first, mvN a5 b5, iaN b5 (z 0) 7 jk_first, mvN a6 b6, iaN b6 (z 0) 7 jk_first, mvN a7 b7, iaN b7 (z 0) 7 jk_first, oaN q1 (z 3) 2 (va_up (va_up (fun _ => none) 0 (some r0)) 1 (some r1)), rgN r0 e0 (4 * nI 0), iaN e0 (z 1) 2 (fun _ => 0), rgN r1 e1 (4 * nI 1), iaN e1 (z 1) 2 (fun _ => 0), gdN g la ye, iaN la (z 0) 8 (fun _ => 0), iaN ye (z 0) 8 (fun _ => 0), iaN li (z 0) 8 (fun _ => 0)]) rfl dX3_init_93 ?_
  have al : ∃ a : Nat → Nat, a = fun j => ([h, q0, q1, g, li, la, ye, a0, a1, a2, a3, a4, a5, a6, a7, b0, b1, b2, b3, b4, b5, b6, b7, r0, r1, e0, e1] : List Nat).getD j 0 := ⟨_, rfl⟩
  obtain ⟨a, ha⟩ := al
  have f8 : ∀ j, j < 8 → (va_up (va_up (va_up (va_up (va_up (va_up (va_up (va_up (fun _ => none) 0 (some a0)) 1 (some a1)) 2 (some a2)) 3 (some a3)) 4 (some a4)) 5 (some a5)) 6 (some a6)) 7 (some a7)) j = mvA a j := by
    intro j hj
    rcases (show j = 0 ∨ j = 1 ∨ j = 2 ∨ j = 3 ∨ j = 4 ∨ j = 5 ∨ j = 6 ∨ j = 7 by omega) with rfl | rfl | rfl | rfl | rfl | rfl | rfl | rfl <;> (subst ha; rfl)
  have f2 : ∀ j, j < 2 → (va_up (va_up (fun _ => none) 0 (some r0)) 1 (some r1)) j = rgA a j := by
    intro j hj
    rcases (show j = 0 ∨ j = 1 by omega) with rfl | rfl <;> (subst ha; rfl)
  refine j_fun (u' := [dkN h (.ref q0) (.ref q1) (.ref g) (.ref li), oaN q0 (z 2) 8 (mvA a), mvN a0 b0, iaN b0 (z 0) 7 jk_first, mvN a1 b1, iaN b1 (z 0) 7 jk_first, mvN a2 b2, iaN b2 (z 0) 7 jk_first, mvN a3 b3, iaN b3 (z 0) 7 jk_first, mvN a4 b4, iaN b4 (z 0) 7 jk_first, mvN a5 b5, iaN b5 (z 0) 7 jk_first, mvN a6 b6, iaN b6 (z 0) 7 jk_first, mvN a7 b7, iaN b7 (z 0) 7 jk_first, oaN q1 (z 3) 2 (va_up (va_up (fun _ => none) 0 (some r0)) 1 (some r1)), rgN r0 e0 (4 * nI 0), iaN e0 (z 1) 2 (fun _ => 0), rgN r1 e1 (4 * nI 1), iaN e1 (z 1) 2 (fun _ => 0), gdN g la ye, iaN la (z 0) 8 (fun _ => 0), iaN ye (z 0) 8 (fun _ => 0), iaN li (z 0) 8 (fun _ => 0)]) 1 (x := (8, .inr (.inr (.inr (.inr (va_up (va_up (va_up (va_up (va_up (va_up (va_up (va_up (fun _ => none) 0 (some a0)) 1 (some a1)) 2 (some a2)) 3 (some a3)) 4 (some a4)) 5 (some a5)) 6 (some a6)) 7 (some a7))))))) (x' := (8, .inr (.inr (.inr (.inr (mvA a)))))) rfl (jk_oeq f8) rfl ?_
  refine j_fun (u' := [dkN h (.ref q0) (.ref q1) (.ref g) (.ref li), oaN q0 (z 2) 8 (mvA a), mvN a0 b0, iaN b0 (z 0) 7 jk_first, mvN a1 b1, iaN b1 (z 0) 7 jk_first, mvN a2 b2, iaN b2 (z 0) 7 jk_first, mvN a3 b3, iaN b3 (z 0) 7 jk_first, mvN a4 b4, iaN b4 (z 0) 7 jk_first, mvN a5 b5, iaN b5 (z 0) 7 jk_first, mvN a6 b6, iaN b6 (z 0) 7 jk_first, mvN a7 b7, iaN b7 (z 0) 7 jk_first, oaN q1 (z 3) 2 (rgA a), rgN r0 e0 (4 * nI 0), iaN e0 (z 1) 2 (fun _ => 0), rgN r1 e1 (4 * nI 1), iaN e1 (z 1) 2 (fun _ => 0), gdN g la ye, iaN la (z 0) 8 (fun _ => 0), iaN ye (z 0) 8 (fun _ => 0), iaN li (z 0) 8 (fun _ => 0)]) 18 (x := (2, .inr (.inr (.inr (.inr (va_up (va_up (fun _ => none) 0 (some r0)) 1 (some r1))))))) (x' := (2, .inr (.inr (.inr (.inr (rgA a)))))) rfl (jk_oeq f2) rfl ?_
  refine j_perm (u' := cW z a cu0) [0, 1, 18, 23, 26, 24, 25, 2, 4, 6, 8, 10, 12, 14, 16, 3, 5, 7, 9, 11, 13, 15, 17, 19, 21, 20, 22] (by decide) (by subst ha; rfl) ?_
  exact fin _ _ _ _ _ dX3_init_96 (by decide) (by decide) ⟨a, by subst ha; rfl, rfl⟩

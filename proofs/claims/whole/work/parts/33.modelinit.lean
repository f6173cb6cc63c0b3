-- THE REFERENCE'S CONSTRUCTOR
abbrev rmM : Room := { frames := 1, cells := 20, slots := 156, locals := 40 }
def stp (v : St) (i : Nat) : St := up2 (up2 (up2 (up2 (up2 (up2 (up2 (up2 v 2 i 3) 9 i (-1)) 24 i (-1)) 1 (7 * i) 5) 1 (7 * i + 1) 3) 1 (7 * i + 2) 30) 1 (7 * i + 3) 4) 1 (7 * i + 4) 2
def mi : Nat → St
  | 0 => fun _ _ => 0
  | n + 1 => stp (mi n) n
def mu0 : St := up2 (up2 (up2 (up2 (mi 8) 11 0 (-1)) 11 1 (-1)) 12 0 (-1)) 12 1 (-1)
theorem jk_7 (i : Nat) : (7 : Int32) * nI i = nI (7 * i) := pk_mul 7 i
theorem jk_7p (i k : Nat) : (7 : Int32) * nI i + nI k = nI (7 * i + k) := by rw [jk_7, nI_add]
section MI
variable {p : Program} {l : Launch} {e : Env} {R : Room} {s : State} {m : MethodId} {args : Array Value} {below : List Frame} {meth : Method} {c : Code} {cells slots : Nat} {D : va_G} {z : Nat → ClassId} {A : Nat → Prop} {Q : State → Prop}
theorem it_md (C : jk_C p R s m args c cells slots cX4_init 2 RX4 TT D clA (tyl z) A) (i : Nat) (hi : i < 8) {h : Nat} {a : Nat → Nat} (ha : a 0 = h) (v : St)
    (kk : JJ p l e R s m args below meth c cells slots 2 D clA (id : va_W → va_W) A Q 157 [(1, .int (nI (i + 1))), (0, .ref h)] (rW z a (stp v i)) []) :
    JJ p l e R s m args below meth c cells slots 2 D clA (id : va_W → va_W) A Q 157 [(1, .int (nI i)), (0, .ref h)] (rW z a v) [] := by
  subst ha
  refine j_iload_n C 0 dX4_init_157 rfl ?_
  refine j_bipush C 8 dX4_init_158 bp_8 ?_
  refine j_icmp_ge C 249 dX4_init_160 rfl (fun q => absurd q (jk_lt8 hi)) (fun _ => ?_)
  refine j_aload_n C 1 dX4_init_163 rfl ?_
  refine j_get C kf_4 0 rfl 2 (by decide) lk_4_13 (v := .ref (a 2)) rfl dX4_init_164 ?_
  refine j_iload_n C 0 dX4_init_167 rfl ?_
  refine j_iconst C 3 dX4_init_168 ic_3 ?_
  refine j_iast C 2 0 rfl rfl (i) rfl hi (by decide) (u' := rW z a (up2 (v) 2 (i) 3)) pu_a_modes dX4_init_169 ?_
  refine j_aload_n C 1 dX4_init_170 rfl ?_
  refine j_get C kf_4 0 rfl 9 (by decide) lk_4_35 (v := .ref (a 9)) rfl dX4_init_171 ?_
  refine j_iload_n C 0 dX4_init_174 rfl ?_
  refine j_iconst C (-1) dX4_init_175 ic_m1 ?_
  refine j_iast C 9 0 rfl rfl (i) rfl hi (by decide) (u' := rW z a (up2 (up2 (v) 2 (i) 3) 9 (i) (-1))) pu_a_stuck dX4_init_176 ?_
  refine j_aload_n C 1 dX4_init_177 rfl ?_
  refine j_get C kf_4 0 rfl 24 (by decide) lk_4_65 (v := .ref (a 19)) rfl dX4_init_178 ?_
  refine j_iload_n C 0 dX4_init_181 rfl ?_
  refine j_iconst C (-1) dX4_init_182 ic_m1 ?_
  refine j_iast C 19 0 rfl rfl (i) rfl hi (by decide) (u' := rW z a (up2 (up2 (up2 (v) 2 (i) 3) 9 (i) (-1)) 24 (i) (-1))) pu_a_seen dX4_init_183 ?_
  refine j_aload_n C 1 dX4_init_184 rfl ?_
  refine j_get C kf_4 0 rfl 1 (by decide) lk_4_7 (v := .ref (a 1)) rfl dX4_init_185 ?_
  refine j_bipush C 7 dX4_init_188 bp_7 ?_
  refine j_iload_n C 0 dX4_init_190 rfl ?_
  refine j_imul C dX4_init_191 ?_
  refine j_iconst C 5 dX4_init_192 ic_5 ?_
  refine j_iast C 1 0 rfl rfl (7 * i) (jk_7 i) (by omega) (by decide) (u' := rW z a (up2 (up2 (up2 (up2 (v) 2 (i) 3) 9 (i) (-1)) 24 (i) (-1)) 1 (7 * i) 5)) pu_a_times dX4_init_193 ?_
  refine j_aload_n C 1 dX4_init_194 rfl ?_
  refine j_get C kf_4 0 rfl 1 (by decide) lk_4_7 (v := .ref (a 1)) rfl dX4_init_195 ?_
  refine j_bipush C 7 dX4_init_198 bp_7 ?_
  refine j_iload_n C 0 dX4_init_200 rfl ?_
  refine j_imul C dX4_init_201 ?_
  refine j_iconst C 1 dX4_init_202 ic_1 ?_
  refine j_iadd C dX4_init_203 ?_
  refine j_iconst C 3 dX4_init_204 ic_3 ?_
  refine j_iast C 1 0 rfl rfl (7 * i + 1) (jk_7p i 1) (by omega) (by decide) (u' := rW z a (up2 (up2 (up2 (up2 (up2 (v) 2 (i) 3) 9 (i) (-1)) 24 (i) (-1)) 1 (7 * i) 5) 1 (7 * i + 1) 3)) pu_a_times dX4_init_205 ?_
  refine j_aload_n C 1 dX4_init_206 rfl ?_
  refine j_get C kf_4 0 rfl 1 (by decide) lk_4_7 (v := .ref (a 1)) rfl dX4_init_207 ?_
  refine j_bipush C 7 dX4_init_210 bp_7 ?_
  refine j_iload_n C 0 dX4_init_212 rfl ?_
  refine j_imul C dX4_init_213 ?_
  refine j_iconst C 2 dX4_init_214 ic_2 ?_
  refine j_iadd C dX4_init_215 ?_
  refine j_bipush C 30 dX4_init_216 (by decide) ?_
  refine j_iast C 1 0 rfl rfl (7 * i + 2) (jk_7p i 2) (by omega) (by decide) (u' := rW z a (up2 (up2 (up2 (up2 (up2 (up2 (v) 2 (i) 3) 9 (i) (-1)) 24 (i) (-1)) 1 (7 * i) 5) 1 (7 * i + 1) 3) 1 (7 * i + 2) 30)) pu_a_times dX4_init_218 ?_
  refine j_aload_n C 1 dX4_init_219 rfl ?_
  refine j_get C kf_4 0 rfl 1 (by decide) lk_4_7 (v := .ref (a 1)) rfl dX4_init_220 ?_
  refine j_bipush C 7 dX4_init_223 bp_7 ?_
  refine j_iload_n C 0 dX4_init_225 rfl ?_
  refine j_imul C dX4_init_226 ?_
  refine j_iconst C 3 dX4_init_227 ic_3 ?_
  refine j_iadd C dX4_init_228 ?_
  refine j_iconst C 4 dX4_init_229 ic_4 ?_
  refine j_iast C 1 0 rfl rfl (7 * i + 3) (jk_7p i 3) (by omega) (by decide) (u' := rW z a (up2 (up2 (up2 (up2 (up2 (up2 (up2 (v) 2 (i) 3) 9 (i) (-1)) 24 (i) (-1)) 1 (7 * i) 5) 1 (7 * i + 1) 3) 1 (7 * i + 2) 30) 1 (7 * i + 3) 4)) pu_a_times dX4_init_230 ?_
  refine j_aload_n C 1 dX4_init_231 rfl ?_
  refine j_get C kf_4 0 rfl 1 (by decide) lk_4_7 (v := .ref (a 1)) rfl dX4_init_232 ?_
  refine j_bipush C 7 dX4_init_235 bp_7 ?_
  refine j_iload_n C 0 dX4_init_237 rfl ?_
  refine j_imul C dX4_init_238 ?_
  refine j_iconst C 4 dX4_init_239 ic_4 ?_
  refine j_iadd C dX4_init_240 ?_
  refine j_iconst C 2 dX4_init_241 ic_2 ?_
  refine j_iast C 1 0 rfl rfl (7 * i + 4) (jk_7p i 4) (by omega) (by decide) (u' := rW z a (up2 (up2 (up2 (up2 (up2 (up2 (up2 (up2 (v) 2 (i) 3) 9 (i) (-1)) 24 (i) (-1)) 1 (7 * i) 5) 1 (7 * i + 1) 3) 1 (7 * i + 2) 30) 1 (7 * i + 3) 4) 1 (7 * i + 4) 2)) pu_a_times dX4_init_242 ?_
  refine j_iinc C 0 (nI (i + 1)) dX4_init_243 rfl (nI_add i 1) (by decide) rfl ?_
  refine j_goto C 157 dX4_init_246 rfl ?_
  exact kk
end MI
set_option maxHeartbeats 4000000 in
set_option maxRecDepth 4000 in
theorem c_mdI (l : Launch) (D : va_G) (z : Nat → ClassId) (h : Nat) : CtN l yX4_init (.code yX4_init cX4_init 2 none :: TT) rmM 20 156 D clA (tyl z) [.ref h] [(h, .inr (4, [.int 0, .null, .null, .null, .null, .null, .null, .null, .null, .null, .null, .null, .null, .null, .null, .null, .null, .null, .null, .int 0, .int 0, .int 0, .int 0, .int 0, .null, .null, .int 0]))] (fun w => ∃ a : Nat → Nat, a 0 = h ∧ w = rW z a mu0) := by
  refine jk_metN (own := RX4) (by decide) rfl rfl (Nat.le_of_ble_eq_true rfl) ?_
  intro p e R s m args below meth c A Q B
  obtain ⟨C, hR, HT, hin, fin⟩ := B
  have up : ∀ k n : Nat, k ≤ 20 → n ≤ 156 → jk_C p R s m args c k n cX4_init 2 RX4 TT D clA (tyl z) A := fun k n h1 h2 => jk_up C (by rw [hR]; exact h1) (by rw [hR]; exact h2)
  refine j_aload_n C 0 dX4_init_0 rfl ?_
  refine j_oi C hR (jk_3 qo_4 qs_o qk_o) (by decide) (by decide) dX4_init_1 ?_
  refine j_aload_n C 0 dX4_init_4 rfl ?_
  refine j_bipush C 56 dX4_init_5 (by decide) ?_
  refine j_newi C 0 rfl 56 (by decide) (by decide) (by decide) qa_int (by rw [hR]; decide) (by rw [hR]; decide) dX4_init_7 ?_
  intro q1
  have C1 := up 1 56 (by decide) (by decide)
  refine j_putF C1 hin kf_4 0 rfl 1 (by decide) lk_4_7 rfl rfl rfl rfl (Nat.le_of_ble_eq_true rfl) (u' := [(h, .inr (4, [.int 0, .ref q1, .null, .null, .null, .null, .null, .null, .null, .null, .null, .null, .null, .null, .null, .null, .null, .null, .null, .int 0, .int 0, .int 0, .int 0, .int 0, .null, .null, .int 0])), iaN q1 (z 0) 56 (fun _ => 0)]) rfl dX4_init_9 ?_
  refine j_aload_n C1 0 dX4_init_12 rfl ?_
  refine j_bipush C1 8 dX4_init_13 (by decide) ?_
  refine j_newi C1 0 rfl 8 (by decide) (by decide) (by decide) qa_int (by rw [hR]; decide) (by rw [hR]; decide) dX4_init_15 ?_
  intro q2
  have C2 := up 2 64 (by decide) (by decide)
  refine j_putF C2 hin kf_4 0 rfl 2 (by decide) lk_4_13 rfl rfl rfl rfl (Nat.le_of_ble_eq_true rfl) (u' := [(h, .inr (4, [.int 0, .ref q1, .ref q2, .null, .null, .null, .null, .null, .null, .null, .null, .null, .null, .null, .null, .null, .null, .null, .null, .int 0, .int 0, .int 0, .int 0, .int 0, .null, .null, .int 0])), iaN q1 (z 0) 56 (fun _ => 0), iaN q2 (z 0) 8 (fun _ => 0)]) rfl dX4_init_17 ?_
  refine j_aload_n C2 0 dX4_init_20 rfl ?_
  refine j_bipush C2 8 dX4_init_21 (by decide) ?_
  refine j_newz C2 1 rfl 8 (by decide) (by decide) (by decide) qa_boolean (by rw [hR]; decide) (by rw [hR]; decide) dX4_init_23 ?_
  intro q3
  have C3 := up 3 72 (by decide) (by decide)
  refine j_putF C3 hin kf_4 0 rfl 3 (by decide) lk_4_16 rfl rfl rfl rfl (Nat.le_of_ble_eq_true rfl) (u' := [(h, .inr (4, [.int 0, .ref q1, .ref q2, .ref q3, .null, .null, .null, .null, .null, .null, .null, .null, .null, .null, .null, .null, .null, .null, .null, .int 0, .int 0, .int 0, .int 0, .int 0, .null, .null, .int 0])), iaN q1 (z 0) 56 (fun _ => 0), iaN q2 (z 0) 8 (fun _ => 0), iaN q3 (z 1) 8 (fun _ => 0)]) rfl dX4_init_25 ?_
  refine j_aload_n C3 0 dX4_init_28 rfl ?_
  refine j_bipush C3 8 dX4_init_29 (by decide) ?_
  refine j_newz C3 1 rfl 8 (by decide) (by decide) (by decide) qa_boolean (by rw [hR]; decide) (by rw [hR]; decide) dX4_init_31 ?_
  intro q4
  have C4 := up 4 80 (by decide) (by decide)
  refine j_putF C4 hin kf_4 0 rfl 4 (by decide) lk_4_20 rfl rfl rfl rfl (Nat.le_of_ble_eq_true rfl) (u' := [(h, .inr (4, [.int 0, .ref q1, .ref q2, .ref q3, .ref q4, .null, .null, .null, .null, .null, .null, .null, .null, .null, .null, .null, .null, .null, .null, .int 0, .int 0, .int 0, .int 0, .int 0, .null, .null, .int 0])), iaN q1 (z 0) 56 (fun _ => 0), iaN q2 (z 0) 8 (fun _ => 0), iaN q3 (z 1) 8 (fun _ => 0), iaN q4 (z 1) 8 (fun _ => 0)]) rfl dX4_init_33 ?_
  refine j_aload_n C4 0 dX4_init_36 rfl ?_
  refine j_bipush C4 8 dX4_init_37 (by decide) ?_
  refine j_newz C4 1 rfl 8 (by decide) (by decide) (by decide) qa_boolean (by rw [hR]; decide) (by rw [hR]; decide) dX4_init_39 ?_
  intro q5
  have C5 := up 5 88 (by decide) (by decide)
  refine j_putF C5 hin kf_4 0 rfl 5 (by decide) lk_4_23 rfl rfl rfl rfl (Nat.le_of_ble_eq_true rfl) (u' := [(h, .inr (4, [.int 0, .ref q1, .ref q2, .ref q3, .ref q4, .ref q5, .null, .null, .null, .null, .null, .null, .null, .null, .null, .null, .null, .null, .null, .int 0, .int 0, .int 0, .int 0, .int 0, .null, .null, .int 0])), iaN q1 (z 0) 56 (fun _ => 0), iaN q2 (z 0) 8 (fun _ => 0), iaN q3 (z 1) 8 (fun _ => 0), iaN q4 (z 1) 8 (fun _ => 0), iaN q5 (z 1) 8 (fun _ => 0)]) rfl dX4_init_41 ?_
  refine j_aload_n C5 0 dX4_init_44 rfl ?_
  refine j_bipush C5 8 dX4_init_45 (by decide) ?_
  refine j_newi C5 0 rfl 8 (by decide) (by decide) (by decide) qa_int (by rw [hR]; decide) (by rw [hR]; decide) dX4_init_47 ?_
  intro q6
  have C6 := up 6 96 (by decide) (by decide)
  refine j_putF C6 hin kf_4 0 rfl 6 (by decide) lk_4_26 rfl rfl rfl rfl (Nat.le_of_ble_eq_true rfl) (u' := [(h, .inr (4, [.int 0, .ref q1, .ref q2, .ref q3, .ref q4, .ref q5, .ref q6, .null, .null, .null, .null, .null, .null, .null, .null, .null, .null, .null, .null, .int 0, .int 0, .int 0, .int 0, .int 0, .null, .null, .int 0])), iaN q1 (z 0) 56 (fun _ => 0), iaN q2 (z 0) 8 (fun _ => 0), iaN q3 (z 1) 8 (fun _ => 0), iaN q4 (z 1) 8 (fun _ => 0), iaN q5 (z 1) 8 (fun _ => 0), iaN q6 (z 0) 8 (fun _ => 0)]) rfl dX4_init_49 ?_
  refine j_aload_n C6 0 dX4_init_52 rfl ?_
  refine j_bipush C6 8 dX4_init_53 (by decide) ?_
  refine j_newi C6 0 rfl 8 (by decide) (by decide) (by decide) qa_int (by rw [hR]; decide) (by rw [hR]; decide) dX4_init_55 ?_
  intro q7
  have C7 := up 7 104 (by decide) (by decide)
  refine j_putF C7 hin kf_4 0 rfl 7 (by decide) lk_4_29 rfl rfl rfl rfl (Nat.le_of_ble_eq_true rfl) (u' := [(h, .inr (4, [.int 0, .ref q1, .ref q2, .ref q3, .ref q4, .ref q5, .ref q6, .ref q7, .null, .null, .null, .null, .null, .null, .null, .null, .null, .null, .null, .int 0, .int 0, .int 0, .int 0, .int 0, .null, .null, .int 0])), iaN q1 (z 0) 56 (fun _ => 0), iaN q2 (z 0) 8 (fun _ => 0), iaN q3 (z 1) 8 (fun _ => 0), iaN q4 (z 1) 8 (fun _ => 0), iaN q5 (z 1) 8 (fun _ => 0), iaN q6 (z 0) 8 (fun _ => 0), iaN q7 (z 0) 8 (fun _ => 0)]) rfl dX4_init_57 ?_
  refine j_aload_n C7 0 dX4_init_60 rfl ?_
  refine j_bipush C7 8 dX4_init_61 (by decide) ?_
  refine j_newi C7 0 rfl 8 (by decide) (by decide) (by decide) qa_int (by rw [hR]; decide) (by rw [hR]; decide) dX4_init_63 ?_
  intro q8
  have C8 := up 8 112 (by decide) (by decide)
  refine j_putF C8 hin kf_4 0 rfl 8 (by decide) lk_4_32 rfl rfl rfl rfl (Nat.le_of_ble_eq_true rfl) (u' := [(h, .inr (4, [.int 0, .ref q1, .ref q2, .ref q3, .ref q4, .ref q5, .ref q6, .ref q7, .ref q8, .null, .null, .null, .null, .null, .null, .null, .null, .null, .null, .int 0, .int 0, .int 0, .int 0, .int 0, .null, .null, .int 0])), iaN q1 (z 0) 56 (fun _ => 0), iaN q2 (z 0) 8 (fun _ => 0), iaN q3 (z 1) 8 (fun _ => 0), iaN q4 (z 1) 8 (fun _ => 0), iaN q5 (z 1) 8 (fun _ => 0), iaN q6 (z 0) 8 (fun _ => 0), iaN q7 (z 0) 8 (fun _ => 0), iaN q8 (z 0) 8 (fun _ => 0)]) rfl dX4_init_65 ?_
  refine j_aload_n C8 0 dX4_init_68 rfl ?_
  refine j_bipush C8 8 dX4_init_69 (by decide) ?_
  refine j_newi C8 0 rfl 8 (by decide) (by decide) (by decide) qa_int (by rw [hR]; decide) (by rw [hR]; decide) dX4_init_71 ?_
  intro q9
  have C9 := up 9 120 (by decide) (by decide)
  refine j_putF C9 hin kf_4 0 rfl 9 (by decide) lk_4_35 rfl rfl rfl rfl (Nat.le_of_ble_eq_true rfl) (u' := [(h, .inr (4, [.int 0, .ref q1, .ref q2, .ref q3, .ref q4, .ref q5, .ref q6, .ref q7, .ref q8, .ref q9, .null, .null, .null, .null, .null, .null, .null, .null, .null, .int 0, .int 0, .int 0, .int 0, .int 0, .null, .null, .int 0])), iaN q1 (z 0) 56 (fun _ => 0), iaN q2 (z 0) 8 (fun _ => 0), iaN q3 (z 1) 8 (fun _ => 0), iaN q4 (z 1) 8 (fun _ => 0), iaN q5 (z 1) 8 (fun _ => 0), iaN q6 (z 0) 8 (fun _ => 0), iaN q7 (z 0) 8 (fun _ => 0), iaN q8 (z 0) 8 (fun _ => 0), iaN q9 (z 0) 8 (fun _ => 0)]) rfl dX4_init_73 ?_
  refine j_aload_n C9 0 dX4_init_76 rfl ?_
  refine j_iconst C9 4 dX4_init_77 (by decide) ?_
  refine j_newz C9 1 rfl 4 (by decide) (by decide) (by decide) qa_boolean (by rw [hR]; decide) (by rw [hR]; decide) dX4_init_78 ?_
  intro q10
  have C10 := up 10 124 (by decide) (by decide)
  refine j_putF C10 hin kf_4 0 rfl 10 (by decide) lk_4_38 rfl rfl rfl rfl (Nat.le_of_ble_eq_true rfl) (u' := [(h, .inr (4, [.int 0, .ref q1, .ref q2, .ref q3, .ref q4, .ref q5, .ref q6, .ref q7, .ref q8, .ref q9, .ref q10, .null, .null, .null, .null, .null, .null, .null, .null, .int 0, .int 0, .int 0, .int 0, .int 0, .null, .null, .int 0])), iaN q1 (z 0) 56 (fun _ => 0), iaN q2 (z 0) 8 (fun _ => 0), iaN q3 (z 1) 8 (fun _ => 0), iaN q4 (z 1) 8 (fun _ => 0), iaN q5 (z 1) 8 (fun _ => 0), iaN q6 (z 0) 8 (fun _ => 0), iaN q7 (z 0) 8 (fun _ => 0), iaN q8 (z 0) 8 (fun _ => 0), iaN q9 (z 0) 8 (fun _ => 0), iaN q10 (z 1) 4 (fun _ => 0)]) rfl dX4_init_80 ?_
  refine j_aload_n C10 0 dX4_init_83 rfl ?_
  refine j_iconst C10 2 dX4_init_84 (by decide) ?_
  refine j_newi C10 0 rfl 2 (by decide) (by decide) (by decide) qa_int (by rw [hR]; decide) (by rw [hR]; decide) dX4_init_85 ?_
  intro q11
  have C11 := up 11 126 (by decide) (by decide)
  refine j_putF C11 hin kf_4 0 rfl 11 (by decide) lk_4_41 rfl rfl rfl rfl (Nat.le_of_ble_eq_true rfl) (u' := [(h, .inr (4, [.int 0, .ref q1, .ref q2, .ref q3, .ref q4, .ref q5, .ref q6, .ref q7, .ref q8, .ref q9, .ref q10, .ref q11, .null, .null, .null, .null, .null, .null, .null, .int 0, .int 0, .int 0, .int 0, .int 0, .null, .null, .int 0])), iaN q1 (z 0) 56 (fun _ => 0), iaN q2 (z 0) 8 (fun _ => 0), iaN q3 (z 1) 8 (fun _ => 0), iaN q4 (z 1) 8 (fun _ => 0), iaN q5 (z 1) 8 (fun _ => 0), iaN q6 (z 0) 8 (fun _ => 0), iaN q7 (z 0) 8 (fun _ => 0), iaN q8 (z 0) 8 (fun _ => 0), iaN q9 (z 0) 8 (fun _ => 0), iaN q10 (z 1) 4 (fun _ => 0), iaN q11 (z 0) 2 (fun _ => 0)]) rfl dX4_init_87 ?_
  refine j_aload_n C11 0 dX4_init_90 rfl ?_
  refine j_iconst C11 2 dX4_init_91 (by decide) ?_
  refine j_newi C11 0 rfl 2 (by decide) (by decide) (by decide) qa_int (by rw [hR]; decide) (by rw [hR]; decide) dX4_init_92 ?_
  intro q12
  have C12 := up 12 128 (by decide) (by decide)
  refine j_putF C12 hin kf_4 0 rfl 12 (by decide) lk_4_44 rfl rfl rfl rfl (Nat.le_of_ble_eq_true rfl) (u' := [(h, .inr (4, [.int 0, .ref q1, .ref q2, .ref q3, .ref q4, .ref q5, .ref q6, .ref q7, .ref q8, .ref q9, .ref q10, .ref q11, .ref q12, .null, .null, .null, .null, .null, .null, .int 0, .int 0, .int 0, .int 0, .int 0, .null, .null, .int 0])), iaN q1 (z 0) 56 (fun _ => 0), iaN q2 (z 0) 8 (fun _ => 0), iaN q3 (z 1) 8 (fun _ => 0), iaN q4 (z 1) 8 (fun _ => 0), iaN q5 (z 1) 8 (fun _ => 0), iaN q6 (z 0) 8 (fun _ => 0), iaN q7 (z 0) 8 (fun _ => 0), iaN q8 (z 0) 8 (fun _ => 0), iaN q9 (z 0) 8 (fun _ => 0), iaN q10 (z 1) 4 (fun _ => 0), iaN q11 (z 0) 2 (fun _ => 0), iaN q12 (z 0) 2 (fun _ => 0)]) rfl dX4_init_94 ?_
  refine j_aload_n C12 0 dX4_init_97 rfl ?_
  refine j_iconst C12 2 dX4_init_98 (by decide) ?_
  refine j_newi C12 0 rfl 2 (by decide) (by decide) (by decide) qa_int (by rw [hR]; decide) (by rw [hR]; decide) dX4_init_99 ?_
  intro q13
  have C13 := up 13 130 (by decide) (by decide)
  refine j_putF C13 hin kf_4 0 rfl 13 (by decide) lk_4_47 rfl rfl rfl rfl (Nat.le_of_ble_eq_true rfl) (u' := [(h, .inr (4, [.int 0, .ref q1, .ref q2, .ref q3, .ref q4, .ref q5, .ref q6, .ref q7, .ref q8, .ref q9, .ref q10, .ref q11, .ref q12, .ref q13, .null, .null, .null, .null, .null, .int 0, .int 0, .int 0, .int 0, .int 0, .null, .null, .int 0])), iaN q1 (z 0) 56 (fun _ => 0), iaN q2 (z 0) 8 (fun _ => 0), iaN q3 (z 1) 8 (fun _ => 0), iaN q4 (z 1) 8 (fun _ => 0), iaN q5 (z 1) 8 (fun _ => 0), iaN q6 (z 0) 8 (fun _ => 0), iaN q7 (z 0) 8 (fun _ => 0), iaN q8 (z 0) 8 (fun _ => 0), iaN q9 (z 0) 8 (fun _ => 0), iaN q10 (z 1) 4 (fun _ => 0), iaN q11 (z 0) 2 (fun _ => 0), iaN q12 (z 0) 2 (fun _ => 0), iaN q13 (z 0) 2 (fun _ => 0)]) rfl dX4_init_101 ?_
  refine j_aload_n C13 0 dX4_init_104 rfl ?_
  refine j_iconst C13 2 dX4_init_105 (by decide) ?_
  refine j_newi C13 0 rfl 2 (by decide) (by decide) (by decide) qa_int (by rw [hR]; decide) (by rw [hR]; decide) dX4_init_106 ?_
  intro q14
  have C14 := up 14 132 (by decide) (by decide)
  refine j_putF C14 hin kf_4 0 rfl 14 (by decide) lk_4_50 rfl rfl rfl rfl (Nat.le_of_ble_eq_true rfl) (u' := [(h, .inr (4, [.int 0, .ref q1, .ref q2, .ref q3, .ref q4, .ref q5, .ref q6, .ref q7, .ref q8, .ref q9, .ref q10, .ref q11, .ref q12, .ref q13, .ref q14, .null, .null, .null, .null, .int 0, .int 0, .int 0, .int 0, .int 0, .null, .null, .int 0])), iaN q1 (z 0) 56 (fun _ => 0), iaN q2 (z 0) 8 (fun _ => 0), iaN q3 (z 1) 8 (fun _ => 0), iaN q4 (z 1) 8 (fun _ => 0), iaN q5 (z 1) 8 (fun _ => 0), iaN q6 (z 0) 8 (fun _ => 0), iaN q7 (z 0) 8 (fun _ => 0), iaN q8 (z 0) 8 (fun _ => 0), iaN q9 (z 0) 8 (fun _ => 0), iaN q10 (z 1) 4 (fun _ => 0), iaN q11 (z 0) 2 (fun _ => 0), iaN q12 (z 0) 2 (fun _ => 0), iaN q13 (z 0) 2 (fun _ => 0), iaN q14 (z 0) 2 (fun _ => 0)]) rfl dX4_init_108 ?_
  refine j_aload_n C14 0 dX4_init_111 rfl ?_
  refine j_iconst C14 2 dX4_init_112 (by decide) ?_
  refine j_newi C14 0 rfl 2 (by decide) (by decide) (by decide) qa_int (by rw [hR]; decide) (by rw [hR]; decide) dX4_init_113 ?_
  intro q15
  have C15 := up 15 134 (by decide) (by decide)
  refine j_putF C15 hin kf_4 0 rfl 15 (by decide) lk_4_53 rfl rfl rfl rfl (Nat.le_of_ble_eq_true rfl) (u' := [(h, .inr (4, [.int 0, .ref q1, .ref q2, .ref q3, .ref q4, .ref q5, .ref q6, .ref q7, .ref q8, .ref q9, .ref q10, .ref q11, .ref q12, .ref q13, .ref q14, .ref q15, .null, .null, .null, .int 0, .int 0, .int 0, .int 0, .int 0, .null, .null, .int 0])), iaN q1 (z 0) 56 (fun _ => 0), iaN q2 (z 0) 8 (fun _ => 0), iaN q3 (z 1) 8 (fun _ => 0), iaN q4 (z 1) 8 (fun _ => 0), iaN q5 (z 1) 8 (fun _ => 0), iaN q6 (z 0) 8 (fun _ => 0), iaN q7 (z 0) 8 (fun _ => 0), iaN q8 (z 0) 8 (fun _ => 0), iaN q9 (z 0) 8 (fun _ => 0), iaN q10 (z 1) 4 (fun _ => 0), iaN q11 (z 0) 2 (fun _ => 0), iaN q12 (z 0) 2 (fun _ => 0), iaN q13 (z 0) 2 (fun _ => 0), iaN q14 (z 0) 2 (fun _ => 0), iaN q15 (z 0) 2 (fun _ => 0)]) rfl dX4_init_115 ?_
  refine j_aload_n C15 0 dX4_init_118 rfl ?_
  refine j_iconst C15 2 dX4_init_119 (by decide) ?_
  refine j_newi C15 0 rfl 2 (by decide) (by decide) (by decide) qa_int (by rw [hR]; decide) (by rw [hR]; decide) dX4_init_120 ?_
  intro q16
  have C16 := up 16 136 (by decide) (by decide)
  refine j_putF C16 hin kf_4 0 rfl 16 (by decide) lk_4_56 rfl rfl rfl rfl (Nat.le_of_ble_eq_true rfl) (u' := [(h, .inr (4, [.int 0, .ref q1, .ref q2, .ref q3, .ref q4, .ref q5, .ref q6, .ref q7, .ref q8, .ref q9, .ref q10, .ref q11, .ref q12, .ref q13, .ref q14, .ref q15, .ref q16, .null, .null, .int 0, .int 0, .int 0, .int 0, .int 0, .null, .null, .int 0])), iaN q1 (z 0) 56 (fun _ => 0), iaN q2 (z 0) 8 (fun _ => 0), iaN q3 (z 1) 8 (fun _ => 0), iaN q4 (z 1) 8 (fun _ => 0), iaN q5 (z 1) 8 (fun _ => 0), iaN q6 (z 0) 8 (fun _ => 0), iaN q7 (z 0) 8 (fun _ => 0), iaN q8 (z 0) 8 (fun _ => 0), iaN q9 (z 0) 8 (fun _ => 0), iaN q10 (z 1) 4 (fun _ => 0), iaN q11 (z 0) 2 (fun _ => 0), iaN q12 (z 0) 2 (fun _ => 0), iaN q13 (z 0) 2 (fun _ => 0), iaN q14 (z 0) 2 (fun _ => 0), iaN q15 (z 0) 2 (fun _ => 0), iaN q16 (z 0) 2 (fun _ => 0)]) rfl dX4_init_122 ?_
  refine j_aload_n C16 0 dX4_init_125 rfl ?_
  refine j_iconst C16 2 dX4_init_126 (by decide) ?_
  refine j_newi C16 0 rfl 2 (by decide) (by decide) (by decide) qa_int (by rw [hR]; decide) (by rw [hR]; decide) dX4_init_127 ?_
  intro q17
  have C17 := up 17 138 (by decide) (by decide)
  refine j_putF C17 hin kf_4 0 rfl 17 (by decide) lk_4_59 rfl rfl rfl rfl (Nat.le_of_ble_eq_true rfl) (u' := [(h, .inr (4, [.int 0, .ref q1, .ref q2, .ref q3, .ref q4, .ref q5, .ref q6, .ref q7, .ref q8, .ref q9, .ref q10, .ref q11, .ref q12, .ref q13, .ref q14, .ref q15, .ref q16, .ref q17, .null, .int 0, .int 0, .int 0, .int 0, .int 0, .null, .null, .int 0])), iaN q1 (z 0) 56 (fun _ => 0), iaN q2 (z 0) 8 (fun _ => 0), iaN q3 (z 1) 8 (fun _ => 0), iaN q4 (z 1) 8 (fun _ => 0), iaN q5 (z 1) 8 (fun _ => 0), iaN q6 (z 0) 8 (fun _ => 0), iaN q7 (z 0) 8 (fun _ => 0), iaN q8 (z 0) 8 (fun _ => 0), iaN q9 (z 0) 8 (fun _ => 0), iaN q10 (z 1) 4 (fun _ => 0), iaN q11 (z 0) 2 (fun _ => 0), iaN q12 (z 0) 2 (fun _ => 0), iaN q13 (z 0) 2 (fun _ => 0), iaN q14 (z 0) 2 (fun _ => 0), iaN q15 (z 0) 2 (fun _ => 0), iaN q16 (z 0) 2 (fun _ => 0), iaN q17 (z 0) 2 (fun _ => 0)]) rfl dX4_init_129 ?_
  refine j_aload_n C17 0 dX4_init_132 rfl ?_
  refine j_iconst C17 2 dX4_init_133 (by decide) ?_
  refine j_newi C17 0 rfl 2 (by decide) (by decide) (by decide) qa_int (by rw [hR]; decide) (by rw [hR]; decide) dX4_init_134 ?_
  intro q18
  have C18 := up 18 140 (by decide) (by decide)
  refine j_putF C18 hin kf_4 0 rfl 18 (by decide) lk_4_62 rfl rfl rfl rfl (Nat.le_of_ble_eq_true rfl) (u' := [(h, .inr (4, [.int 0, .ref q1, .ref q2, .ref q3, .ref q4, .ref q5, .ref q6, .ref q7, .ref q8, .ref q9, .ref q10, .ref q11, .ref q12, .ref q13, .ref q14, .ref q15, .ref q16, .ref q17, .ref q18, .int 0, .int 0, .int 0, .int 0, .int 0, .null, .null, .int 0])), iaN q1 (z 0) 56 (fun _ => 0), iaN q2 (z 0) 8 (fun _ => 0), iaN q3 (z 1) 8 (fun _ => 0), iaN q4 (z 1) 8 (fun _ => 0), iaN q5 (z 1) 8 (fun _ => 0), iaN q6 (z 0) 8 (fun _ => 0), iaN q7 (z 0) 8 (fun _ => 0), iaN q8 (z 0) 8 (fun _ => 0), iaN q9 (z 0) 8 (fun _ => 0), iaN q10 (z 1) 4 (fun _ => 0), iaN q11 (z 0) 2 (fun _ => 0), iaN q12 (z 0) 2 (fun _ => 0), iaN q13 (z 0) 2 (fun _ => 0), iaN q14 (z 0) 2 (fun _ => 0), iaN q15 (z 0) 2 (fun _ => 0), iaN q16 (z 0) 2 (fun _ => 0), iaN q17 (z 0) 2 (fun _ => 0), iaN q18 (z 0) 2 (fun _ => 0)]) rfl dX4_init_136 ?_
  refine j_aload_n C18 0 dX4_init_139 rfl ?_
  refine j_bipush C18 8 dX4_init_140 (by decide) ?_
  refine j_newi C18 0 rfl 8 (by decide) (by decide) (by decide) qa_int (by rw [hR]; decide) (by rw [hR]; decide) dX4_init_142 ?_
  intro q24
  have C24 := up 19 148 (by decide) (by decide)
  refine j_putF C24 hin kf_4 0 rfl 24 (by decide) lk_4_65 rfl rfl rfl rfl (Nat.le_of_ble_eq_true rfl) (u' := [(h, .inr (4, [.int 0, .ref q1, .ref q2, .ref q3, .ref q4, .ref q5, .ref q6, .ref q7, .ref q8, .ref q9, .ref q10, .ref q11, .ref q12, .ref q13, .ref q14, .ref q15, .ref q16, .ref q17, .ref q18, .int 0, .int 0, .int 0, .int 0, .int 0, .ref q24, .null, .int 0])), iaN q1 (z 0) 56 (fun _ => 0), iaN q2 (z 0) 8 (fun _ => 0), iaN q3 (z 1) 8 (fun _ => 0), iaN q4 (z 1) 8 (fun _ => 0), iaN q5 (z 1) 8 (fun _ => 0), iaN q6 (z 0) 8 (fun _ => 0), iaN q7 (z 0) 8 (fun _ => 0), iaN q8 (z 0) 8 (fun _ => 0), iaN q9 (z 0) 8 (fun _ => 0), iaN q10 (z 1) 4 (fun _ => 0), iaN q11 (z 0) 2 (fun _ => 0), iaN q12 (z 0) 2 (fun _ => 0), iaN q13 (z 0) 2 (fun _ => 0), iaN q14 (z 0) 2 (fun _ => 0), iaN q15 (z 0) 2 (fun _ => 0), iaN q16 (z 0) 2 (fun _ => 0), iaN q17 (z 0) 2 (fun _ => 0), iaN q18 (z 0) 2 (fun _ => 0), iaN q24 (z 0) 8 (fun _ => 0)]) rfl dX4_init_144 ?_
  refine j_aload_n C24 0 dX4_init_147 rfl ?_
  refine j_bipush C24 8 dX4_init_148 (by decide) ?_
  refine j_newi C24 0 rfl 8 (by decide) (by decide) (by decide) qa_int (by rw [hR]; decide) (by rw [hR]; decide) dX4_init_150 ?_
  intro q25
  have C25 := up 20 156 (by decide) (by decide)
  refine j_putF C25 hin kf_4 0 rfl 25 (by decide) lk_4_68 rfl rfl rfl rfl (Nat.le_of_ble_eq_true rfl) (u' := [(h, .inr (4, [.int 0, .ref q1, .ref q2, .ref q3, .ref q4, .ref q5, .ref q6, .ref q7, .ref q8, .ref q9, .ref q10, .ref q11, .ref q12, .ref q13, .ref q14, .ref q15, .ref q16, .ref q17, .ref q18, .int 0, .int 0, .int 0, .int 0, .int 0, .ref q24, .ref q25, .int 0])), iaN q1 (z 0) 56 (fun _ => 0), iaN q2 (z 0) 8 (fun _ => 0), iaN q3 (z 1) 8 (fun _ => 0), iaN q4 (z 1) 8 (fun _ => 0), iaN q5 (z 1) 8 (fun _ => 0), iaN q6 (z 0) 8 (fun _ => 0), iaN q7 (z 0) 8 (fun _ => 0), iaN q8 (z 0) 8 (fun _ => 0), iaN q9 (z 0) 8 (fun _ => 0), iaN q10 (z 1) 4 (fun _ => 0), iaN q11 (z 0) 2 (fun _ => 0), iaN q12 (z 0) 2 (fun _ => 0), iaN q13 (z 0) 2 (fun _ => 0), iaN q14 (z 0) 2 (fun _ => 0), iaN q15 (z 0) 2 (fun _ => 0), iaN q16 (z 0) 2 (fun _ => 0), iaN q17 (z 0) 2 (fun _ => 0), iaN q18 (z 0) 2 (fun _ => 0), iaN q24 (z 0) 8 (fun _ => 0), iaN q25 (z 0) 8 (fun _ => 0)]) rfl dX4_init_152 ?_
  have al : ∃ a : Nat → Nat, a = fun j => ([h, q1, q2, q3, q4, q5, q6, q7, q8, q9, q10, q11, q12, q13, q14, q15, q16, q17, q18, q24, q25] : List Nat).getD j 0 := ⟨_, rfl⟩
  obtain ⟨a, ha⟩ := al
  have ha0 : a 0 = h := by subst ha; rfl
  refine j_u (u' := rW z a (mi 0)) (by subst ha; rfl) ?_
  clear ha
  refine j_iconst C25 0 dX4_init_155 ic_0 ?_
  refine j_istore_n C25 dX4_init_156 (by decide) (lv' := [(1, .int (nI 0)), (0, .ref h)]) rfl ?_
  refine it_md C25 0 (by decide) ha0 (mi 0) ?_
  refine it_md C25 1 (by decide) ha0 (mi 1) ?_
  refine it_md C25 2 (by decide) ha0 (mi 2) ?_
  refine it_md C25 3 (by decide) ha0 (mi 3) ?_
  refine it_md C25 4 (by decide) ha0 (mi 4) ?_
  refine it_md C25 5 (by decide) ha0 (mi 5) ?_
  refine it_md C25 6 (by decide) ha0 (mi 6) ?_
  refine it_md C25 7 (by decide) ha0 (mi 7) ?_
  refine j_u (u' := rW z a (mi 8)) rfl ?_
  refine j_iload_n C25 0 dX4_init_157 rfl ?_
  refine j_bipush C25 8 dX4_init_158 bp_8 ?_
  refine j_icmp_ge C25 249 dX4_init_160 rfl (fun _ => ?_) (fun q => absurd (show (8 : Int32) ≤ nI (7 + 1) by decide) q)
  subst ha0
  refine j_aload_n C25 1 dX4_init_249 rfl ?_
  refine j_get C25 kf_4 0 rfl 11 (by decide) lk_4_41 (v := .ref (a 11)) rfl dX4_init_250 ?_
  refine j_iconst C25 0 dX4_init_253 ic_0 ?_
  refine j_iconst C25 (-1) dX4_init_254 ic_m1 ?_
  refine j_iast C25 11 0 rfl rfl 0 ix_0 (by decide) (by decide) (u' := rW z a (up2 (mi 8) 11 (0) (-1))) pu_a_now dX4_init_255 ?_
  refine j_aload_n C25 1 dX4_init_256 rfl ?_
  refine j_get C25 kf_4 0 rfl 11 (by decide) lk_4_41 (v := .ref (a 11)) rfl dX4_init_257 ?_
  refine j_iconst C25 1 dX4_init_260 ic_1 ?_
  refine j_iconst C25 (-1) dX4_init_261 ic_m1 ?_
  refine j_iast C25 11 0 rfl rfl 1 ix_1 (by decide) (by decide) (u' := rW z a (up2 (up2 (mi 8) 11 (0) (-1)) 11 (1) (-1))) pu_a_now dX4_init_262 ?_
  refine j_aload_n C25 1 dX4_init_263 rfl ?_
  refine j_get C25 kf_4 0 rfl 12 (by decide) lk_4_44 (v := .ref (a 12)) rfl dX4_init_264 ?_
  refine j_iconst C25 0 dX4_init_267 ic_0 ?_
  refine j_iconst C25 (-1) dX4_init_268 ic_m1 ?_
  refine j_iast C25 12 0 rfl rfl 0 ix_0 (by decide) (by decide) (u' := rW z a (up2 (up2 (up2 (mi 8) 11 (0) (-1)) 11 (1) (-1)) 12 (0) (-1))) pu_a_next dX4_init_269 ?_
  refine j_aload_n C25 1 dX4_init_270 rfl ?_
  refine j_get C25 kf_4 0 rfl 12 (by decide) lk_4_44 (v := .ref (a 12)) rfl dX4_init_271 ?_
  refine j_iconst C25 1 dX4_init_274 ic_1 ?_
  refine j_iconst C25 (-1) dX4_init_275 ic_m1 ?_
  refine j_iast C25 12 0 rfl rfl 1 ix_1 (by decide) (by decide) (u' := rW z a (up2 (up2 (up2 (up2 (mi 8) 11 (0) (-1)) 11 (1) (-1)) 12 (0) (-1)) 12 (1) (-1))) pu_a_next dX4_init_276 ?_
  exact fin _ _ _ _ _ dX4_init_277 (by decide) (by decide) ⟨a, rfl, rfl⟩

section PE
variable {s : Nat} {c : Int32} {u v : St}
theorem mb_off {u : St} {k g i : Nat} (hq : ¬ (10 ≤ g ∧ g ≤ 17 ∧ i = k)) : f_M_beginGreen u k g i = u g i := by
  unfold f_M_beginGreen
  rw [up2_off _ _ (by omega), up2_off _ _ (by omega), up2_off _ _ (by omega)]
theorem bm_off {v : St} {r k g i : Nat} {w l : Int32} (h1 : ¬ (11 ≤ g ∧ g ≤ 18 ∧ i = r)) (h2 : ¬ (2 ≤ g ∧ g ≤ 9 ∧ i = k)) : bm0 v r k w l g i = v g i := by
  unfold bm0
  repeat rw [up2_off _ _ (by omega)]
theorem st_beg1 (h : Rel s c u v) {r k : Nat} (hr : r < 2) (hk : k < 8) (hd : u 31 r = 0) (hx : u 35 r = nI k) (ho : ons s r (u 35 r)) (hc : ¬ c = 1) {B : St} {w l : Int32} (hB : ∀ g i, ¬ (36 ≤ g ∧ g ≤ 37 ∧ i = r) → B g i = bg0 u r k g i) (b36 : B 36 r = w) (b37 : B 37 r = l) (hw : 0 ≤ w ∧ w ≤ 100 ∧ 0 ≤ l ∧ l ≤ 200) : Rel s c (f_M_beginGreen B k) (bm0 v r k w l) := by
  refine Rel_fr h (fun i => i = r) (fun i => i = k) (fun g i h1 h2 _ => ?_) (fun g i h1 h2 _ => bm_off h1 h2) ?_ ?_ (Or.inr rfl)
  · rw [mb_off h2, hB g i (by omega), bg0_off h1]
  · intro q _ e; subst e
    obtain ⟨⟨e1, e2, e3, e4, e5, e6⟩, -⟩ := h.2.2.2.2.2.1 q hr
    have ht := h.2.2.2.2.1 k hk 1 (by decide)
    have z : ∀ g, 30 ≤ g → g ≤ 35 → f_M_beginGreen B k g q = bg0 u q k g q := fun g a b => by rw [mb_off (by omega), hB g q (by omega)]
    refine RR_of (mv := nI k) (ph := 1) (ag := 0) (lf := u (20 + k) 1) (pr := 0) (nx := -1) (wk := w) (cl := l) ?_ ?_ ?_ ?_ ?_ ?_ ?_ ?_ ?_ ?_ ?_ ?_ ?_ ?_ ?_ (fun q => absurd rfl q) hw (Or.inr (Or.inl rfl)) (fun q => absurd q (by decide)) (fun _ => by rw [← hx]; exact ho) (Or.inl rfl) (fun q => absurd q hc)
    · rw [z 30 (by decide) (by decide)]; simp [bg0, f_R_enter, up2_at, hx]
    · rw [z 31 (by decide) (by decide)]; simp [bg0, f_R_enter, up2_at]
    · rw [z 32 (by decide) (by decide)]; simp [bg0, f_R_enter, up2_at]
    · rw [z 33 (by decide) (by decide)]; simp [bg0, f_R_enter, up2_at]
    · rw [z 34 (by decide) (by decide)]; simp [bg0, f_R_enter, up2_at]
    · rw [z 35 (by decide) (by decide)]; simp [bg0, f_R_enter, up2_at]
    · rw [mb_off (by omega)]; exact b36
    · rw [mb_off (by omega)]; exact b37
    · simp [bm0, up2_at, e4, hx]
    · simp [bm0, up2_at]
    · simp [bm0, up2_at]
    · simp [bm0, up2_at]
    · simp [bm0, up2_at]
    · simp [bm0, up2_at]
    · intro _
      refine ⟨?_, ?_, ht.2.1, rfl⟩
      · simp [bm0, up2_at, ht.1]
      · simp [bm0, up2_at]
  · intro q _ e; subst e
    obtain ⟨m1, m2, m3, m4, m5, m6, m7, m8, m9, m10, m11, m12⟩ := h.2.2.2.1 q hk
    have z : ∀ g, ¬ (30 ≤ g ∧ g ≤ 37) → B g q = u g q := fun g a => by rw [hB g q (by omega), bg0_off (by omega)]
    have y : ∀ g, ¬ (11 ≤ g ∧ g ≤ 18) → ¬ g = 4 → ¬ g = 5 → ¬ g = 8 → bm0 v r q w l g q = v g q := by
      intro g a b d f
      unfold bm0
      repeat rw [up2_off _ _ (by omega)]
    have x : ∀ g, ¬ g = 12 → ¬ g = 13 → ¬ g = 16 → ¬ (30 ≤ g ∧ g ≤ 37) → f_M_beginGreen B q g q = u g q := by
      intro g a b d f
      unfold f_M_beginGreen
      rw [up2_off _ _ (by omega), up2_off _ _ (by omega), up2_off _ _ (by omega), z g f]
    have x12 : f_M_beginGreen B q 12 q = 0 := by simp [f_M_beginGreen, up2_at]
    have x13 : f_M_beginGreen B q 13 q = 0 := by simp [f_M_beginGreen, up2_at]
    have x16 : f_M_beginGreen B q 16 q = u 16 q + 1 := by simp [f_M_beginGreen, up2_at, z 16 (by omega)]
    have y4 : bm0 v r q w l 4 q = 0 := by simp [bm0, up2_at]
    have y5 : bm0 v r q w l 5 q = 0 := by simp [bm0, up2_at]
    have y8 : bm0 v r q w l 8 q = v 8 q + 1 := by simp [bm0, up2_at]
    unfold RM
    rw [x12, x13, x16, y4, y5, y8, x 10 (by decide) (by decide) (by decide) (by decide), x 11 (by decide) (by decide) (by decide) (by decide), x 14 (by decide) (by decide) (by decide) (by decide), x 15 (by decide) (by decide) (by decide) (by decide), x 17 (by decide) (by decide) (by decide) (by decide), y 2 (by decide) (by decide) (by decide) (by decide), y 3 (by decide) (by decide) (by decide) (by decide), y 6 (by decide) (by decide) (by decide) (by decide), y 7 (by decide) (by decide) (by decide) (by decide), y 9 (by decide) (by decide) (by decide) (by decide)]
    exact ⟨m1, m2, rfl, rfl, m5, m6, by rw [m7], m8, m9, Or.inl rfl, Or.inl rfl, m12⟩
theorem i_cancel {a b d : Int32} (h : a + d = b + d) : a = b := by
  have k : a + d - d = b + d - d := by rw [h]
  rwa [Int32.add_sub_cancel, Int32.add_sub_cancel] at k
def gs (u : St) : Int32 := u 16 0 + u 16 1 + u 16 2 + u 16 3 + u 16 4 + u 16 5 + u 16 6 + u 16 7
theorem gs_c {u u' : St} (h : ∀ k, u' 16 k = u 16 k) : gs u' = gs u := by unfold gs; rw [h, h, h, h, h, h, h, h]
theorem gs_inc {u u' : St} {k : Nat} (hk : k < 8) (h1 : u' 16 k = u 16 k + 1) (h2 : ∀ j, ¬ j = k → u' 16 j = u 16 j) : gs u' = gs u + 1 := by
  unfold gs
  rcases (show k = 0 ∨ k = 1 ∨ k = 2 ∨ k = 3 ∨ k = 4 ∨ k = 5 ∨ k = 6 ∨ k = 7 by omega) with rfl | rfl | rfl | rfl | rfl | rfl | rfl | rfl
  · rw [h1, h2 1 (by decide), h2 2 (by decide), h2 3 (by decide), h2 4 (by decide), h2 5 (by decide), h2 6 (by decide), h2 7 (by decide)]; ac_rfl
  · rw [h1, h2 0 (by decide), h2 2 (by decide), h2 3 (by decide), h2 4 (by decide), h2 5 (by decide), h2 6 (by decide), h2 7 (by decide)]; ac_rfl
  · rw [h1, h2 0 (by decide), h2 1 (by decide), h2 3 (by decide), h2 4 (by decide), h2 5 (by decide), h2 6 (by decide), h2 7 (by decide)]; ac_rfl
  · rw [h1, h2 0 (by decide), h2 1 (by decide), h2 2 (by decide), h2 4 (by decide), h2 5 (by decide), h2 6 (by decide), h2 7 (by decide)]; ac_rfl
  · rw [h1, h2 0 (by decide), h2 1 (by decide), h2 2 (by decide), h2 3 (by decide), h2 5 (by decide), h2 6 (by decide), h2 7 (by decide)]; ac_rfl
  · rw [h1, h2 0 (by decide), h2 1 (by decide), h2 2 (by decide), h2 3 (by decide), h2 4 (by decide), h2 6 (by decide), h2 7 (by decide)]; ac_rfl
  · rw [h1, h2 0 (by decide), h2 1 (by decide), h2 2 (by decide), h2 3 (by decide), h2 4 (by decide), h2 5 (by decide), h2 7 (by decide)]; ac_rfl
  · rw [h1, h2 0 (by decide), h2 1 (by decide), h2 2 (by decide), h2 3 (by decide), h2 4 (by decide), h2 5 (by decide), h2 6 (by decide)]; ac_rfl
theorem gs_all (h : Rel s c u v) : f_m_allGreens v = gs u := by
  have m : ∀ k, k < 8 → v 8 k = u 16 k := fun k hk => (h.2.2.2.1 k hk).2.2.2.2.2.2.1
  have e : f_m_allGreens v = 0 + v 8 0 + v 8 1 + v 8 2 + v 8 3 + v 8 4 + v 8 5 + v 8 6 + v 8 7 := rfl
  rw [e, m 0 (by decide), m 1 (by decide), m 2 (by decide), m 3 (by decide), m 4 (by decide), m 5 (by decide), m 6 (by decide), m 7 (by decide), Int32.zero_add]
  rfl
/-- a dark ring with a next one begins its green -/
theorem st_begin (h : Rel s c u v) {r : Nat} (hr : r < 2) (hd : u 31 r = 0) (hn : ¬ u 35 r = -1) : Rel s c (f_M_beginGreen (f_R_beginGreen u r (u 35 r).toNatClampNeg) (u 35 r).toNatClampNeg) (f_m_begin v r) ∧ g_m_begin v r ∧ vp_in (u 35 r) 8 ∧ gs (f_M_beginGreen (f_R_beginGreen u r (u 35 r).toNatClampNeg) (u 35 r).toNatClampNeg) = gs u + 1 ∧ ∀ i, f_M_beginGreen (f_R_beginGreen u r (u 35 r).toNatClampNeg) (u 35 r).toNatClampNeg 0 i = u 0 i := by
  have rr := h.2.2.2.2.2.1 r hr
  have ho : ons s r (u 35 r) := by rcases rr.2.2.2.2.2.2.2.1 with q | q
                                   · exact absurd q hn
                                   · exact q
  have hc : ¬ c = 1 := fun q => hn (rr.2.2.2.2.2.2.2.2 q).2
  obtain ⟨k, hk, ek, -, -⟩ := ons_k h.1 hr ho
  have ev : v 12 r = nI k := by rw [rr.1.2.2.2.1, ek]
  have hm := h.2.2.2.1 k hk
  have t5 := h.2.2.2.2.1 k hk 5 (by decide)
  have t6 := h.2.2.2.2.1 k hk 6 (by decide)
  obtain ⟨bv, gv⟩ := bgV v hk ev
  have ew : (if v 1 (7 * k + 5) ≤ 0 then (0 : Int32) else if v 4 k = 0 then (if f_m_has v k 16 = 0 then 0 else 1) else 1) = f_M_wouldWalk u k := by
    unfold f_M_wouldWalk f_m_has f_M_has
    rw [t5.1, hm.2.2.2.1, hm.1]
  rw [ew, t5.1, t6.1] at bv
  have off : ∀ g i, ¬ (30 ≤ g ∧ g ≤ 37 ∧ i = r) → f_R_beginGreen u r k g i = u g i := by
    intro g i q
    rw [bgU u hk]
    split
    · exact bg0_off q
    · rw [up2_off _ _ (by omega), up2_off _ _ (by omega)]; exact bg0_off q
  have e16 : f_M_beginGreen (f_R_beginGreen u r k) k 16 k = u 16 k + 1 := by simp [f_M_beginGreen, up2_at, off 16 k (by omega)]
  have o16 : ∀ j, ¬ j = k → f_M_beginGreen (f_R_beginGreen u r k) k 16 j = u 16 j := fun j q => by rw [mb_off (by omega), off 16 j (by omega)]
  rw [ek, clp (by omega)]
  refine ⟨?_, gv, vp_in_nI hk (by decide), gs_inc hk e16 o16, fun i => by rw [mb_off (by omega), off 0 i (by omega)]⟩
  rw [bv, bgU u hk]
  by_cases a : f_M_wouldWalk u k = 0
  · rw [if_pos a, if_pos a]
    exact st_beg1 h hr hk hd ek ho hc (fun g i _ => rfl) (by simp [bg0, f_R_enter, up2_at]) (by simp [bg0, f_R_enter, up2_at]) (by decide)
  · rw [if_neg a, if_neg a]
    exact st_beg1 h hr hk hd ek ho hc (fun g i q => by rw [up2_off _ _ (by omega), up2_off _ _ (by omega)]) (by rw [up2_off _ _ (by omega)]; exact up2_s _ _ _ _) (up2_s _ _ _ _) ⟨t5.2.1, t5.2.2, t6.2.1, t6.2.2⟩
theorem st_begins : ∀ (n i : Nat) (x : Int32) (u v : St), i + n = 2 → Rel s c u v → Rel s c (f_beginGreens_4 n i x u).2 (f_m_tick_171 n i v) ∧ g_beginGreens_4 n i x u ∧ g_m_tick_171 n i v ∧ (f_beginGreens_4 n i x u).1 + gs u = x + gs (f_beginGreens_4 n i x u).2 ∧ ∀ j, (f_beginGreens_4 n i x u).2 0 j = u 0 j := by
  intro n
  induction n with
  | zero => intro i x u v _ h; exact ⟨h, trivial, trivial, rfl, fun _ => rfl⟩
  | succ n ih =>
    intro i x u v hi h
    have hr : i < 2 := by omega
    have e := (h.2.2.2.2.2.1 i hr).1
    obtain ⟨n1, n2⟩ := next_neg h hr
    have eU : f_beginGreens_4 (n + 1) i x u = (if u 31 i = 0 then (if u 35 i = -1 then f_beginGreens_4 n (i + 1) x u else f_beginGreens_4 n (i + 1) (x + 1) (f_M_beginGreen (f_R_beginGreen u i (u 35 i).toNatClampNeg) (u 35 i).toNatClampNeg)) else f_beginGreens_4 n (i + 1) x u) := rfl
    have eV : f_m_tick_171 (n + 1) i v = (if v 13 i = 0 then (if v 12 i < 0 then f_m_tick_171 n (i + 1) v else f_m_tick_171 n (i + 1) (f_m_begin v i)) else f_m_tick_171 n (i + 1) v) := rfl
    rw [e.2.1, e.2.2.2.1] at eV
    obtain ⟨z1, z2, z3, z4, z5⟩ := ih (i + 1) x u v (by omega) h
    by_cases a : u 31 i = 0
    · by_cases b : u 35 i = -1
      · rw [if_pos a, if_pos b] at eU
        rw [if_pos a, if_pos (n2.mpr b)] at eV
        rw [eU, eV]
        exact ⟨z1, ⟨fun _ => ⟨fun _ => z2, fun q => absurd b q⟩, fun q => absurd a q⟩, ⟨fun _ => ⟨fun _ => z3, fun q => absurd (by rw [e.2.2.2.1]; exact n2.mpr b) q⟩, fun q => absurd (by rw [e.2.1]; exact a) q⟩, z4, z5⟩
      · obtain ⟨y1, y2, y3, y4, y5⟩ := st_begin h hr a b
        obtain ⟨w1, w2, w3, w4, w5⟩ := ih (i + 1) (x + 1) _ _ (by omega) y1
        rw [if_pos a, if_neg b] at eU
        rw [if_pos a, if_neg (fun q => b (n2.mp q))] at eV
        rw [eU, eV]
        refine ⟨w1, ⟨fun _ => ⟨fun q => absurd q b, fun _ => ⟨y3, w2⟩⟩, fun q => absurd a q⟩, ⟨fun _ => ⟨fun q => absurd (n2.mp (by rw [← e.2.2.2.1]; exact q)) b, fun _ => ⟨y2, w3⟩⟩, fun q => absurd (by rw [e.2.1]; exact a) q⟩, ?_, fun j => (w5 j).trans (y5 j)⟩
        rw [y4] at w4
        have k : (f_beginGreens_4 n (i + 1) (x + 1) (f_M_beginGreen (f_R_beginGreen u i (u 35 i).toNatClampNeg) (u 35 i).toNatClampNeg)).1 + gs u + 1 = (x + gs (f_beginGreens_4 n (i + 1) (x + 1) (f_M_beginGreen (f_R_beginGreen u i (u 35 i).toNatClampNeg) (u 35 i).toNatClampNeg)).2) + 1 := by
          rw [Int32.add_assoc, w4]; ac_rfl
        exact i_cancel k
    · rw [if_neg a] at eU
      rw [if_neg a] at eV
      rw [eU, eV]
      exact ⟨z1, ⟨fun q => absurd q a, fun _ => z2⟩, ⟨fun q => absurd (by rw [← e.2.1]; exact q) a, fun _ => z3⟩, z4, z5⟩
end PE

section PO
variable {s : Nat} {c : Int32} {u v : St}
def OK (x y : Int32 × St) : Prop := x.1 = y.1 ∧ RelT x.2 y.2
theorem mv_k {x : Int32} (h : ¬ f_isMovement x = 0) : ∃ k, k < 8 ∧ x = nI k := by
  unfold f_isMovement at h
  rcases pk_ix x (n := 8) (by decide) with a | a | a
  · rw [if_pos a] at h; exact absurd rfl h
  · by_cases b : x < 0
    · rw [if_pos b] at h; exact absurd rfl h
    · rw [if_neg b, if_pos (show (8 : Int32) ≤ x from a)] at h; exact absurd rfl h
  · exact a
theorem m_mv (x : Int32) : f_m_isMovement x = f_isMovement x := rfl
theorem rg_k {x : Int32} (h : ¬ f_isRing x = 0) : ∃ k, k < 2 ∧ x = nI k := by
  unfold f_isRing at h
  rcases pk_ix x (n := 2) (by decide) with a | a | a
  · rw [if_pos a] at h; exact absurd rfl h
  · by_cases b : x < 0
    · rw [if_pos b] at h; exact absurd rfl h
    · rw [if_neg b, if_pos (show (2 : Int32) ≤ x from a)] at h; exact absurd rfl h
  · exact a
theorem i1lt (x : Int32) : ((1 : Int32) < x ↔ (2 : Int32) ≤ x) ∧ (x ≤ 1 ↔ x < 2) := by
  rw [Int32.lt_iff_toInt_lt, Int32.le_iff_toInt_le, Int32.le_iff_toInt_le, Int32.lt_iff_toInt_lt]
  rw [show (1 : Int32).toInt = 1 from rfl, show (2 : Int32).toInt = 2 from rfl]
  omega
theorem RelT_thr (h : RelT u v) : RelT u (up2 v 0 0 0) := by
  obtain ⟨s, h⟩ := h
  exact ⟨s, Rel_thr h 0⟩
theorem op_run (h : RelT u v) (x : Int32) : OK (f_run u x) (f_m_run v x) ∧ g_run u x ∧ g_m_run v x := by
  have h0 := RelT_thr h
  unfold OK f_run f_m_run g_run g_m_run
  by_cases a : x < 0
  · rw [if_pos a, if_pos a]
    exact ⟨⟨rfl, h0⟩, ⟨fun _ => trivial, fun q => absurd a q⟩, ⟨fun _ => trivial, fun q => absurd a q⟩⟩
  · rw [if_neg a, if_neg a]
    by_cases b : x ≤ 500
    · rw [if_pos b, if_pos b]
      obtain ⟨j, hj, ej⟩ := nI_of2 (n := 500) (by decide) a b
      have hin : vp_in x 501 := by rw [ej]; exact vp_in_nI (by omega) (by decide)
      obtain ⟨s, hs⟩ := h0
      obtain ⟨z1, z2, z3, z4⟩ := run_all x x.toNatClampNeg 0 0 (f_m_allGreens (up2 v 0 0 0)) x.toNatClampNeg u (up2 v 0 0 0) ⟨s, hs⟩ (by rw [gs_all hs, Int32.zero_add])
      exact ⟨⟨z2, z1⟩, ⟨fun q => absurd q a, fun _ => ⟨fun _ => ⟨hin, z3⟩, fun q => absurd b q⟩⟩, ⟨fun q => absurd q a, fun _ => ⟨fun _ => ⟨hin, z4⟩, fun q => absurd b q⟩⟩⟩
    · rw [if_neg b, if_neg b]
      exact ⟨⟨rfl, h0⟩, ⟨fun q => absurd q a, fun _ => ⟨fun q => absurd q b, fun _ => trivial⟩⟩, ⟨fun q => absurd q a, fun _ => ⟨fun q => absurd q b, fun _ => trivial⟩⟩⟩
theorem Rel10 (h : Rel s c u v) {k : Nat} (hk : k < 8) {x : Int32} : Rel s c (up2 u 10 k x) (up2 v 2 k x) := by
  refine Rel_mv h hk (fun g i q => up2_off _ _ (by omega)) (fun g i q => up2_off _ _ (by omega)) ?_
  obtain ⟨m1, m2, m3, m4, m5, m6, m7, m8, m9, m10, m11, m12⟩ := h.2.2.2.1 k hk
  unfold RM
  simp only [up2_at, Nat.reduceEqDiff, false_and, true_and, ↓reduceIte]
  exact ⟨m2, m3, m4, m5, m6, m7, m8, m9, m10, m11, m12⟩
theorem Rel11 (h : Rel s c u v) {k : Nat} (hk : k < 8) {x : Int32} (hx : bl x) : Rel s c (up2 u 11 k x) (up2 v 3 k x) := by
  refine Rel_mv h hk (fun g i q => up2_off _ _ (by omega)) (fun g i q => up2_off _ _ (by omega)) ?_
  obtain ⟨m1, m2, m3, m4, m5, m6, m7, m8, m9, m10, m11, m12⟩ := h.2.2.2.1 k hk
  unfold RM
  simp only [up2_at, Nat.reduceEqDiff, false_and, true_and, ↓reduceIte]
  exact ⟨m1, m3, m4, m5, m6, m7, m8, hx, m10, m11, m12⟩
theorem Rel12 (h : Rel s c u v) {k : Nat} (hk : k < 8) {x : Int32} (hx : bl x) : Rel s c (up2 u 12 k x) (up2 v 5 k x) := by
  refine Rel_mv h hk (fun g i q => up2_off _ _ (by omega)) (fun g i q => up2_off _ _ (by omega)) ?_
  obtain ⟨m1, m2, m3, m4, m5, m6, m7, m8, m9, m10, m11, m12⟩ := h.2.2.2.1 k hk
  unfold RM
  simp only [up2_at, Nat.reduceEqDiff, false_and, true_and, ↓reduceIte]
  exact ⟨m1, m2, m4, m5, m6, m7, m8, m9, hx, m11, m12⟩
theorem Rel13 (h : Rel s c u v) {k : Nat} (hk : k < 8) {x : Int32} (hx : bl x) : Rel s c (up2 u 13 k x) (up2 v 4 k x) := by
  refine Rel_mv h hk (fun g i q => up2_off _ _ (by omega)) (fun g i q => up2_off _ _ (by omega)) ?_
  obtain ⟨m1, m2, m3, m4, m5, m6, m7, m8, m9, m10, m11, m12⟩ := h.2.2.2.1 k hk
  unfold RM
  simp only [up2_at, Nat.reduceEqDiff, false_and, true_and, ↓reduceIte]
  exact ⟨m1, m2, m3, m5, m6, m7, m8, m9, m10, hx, m12⟩
theorem Rel17 (h : Rel s c u v) {k : Nat} (hk : k < 8) {x : Int32} (hx : x = -1 ∨ x = 0 ∨ x = 1 ∨ x = 2) : Rel s c (up2 u 17 k x) (up2 v 9 k x) := by
  refine Rel_mv h hk (fun g i q => up2_off _ _ (by omega)) (fun g i q => up2_off _ _ (by omega)) ?_
  obtain ⟨m1, m2, m3, m4, m5, m6, m7, m8, m9, m10, m11, m12⟩ := h.2.2.2.1 k hk
  unfold RM
  simp only [up2_at, Nat.reduceEqDiff, false_and, true_and, ↓reduceIte]
  exact ⟨m1, m2, m3, m4, m5, m6, m7, m9, m10, m11, hx⟩
theorem RelT_of (h : Rel s c u v) (hc : c = u 0 2) : RelT u v := ⟨s, hc ▸ h⟩
theorem op_mode (h : RelT u v) (x0 x1 : Int32) : OK (f_mode u x0 x1) (f_m_mode v x0 x1) ∧ g_mode u x0 x1 ∧ g_m_mode v x0 x1 := by
  have h0 := RelT_thr h
  have gd : g_mode u x0 x1 := ⟨fun _ => trivial, fun a => ⟨fun _ => trivial, fun _ => ⟨fun _ => by obtain ⟨k, hk, rfl⟩ := mv_k a; exact vp_in_nI hk (by decide), fun _ => trivial⟩⟩⟩
  refine ⟨?_, gd, gd⟩
  unfold OK f_mode f_m_mode
  rw [m_mv]
  by_cases a : f_isMovement x0 = 0
  · rw [if_pos a, if_pos a]; exact ⟨rfl, h0⟩
  · rw [if_neg a, if_neg a]
    obtain ⟨k, hk, rfl⟩ := mv_k a
    by_cases b : x1 < 0
    · rw [if_pos b, if_pos b]; exact ⟨rfl, h0⟩
    · rw [if_neg b, if_neg b]
      by_cases d : x1 ≤ 63
      · rw [if_pos d, if_pos d, clp (by omega)]
        obtain ⟨s, h0⟩ := h0
        exact ⟨rfl, RelT_of (Rel10 h0 hk) (by dsimp only; rw [up2_off _ _ (by omega)])⟩
      · rw [if_neg d, if_neg d]; exact ⟨rfl, h0⟩
theorem op_push (h : RelT u v) (x0 : Int32) : OK (f_push u x0) (f_m_push v x0) ∧ g_push u x0 ∧ g_m_push v x0 := by
  have h0 := RelT_thr h
  have gd : g_push u x0 := ⟨fun _ => trivial, fun a => by obtain ⟨k, hk, rfl⟩ := mv_k a; exact vp_in_nI hk (by decide)⟩
  refine ⟨?_, gd, gd⟩
  unfold OK f_push f_m_push
  rw [m_mv]
  by_cases a : f_isMovement x0 = 0
  · rw [if_pos a, if_pos a]; exact ⟨rfl, h0⟩
  · rw [if_neg a, if_neg a]
    obtain ⟨k, hk, rfl⟩ := mv_k a
    rw [clp (by omega)]
    obtain ⟨s, hs⟩ := h0
    rw [(hs.2.2.2.1 k hk).2.2.2.1]
    by_cases b : u 13 k = 0
    · rw [if_pos b, if_pos b]
      exact ⟨rfl, RelT_of (Rel13 hs hk (Or.inr rfl)) (by dsimp only; rw [up2_off _ _ (by omega)])⟩
    · rw [if_neg b, if_neg b]; exact ⟨rfl, s, hs⟩
theorem stk_v {x : Int32} (h1 : ¬ x < -1) (h2 : x ≤ 2) : x = -1 ∨ x = 0 ∨ x = 1 ∨ x = 2 := by
  rw [Int32.lt_iff_toInt_lt, show (-1 : Int32).toInt = -1 from rfl] at h1
  rw [Int32.le_iff_toInt_le, show (2 : Int32).toInt = 2 from rfl] at h2
  rcases (show x.toInt = -1 ∨ x.toInt = 0 ∨ x.toInt = 1 ∨ x.toInt = 2 by omega) with e | e | e | e
  · exact Or.inl (Int32.toInt_inj.mp e)
  · exact Or.inr (Or.inl (Int32.toInt_inj.mp e))
  · exact Or.inr (Or.inr (Or.inl (Int32.toInt_inj.mp e)))
  · exact Or.inr (Or.inr (Or.inr (Int32.toInt_inj.mp e)))
theorem op_stick (h : RelT u v) (x0 x1 : Int32) : OK (f_stick u x0 x1) (f_m_stick v x0 x1) ∧ g_stick u x0 x1 ∧ g_m_stick v x0 x1 := by
  have h0 := RelT_thr h
  have gd : g_stick u x0 x1 := ⟨fun _ => trivial, fun a => ⟨fun _ => trivial, fun _ => ⟨fun _ => by obtain ⟨k, hk, rfl⟩ := mv_k a; exact vp_in_nI hk (by decide), fun _ => trivial⟩⟩⟩
  refine ⟨?_, gd, gd⟩
  unfold OK f_stick f_m_stick
  rw [m_mv]
  by_cases a : f_isMovement x0 = 0
  · rw [if_pos a, if_pos a]; exact ⟨rfl, h0⟩
  · rw [if_neg a, if_neg a]
    obtain ⟨k, hk, rfl⟩ := mv_k a
    by_cases b : x1 < -1
    · rw [if_pos b, if_pos b]; exact ⟨rfl, h0⟩
    · rw [if_neg b, if_neg b]
      by_cases d : x1 ≤ 2
      · rw [if_pos d, if_pos d, clp (by omega)]
        obtain ⟨s, h0⟩ := h0
        exact ⟨rfl, RelT_of (Rel17 h0 hk (stk_v b d)) (by dsimp only; rw [up2_off _ _ (by omega)])⟩
      · rw [if_neg d, if_neg d]; exact ⟨rfl, h0⟩
theorem isGreen_eq (h : Rel s c u v) {k : Nat} (hk : k < 8) : f_m_isGreen v k = f_isGreen u k := by
  have e := (h.2.2.2.2.2.1 (k / 4) (by omega)).1
  unfold f_m_isGreen f_isGreen
  rw [e.1, e.2.1]
theorem op_car (h : RelT u v) (x0 x1 : Int32) : OK (f_car u x0 x1) (f_m_car v x0 x1) ∧ g_car u x0 x1 ∧ g_m_car v x0 x1 := by
  have h0 := RelT_thr h
  have gi : ¬ f_isMovement x0 = 0 → vp_in x0 8 := fun a => by obtain ⟨k, hk, rfl⟩ := mv_k a; exact vp_in_nI hk (by decide)
  refine ⟨?_, ⟨fun _ => trivial, fun a => ⟨fun _ => trivial, fun _ => ⟨fun _ => gi a, fun _ => trivial⟩⟩⟩, ⟨fun _ => trivial, fun a => ⟨fun _ => trivial, fun _ => ⟨fun _ => trivial, fun _ => gi a⟩⟩⟩⟩
  unfold OK f_car f_m_car
  rw [m_mv]
  by_cases a : f_isMovement x0 = 0
  · rw [if_pos a, if_pos a]; exact ⟨rfl, h0⟩
  · rw [if_neg a, if_neg a]
    obtain ⟨k, hk, rfl⟩ := mv_k a
    by_cases b : x1 < 0
    · rw [if_pos b, if_pos b]; exact ⟨rfl, h0⟩
    · rw [if_neg b, if_neg b]
      by_cases d : x1 ≤ 1
      · rw [if_pos d, if_neg (Int32.not_lt.mpr d), clp (by omega)]
        obtain ⟨s, hs⟩ := h0
        obtain ⟨m1, m2, m3, m4, m5, m6, m7, m8, m9, m10, m11, m12⟩ := hs.2.2.2.1 k hk
        by_cases f : x1 = 1
        · rw [if_pos f]
          simp only [if_pos f]
          rw [m2]
          by_cases w : u 11 k = 1
          · rw [if_pos w, if_pos w]; exact ⟨rfl, s, hs⟩
          · rw [if_neg w, if_neg w]
            have z := Rel11 hs hk (x := 1) (Or.inr rfl)
            have c2 : u 0 2 = up2 u 11 k 1 0 2 := (up2_off _ _ (by omega)).symm
            have r5 : up2 (up2 v 0 0 0) 3 k 1 5 k = u 12 k := by rw [up2_off _ _ (by omega)]; exact m3
            have r12 : up2 u 11 k 1 12 k = u 12 k := up2_off _ _ (by omega)
            have same : ∀ y, y = u 12 k → RelT (up2 u 11 k 1) (up2 (up2 (up2 v 0 0 0) 3 k 1) 5 k y) := by
              rintro y rfl
              have e : up2 (up2 (up2 v 0 0 0) 3 k 1) 5 k (u 12 k) = up2 (up2 v 0 0 0) 3 k 1 := by rw [← r5]; exact up2_id _ _ _
              rw [e]; exact RelT_of z c2
            have set1 : RelT (up2 (up2 u 11 k 1) 12 k 1) (up2 (up2 (up2 v 0 0 0) 3 k 1) 5 k 1) := RelT_of (Rel12 z hk (Or.inr rfl)) (c2.trans (up2_off _ _ (by omega)).symm)
            have eh : f_m_has (up2 (up2 v 0 0 0) 3 k 1) k 2 = f_M_has (up2 u 11 k 1) k 2 := by
              unfold f_m_has f_M_has
              rw [(z.2.2.2.1 k hk).1]
            rw [r5, isGreen_eq z hk, eh]
            by_cases p : f_M_has (up2 u 11 k 1) k 2 = 0
            · rw [if_pos p]
              simp only [if_pos p]
              by_cases q : u 12 k = 0
              · rw [if_pos q]
                split
                · exact ⟨rfl, same 0 q.symm⟩
                · exact ⟨rfl, same 0 q.symm⟩
              · rw [if_neg q]
                have q1 : u 12 k = 1 := m10.elim (fun t => absurd t q) id
                exact ⟨rfl, same 1 q1.symm⟩
            · rw [if_neg p]
              simp only [if_neg p]
              by_cases gq : f_isGreen (up2 u 11 k 1) k = 0
              · rw [if_pos gq]
                simp only [if_pos gq]
                split
                · exact ⟨rfl, set1⟩
                · exact ⟨rfl, set1⟩
              · rw [if_neg gq]
                simp only [if_neg gq]
                by_cases q : u 12 k = 0
                · rw [if_pos q]; exact ⟨rfl, same 0 q.symm⟩
                · rw [if_neg q]
                  have q1 : u 12 k = 1 := m10.elim (fun t => absurd t q) id
                  exact ⟨rfl, same 1 q1.symm⟩
        · rw [if_neg f]
          simp only [if_neg f]
          rw [m2]
          by_cases w : u 11 k = 0
          · rw [if_pos w, if_pos w]; exact ⟨rfl, s, hs⟩
          · rw [if_neg w, if_neg w]
            have z := Rel11 hs hk (x := 0) (Or.inl rfl)
            have c2 : u 0 2 = up2 u 11 k 0 0 2 := (up2_off _ _ (by omega)).symm
            have r5 : up2 (up2 v 0 0 0) 3 k 0 5 k = u 12 k := by rw [up2_off _ _ (by omega)]; exact m3
            have same : ∀ y, y = u 12 k → RelT (up2 u 11 k 0) (up2 (up2 (up2 v 0 0 0) 3 k 0) 5 k y) := by
              rintro y rfl
              have e : up2 (up2 (up2 v 0 0 0) 3 k 0) 5 k (u 12 k) = up2 (up2 v 0 0 0) 3 k 0 := by rw [← r5]; exact up2_id _ _ _
              rw [e]; exact RelT_of z c2
            rw [r5]
            by_cases q : u 12 k = 0
            · rw [if_pos q]; exact ⟨rfl, same 0 q.symm⟩
            · rw [if_neg q]
              have q1 : u 12 k = 1 := m10.elim (fun t => absurd t q) id
              exact ⟨rfl, same 1 q1.symm⟩
      · rw [if_neg d, if_pos (Int32.not_le.mp d)]; exact ⟨rfl, h0⟩
end PO

section PQs
variable {s : Nat} {c : Int32} {u v : St}
theorem num_b (x : Int32) : f_number x = if x = 0 then 0 else 1 := rfl
theorem fault_le (h : Rel s c u v) : (v 0 23 ≤ 0 ↔ u 1 0 = 0) := by
  obtain ⟨-, -, -, -, e, -, -, -, f⟩ := h.2.2.1
  rw [e]
  rcases f with f | f | f | f <;> rw [f] <;> decide
theorem div_k {k : Nat} (hk : k < 8) : (nI k / 4).toNatClampNeg = k / 4 ∧ vp_in (nI k / 4) 2 := by
  rw [jk_div4 (by omega)]
  exact ⟨clp (by omega), vp_in_nI (by omega) (by decide)⟩
theorem walk_of (h : Rel s c u v) {k : Nat} (hk : k < 8) : (if f_isGreen u k = 0 then 0 else f_R_walking u (k / 4)) = (if u 30 (k / 4) = nI k then (if u 36 (k / 4) ≤ 0 then (if u 37 (k / 4) ≤ 0 then 0 else 2) else 1) else (0 : Int32)) := by
  obtain ⟨-, -, h2, -⟩ := h.2.2.2.2.2.1 (k / 4) (by omega)
  unfold f_isGreen f_R_walking
  by_cases a : u 30 (k / 4) = nI k
  · rw [if_pos a, if_pos a]
    by_cases b : u 31 (k / 4) = 1
    · rw [if_pos b, if_neg i10]
    · obtain ⟨-, -, z1, z2⟩ := h2 b
      rw [if_neg b, if_pos rfl, z1, z2]; rfl
  · rw [if_neg a, if_neg a, if_pos rfl]
theorem op_of (h : RelT u v) (x0 x1 : Int32) : f_of u x0 x1 = (f_m_of v x0 x1).1 ∧ RelT u (f_m_of v x0 x1).2 ∧ g_of u x0 x1 ∧ g_m_of v x0 x1 := by
  have h0 := RelT_thr h
  have gi : ¬ f_isMovement x0 = 0 → vp_in x0 8 := fun a => by obtain ⟨k, hk, rfl⟩ := mv_k a; exact vp_in_nI hk (by decide)
  have gq : ¬ f_isMovement x0 = 0 → vp_in (x0 / 4) 2 := fun a => by obtain ⟨k, hk, rfl⟩ := mv_k a; exact (div_k hk).2
  have e2 : (f_m_of v x0 x1).2 = up2 v 0 0 0 := by
    simp only [f_m_of, apply_ite Prod.snd, ite_self]
  refine ⟨?_, by rw [e2]; exact h0, ⟨fun _ => trivial, gi⟩, ?_⟩
  · unfold f_of f_m_of
    rw [m_mv]
    by_cases a : f_isMovement x0 = 0
    · rw [if_pos a, if_pos a]
    · rw [if_neg a, if_neg a]
      obtain ⟨k, hk, rfl⟩ := mv_k a
      obtain ⟨s, hs⟩ := h0
      obtain ⟨m1, m2, m3, m4, m5, m6, m7, m8, -⟩ := hs.2.2.2.1 k hk
      have rr := (hs.2.2.2.2.2.1 (k / 4) (by omega)).1
      rw [clp (by omega)]
      by_cases b0 : x1 = 0
      · rw [if_pos b0, if_pos b0]
        have fl := fault_le hs
        unfold f_isFlashing
        by_cases z : u 1 0 = 0
        · rw [if_pos z, if_pos rfl, if_pos (fl.mpr z), light_eq hs hk]
        · rw [if_neg z, if_neg i10, if_neg (fun q => z (fl.mp q))]
      · rw [if_neg b0, if_neg b0]
        by_cases b1 : x1 = 1
        · rw [if_pos b1, if_pos b1, walk_of hs hk, (div_k hk).1, rr.1, rr.2.2.2.2.1, rr.2.2.2.2.2]
          repeat' split
          all_goals rfl
        · rw [if_neg b1, if_neg b1]
          by_cases b2 : x1 = 2
          · rw [if_pos b2, if_pos b2, called_eq hs hk, num_b]
            split <;> rfl
          · rw [if_neg b2, if_neg b2]
            by_cases b3 : x1 = 3
            · rw [if_pos b3, if_pos b3]; exact m5.symm
            · rw [if_neg b3, if_neg b3]
              by_cases b4 : x1 = 4
              · rw [if_pos b4, if_pos b4]; exact m6.symm
              · rw [if_neg b4, if_neg b4]
                by_cases b5 : x1 = 5
                · rw [if_pos b5, if_pos b5]; exact m7.symm
                · rw [if_neg b5, if_neg b5]
                  by_cases b6 : x1 = 6
                  · rw [if_pos b6, if_pos b6, m2, num_b]
                    split <;> rfl
                  · rw [if_neg b6, if_neg b6]
                    by_cases b7 : x1 = 7
                    · rw [if_pos b7, if_pos b7, m4, num_b]
                      split <;> rfl
                    · rw [if_neg b7, if_neg b7]
                      by_cases b8 : x1 = 8
                      · rw [if_pos b8, if_pos b8, m3, num_b]
                        split <;> rfl
                      · rw [if_neg b8, if_neg b8]
  · unfold g_m_of
    rw [m_mv]
    refine ⟨fun _ => trivial, fun a => ?_⟩
    have g1 := gi a
    have g2 := gq a
    repeat' first | exact trivial | exact g1 | exact g2 | apply And.intro | intro _
theorem op_ring (h : RelT u v) (x0 x1 : Int32) : f_ring u x0 x1 = (f_m_ring v x0 x1).1 ∧ RelT u (f_m_ring v x0 x1).2 ∧ g_ring u x0 x1 ∧ g_m_ring v x0 x1 := by
  have h0 := RelT_thr h
  have e2 : (f_m_ring v x0 x1).2 = up2 v 0 0 0 := by
    simp only [f_m_ring, apply_ite Prod.snd, ite_self]
  have k2 : ¬ x0 < 0 → x0 ≤ 1 → ∃ r, r < 2 ∧ x0 = nI r := by
    intro a b
    rcases pk_ix x0 (n := 2) (by decide) with z | z | z
    · exact absurd z a
    · exact absurd ((i1lt x0).2.mp b) (Int32.not_lt.mpr (show (2 : Int32) ≤ x0 from z))
    · exact z
  obtain ⟨s, hs⟩ := h0
  refine ⟨?_, by rw [e2]; exact ⟨s, hs⟩, ?_, ?_⟩
  · unfold f_ring f_m_ring f_isRing
    by_cases a : x0 < 0
    · rw [if_pos a, if_pos a, if_pos rfl]
    · rw [if_neg a, if_neg a]
      by_cases b : x0 ≤ 1
      · rw [if_neg (Int32.not_le.mpr ((i1lt x0).2.mp b)), if_neg i10, if_pos b]
        obtain ⟨r, hr, rfl⟩ := k2 a b
        obtain ⟨⟨e1, e2, e3, e4, e5, e6⟩, hg, hng, -⟩ := hs.2.2.2.2.2.1 r hr
        rw [clp (by omega), e1, e2, e3, e4, mayEnd_eq hs hr]
        by_cases g1 : u 31 r = 1
        · rw [if_pos g1, (hg g1).1, (hg g1).2.1]
          unfold f_number
          by_cases z : f_mayEnd u r = 0
          · simp only [z, ↓reduceIte]
            repeat' split
            all_goals rfl
          · simp only [z, ↓reduceIte]
            repeat' split
            all_goals rfl
        · rw [if_neg g1, (hng g1).1, (hng g1).2.1]
          unfold f_number
          by_cases z : f_mayEnd u r = 0
          · simp only [z, ↓reduceIte]
            repeat' split
            all_goals rfl
          · simp only [z, ↓reduceIte]
            repeat' split
            all_goals rfl
      · rw [if_pos (Int32.not_lt.mp fun q => b ((i1lt x0).2.mpr q)), if_pos rfl, if_neg b]
  · refine ⟨fun _ => trivial, fun a => ?_⟩
    obtain ⟨r, hr, rfl⟩ := rg_k a
    obtain ⟨s, hu⟩ := h
    have g1 : g_mayEnd u (nI r).toNatClampNeg := by rw [clp (by omega)]; exact gd_mayEnd hu hr
    have g2 : vp_in (nI r) 2 := vp_in_nI hr (by decide)
    repeat' first | exact trivial | exact g1 | exact g2 | apply And.intro | intro _
  · refine ⟨fun _ => trivial, fun a => ⟨fun b => ?_, fun _ => trivial⟩⟩
    obtain ⟨r, hr, rfl⟩ := k2 a b
    have g1 : g_m_mayEnd (up2 v 0 0 0) (nI r).toNatClampNeg := by rw [clp (by omega)]; exact gd_m_mayEnd hs hr
    have g2 : vp_in (nI r) 2 := vp_in_nI hr (by decide)
    repeat' first | exact trivial | exact g1 | exact g2 | apply And.intro | intro _
theorem op_state (h : RelT u v) (x : Int32) : f_state u x = (f_m_state v x).1 ∧ RelT u (f_m_state v x).2 := by
  have h0 := RelT_thr h
  have e2 : (f_m_state v x).2 = up2 v 0 0 0 := by
    simp only [f_m_state, apply_ite Prod.snd, ite_self]
  refine ⟨?_, by rw [e2]; exact h0⟩
  obtain ⟨s, hs⟩ := h0
  obtain ⟨g1, g2, g3, g4, g5, -⟩ := hs.2.2.1
  unfold f_state f_m_state f_number
  rw [g1, g2, g3, g4, g5]
  by_cases z : u 0 2 = 0
  · simp only [z, ↓reduceIte]
    repeat' split
    all_goals rfl
  · simp only [z, ↓reduceIte]
    repeat' split
    all_goals rfl
-- check
theorem ck_all : ∀ (n i : Nat) (u : St), i + n = 8 → ∃ L, f_check_2 n i u = f_check_2 0 8 L ∧ (∀ g j, ¬ g = 2 → L g j = u g j) ∧ (∀ j, i ≤ j → j < 8 → L 2 j = f_toldLight u j) ∧ ∀ j, j < i → L 2 j = u 2 j := by
  intro n
  induction n with
  | zero => intro i u hi; obtain rfl : i = 8 := by omega
            exact ⟨u, rfl, fun _ _ _ => rfl, fun j a b => absurd b (by omega), fun _ _ => rfl⟩
  | succ n ih =>
    intro i u hi
    obtain ⟨L, h1, h3, h4, h5⟩ := ih (i + 1) (up2 u 2 i (f_toldLight u i)) (by omega)
    refine ⟨L, h1, fun g j q => by rw [h3 g j q, up2_off _ _ (by omega)], fun j a b => ?_, fun j a => by rw [h5 j (by omega), up2_off _ _ (by omega)]⟩
    by_cases e : j = i
    · subst e; rw [h5 j (by omega)]; exact up2_s _ _ _ _
    · rw [h4 j (by omega) b]
      unfold f_toldLight
      rw [up2_off _ _ (by omega), up2_off _ _ (by omega)]
theorem told_on (h : Rel s c u v) {k : Nat} (hk : k < 8) (ht : ¬ f_toldLight u k = 0) : u 30 (k / 4) = nI k ∧ k % 4 / 2 = s := by
  unfold f_toldLight at ht
  by_cases a : u 30 (k / 4) = nI k
  · refine ⟨a, ?_⟩
    rw [if_pos a] at ht
    by_cases b : u 31 (k / 4) = 0
    · rw [b, if_neg (by decide), if_neg (by decide)] at ht; exact absurd rfl ht
    · obtain ⟨j, hj, ej, -, es⟩ := green_k h (r := k / 4) (by omega) b
      have : j = k := (nI_eq (by omega) (by omega)).mp (ej.symm.trans a)
      subst this; exact es
  · rw [if_neg a] at ht; exact absurd rfl ht
theorem way_same : ∀ p, p < 8 → ∀ q, q < 8 → ¬ p / 4 = q / 4 → p % 4 / 2 = q % 4 / 2 → f_areInWay p q = 0 := by decide +kernel
theorem op_check (h : RelT u v) : OK (f_check u) (f_m_check v) := by
  have h0 := RelT_thr h
  obtain ⟨L, l1, l3, l4, -⟩ := ck_all 8 0 u rfl
  obtain ⟨s, hs⟩ := h0
  have hL : Rel s (u 0 2) L (up2 v 0 0 0) := Rel_lights hs l3
  have e : f_check u = f_check_2 0 8 L := l1
  have z : f_anyInTheWay L = 0 := by
    rcases aw2 L 8 0 rfl with ⟨y, -⟩ | ⟨-, p, q, a, b, d1, d2, d3⟩
    · exact y
    · exfalso
      rw [l4 p (Nat.zero_le _) (by omega)] at d1
      rw [l4 q (Nat.zero_le _) b] at d2
      obtain ⟨p1, p2⟩ := told_on hs (k := p) (by omega) d1
      obtain ⟨q1, q2⟩ := told_on hs b d2
      by_cases w : p / 4 = q / 4
      · rw [w] at p1
        have : p = q := (nI_eq (by omega) (by omega)).mp (p1.symm.trans q1)
        omega
      · exact d3 (way_same p (by omega) q b w (p2.trans q2.symm))
  have e0 : f_check_2 0 8 L = (f_number 1, L) := by
    rw [show f_check_2 0 8 L = (if f_anyInTheWay L = 0 then (f_number 1, L) else (f_number 0, L)) from rfl, if_pos z]
  unfold OK
  rw [e, e0]
  exact ⟨rfl, s, by rw [show ((f_number 1, L) : Int32 × St).2 0 2 = u 0 2 from l3 0 2 (by decide)]; exact hL⟩
-- restart
theorem fg_1 : ∀ (n i : Nat) (u : St), f_G_forget_2 n i u 1 0 = 0 ∧ f_G_forget_2 n i u 1 1 = 0 := by
  intro n
  induction n with
  | zero => intro i u; simp [f_G_forget_2, up2_at]
  | succ n ih => intro i u; exact ih (i + 1) _
theorem fg_off : ∀ (n i : Nat) (u : St) (g j : Nat), ¬ (g = 1 ∨ g = 3 ∨ g = 4) → f_G_forget_2 n i u g j = u g j := by
  intro n
  induction n with
  | zero => intro i u g j q; rw [show f_G_forget_2 0 i u = up2 (up2 u 1 1 0) 1 0 0 from rfl, up2_off _ _ (by omega), up2_off _ _ (by omega)]
  | succ n ih =>
    intro i u g j q
    rw [show f_G_forget_2 (n + 1) i u = f_G_forget_2 n (i + 1) (up2 (up2 u 3 i 0) 4 i 0) from rfl, ih _ _ _ _ q, up2_off _ _ (by omega), up2_off _ _ (by omega)]
theorem fg_34 : ∀ (n i : Nat) (u : St) (j : Nat), i + n = 8 → (j < i → f_G_forget_2 n i u 3 j = u 3 j ∧ f_G_forget_2 n i u 4 j = u 4 j) ∧ (i ≤ j → j < 8 → f_G_forget_2 n i u 3 j = 0 ∧ f_G_forget_2 n i u 4 j = 0) := by
  intro n
  induction n with
  | zero =>
    intro i u j hi
    refine ⟨fun _ => ?_, fun a b => absurd b (by omega)⟩
    rw [show f_G_forget_2 0 i u = up2 (up2 u 1 1 0) 1 0 0 from rfl]
    exact ⟨by rw [up2_off _ _ (by omega), up2_off _ _ (by omega)], by rw [up2_off _ _ (by omega), up2_off _ _ (by omega)]⟩
  | succ n ih =>
    intro i u j hi
    rw [show f_G_forget_2 (n + 1) i u = f_G_forget_2 n (i + 1) (up2 (up2 u 3 i 0) 4 i 0) from rfl]
    obtain ⟨z1, z2⟩ := ih (i + 1) (up2 (up2 u 3 i 0) 4 i 0) j (by omega)
    refine ⟨fun a => ?_, fun a b => ?_⟩
    · obtain ⟨y1, y2⟩ := z1 (by omega)
      rw [y1, y2]
      exact ⟨by rw [up2_off _ _ (by omega), up2_off _ _ (by omega)], by rw [up2_off _ _ (by omega), up2_off _ _ (by omega)]⟩
    · by_cases e : j = i
      · subst e
        obtain ⟨y1, y2⟩ := z1 (by omega)
        rw [y1, y2]
        exact ⟨by rw [up2_off _ _ (by omega)]; exact up2_s _ _ _ _, up2_s _ _ _ _⟩
      · exact z2 (by omega) b
theorem rs_all : ∀ (n i : Nat) (v : St), i + n = 8 → (f_m_restart_61 n i v).1 = 1 ∧ (∀ g j, ¬ (g = 24 ∨ g = 25) → (f_m_restart_61 n i v).2 g j = v g j) ∧ ∀ j, (j < i → (f_m_restart_61 n i v).2 24 j = v 24 j ∧ (f_m_restart_61 n i v).2 25 j = v 25 j) ∧ (i ≤ j → j < 8 → (f_m_restart_61 n i v).2 24 j = -1 ∧ (f_m_restart_61 n i v).2 25 j = 0) := by
  intro n
  induction n with
  | zero => intro i v hi; exact ⟨rfl, fun _ _ _ => rfl, fun j => ⟨fun _ => ⟨rfl, rfl⟩, fun a b => absurd b (by omega)⟩⟩
  | succ n ih =>
    intro i v hi
    rw [show f_m_restart_61 (n + 1) i v = f_m_restart_61 n (i + 1) (up2 (up2 v 24 i (-1)) 25 i 0) from rfl]
    obtain ⟨z1, z2, z3⟩ := ih (i + 1) (up2 (up2 v 24 i (-1)) 25 i 0) (by omega)
    refine ⟨z1, fun g j q => by rw [z2 g j q, up2_off _ _ (by omega), up2_off _ _ (by omega)], fun j => ⟨fun a => ?_, fun a b => ?_⟩⟩
    · obtain ⟨y1, y2⟩ := (z3 j).1 (by omega)
      rw [y1, y2]
      exact ⟨by rw [up2_off _ _ (by omega), up2_off _ _ (by omega)], by rw [up2_off _ _ (by omega), up2_off _ _ (by omega)]⟩
    · by_cases e : j = i
      · subst e
        obtain ⟨y1, y2⟩ := (z3 j).1 (by omega)
        rw [y1, y2]
        exact ⟨by rw [up2_off _ _ (by omega)]; exact up2_s _ _ _ _, up2_s _ _ _ _⟩
      · exact (z3 j).2 (by omega) b
theorem op_restart (h : RelT u v) : OK (f_restart u) (f_m_restart v) := by
  have h0 := RelT_thr h
  obtain ⟨s, hs⟩ := h0
  obtain ⟨g1, g2, g3, g4, g5, g6, g7, g8, g9⟩ := id hs.2.2.1
  unfold OK f_restart f_m_restart f_isFlashing
  rw [g5]
  by_cases a : u 1 0 = 0
  · rw [if_pos a, if_pos a, if_pos rfl]; exact ⟨rfl, s, hs⟩
  · rw [if_neg a, if_neg a, if_neg i10]
    have eU : f_restart_11 2 0 u = (1, f_G_forget_2 8 0 (up2 (up2 (up2 (f_R_goDark (up2 (f_R_goDark u 0) 35 0 (-1)) 1) 35 1 (-1)) 0 2 0) 0 1 0)) := rfl
    have eV : ∀ w, f_m_restart_36 2 0 w = f_m_restart_61 8 0 (up2 (f_m_goDark (up2 (f_m_goDark w 0) 12 0 (-1)) 1) 12 1 (-1)) := fun _ => rfl
    rw [eU, eV]
    generalize hX : up2 (up2 (up2 (f_R_goDark (up2 (f_R_goDark u 0) 35 0 (-1)) 1) 35 1 (-1)) 0 2 0) 0 1 0 = X
    generalize hY : up2 (f_m_goDark (up2 (f_m_goDark (up2 (up2 (up2 (up2 (up2 v 0 0 0) 0 23 0) 0 21 0) 0 20 0) 0 26 0) 0) 12 0 (-1)) 1) 12 1 (-1) = Y
    obtain ⟨y1, y2, y3⟩ := rs_all 8 0 Y rfl
    refine ⟨y1.symm, 0, ?_⟩
    have xo : ∀ g j, ¬ (g = 0 ∨ g = 1 ∨ g = 3 ∨ g = 4) → ¬ (30 ≤ g ∧ g ≤ 37) → f_G_forget_2 8 0 X g j = u g j := by
      intro g j q1 q2
      rw [fg_off 8 0 X g j (by omega), ← hX, up2_off _ _ (by omega), up2_off _ _ (by omega), up2_off _ _ (by omega), dark_off (by omega), up2_off _ _ (by omega), dark_off (by omega)]
    have yo : ∀ g j, ¬ (g = 0 ∨ g = 24 ∨ g = 25) → ¬ (11 ≤ g ∧ g ≤ 18) → (f_m_restart_61 8 0 Y).2 g j = up2 v 0 0 0 g j := by
      intro g j q1 q2
      rw [y2 g j (by omega), ← hY, up2_off _ _ (by omega), m_dark_off (by omega), up2_off _ _ (by omega), m_dark_off (by omega), up2_off _ _ (by omega), up2_off _ _ (by omega), up2_off _ _ (by omega), up2_off _ _ (by omega)]
    have x0 : ∀ j, f_G_forget_2 8 0 X 0 j = (if j = 1 then 0 else if j = 2 then 0 else u 0 j) := by
      intro j
      rw [fg_off 8 0 X 0 j (by omega), ← hX]
      by_cases q1 : j = 1
      · subst q1; rw [up2_s]; rfl
      · rw [up2_off _ _ (by omega), if_neg q1]
        by_cases q2 : j = 2
        · subst q2; rw [up2_s]; rfl
        · rw [up2_off _ _ (by omega), if_neg q2, up2_off _ _ (by omega), dark_off (by omega), up2_off _ _ (by omega), dark_off (by omega)]
    have y0 : ∀ j, (f_m_restart_61 8 0 Y).2 0 j = (if j = 26 then 0 else if j = 20 then 0 else if j = 21 then 0 else if j = 23 then 0 else up2 v 0 0 0 0 j) := by
      intro j
      rw [y2 0 j (by omega), ← hY, up2_off _ _ (by omega), m_dark_off (by omega), up2_off _ _ (by omega), m_dark_off (by omega)]
      simp only [up2_at, true_and]
    have xr : ∀ r, r < 2 → RR 0 0 (f_G_forget_2 8 0 X) (f_m_restart_61 8 0 Y).2 r := by
      intro r hr
      have k : ∀ g, 30 ≤ g → g ≤ 37 → f_G_forget_2 8 0 X g r = (if g = 30 then -1 else if g = 35 then -1 else 0) := by
        intro g a1 a2
        rw [fg_off 8 0 X g r (by omega), ← hX, up2_off _ _ (by omega), up2_off _ _ (by omega)]
        rcases (show r = 0 ∨ r = 1 by omega) with rfl | rfl
        · rw [up2_off _ _ (by omega), dark_off (by omega)]
          rcases (show g = 30 ∨ g = 31 ∨ g = 32 ∨ g = 33 ∨ g = 34 ∨ g = 35 ∨ g = 36 ∨ g = 37 by omega) with rfl | rfl | rfl | rfl | rfl | rfl | rfl | rfl <;> simp [f_R_goDark, f_R_enter, up2_at]
        · rcases (show g = 30 ∨ g = 31 ∨ g = 32 ∨ g = 33 ∨ g = 34 ∨ g = 35 ∨ g = 36 ∨ g = 37 by omega) with rfl | rfl | rfl | rfl | rfl | rfl | rfl | rfl <;> simp [f_R_goDark, f_R_enter, up2_at]
      have kv : ∀ g, 11 ≤ g → g ≤ 18 → ¬ g = 15 → ¬ g = 16 → (f_m_restart_61 8 0 Y).2 g r = (if g = 11 then -1 else if g = 12 then -1 else 0) := by
        intro g a1 a2 a3 a4
        rw [y2 g r (by omega), ← hY]
        rcases (show r = 0 ∨ r = 1 by omega) with rfl | rfl
        · rw [up2_off _ _ (by omega), m_dark_off (by omega)]
          rcases (show g = 11 ∨ g = 12 ∨ g = 13 ∨ g = 14 ∨ g = 17 ∨ g = 18 by omega) with rfl | rfl | rfl | rfl | rfl | rfl <;> simp [f_m_goDark, up2_at]
        · rcases (show g = 11 ∨ g = 12 ∨ g = 13 ∨ g = 14 ∨ g = 17 ∨ g = 18 by omega) with rfl | rfl | rfl | rfl | rfl | rfl <;> simp [f_m_goDark, up2_at]
      exact RR_of (mv := -1) (ph := 0) (ag := 0) (lf := 0) (pr := 0) (nx := -1) (wk := 0) (cl := 0) (k 30 (by decide) (by decide)) (k 31 (by decide) (by decide)) (k 32 (by decide) (by decide)) (k 33 (by decide) (by decide)) (k 34 (by decide) (by decide)) (k 35 (by decide) (by decide)) (k 36 (by decide) (by decide)) (k 37 (by decide) (by decide)) (kv 11 (by decide) (by decide) (by decide) (by decide)) (kv 13 (by decide) (by decide) (by decide) (by decide)) (kv 14 (by decide) (by decide) (by decide) (by decide)) (kv 12 (by decide) (by decide) (by decide) (by decide)) (kv 17 (by decide) (by decide) (by decide) (by decide)) (kv 18 (by decide) (by decide) (by decide) (by decide)) (fun q => absurd q (by decide)) (fun _ => ⟨rfl, rfl, rfl, rfl⟩) (by decide) (Or.inl rfl) (fun _ => rfl) (fun q => absurd rfl q) (Or.inl rfl) (fun q => absurd q (by decide))
    have e02 : f_G_forget_2 8 0 X 0 2 = 0 := x0 2
    show Rel 0 (f_G_forget_2 8 0 X 0 2) (f_G_forget_2 8 0 X) (f_m_restart_61 8 0 Y).2
    rw [e02]
    refine ⟨by decide, x0 1, ?_, fun k hk => RM_c (hs.2.2.2.1 k hk) (fun g a b => xo g k (by omega) (by omega)) (fun g a b => yo g k (by omega) (by omega)), fun k hk => RT_c (hs.2.2.2.2.1 k hk) (fun t => xo _ t (by omega) (by omega)) (fun j => yo 1 j (by omega) (by omega)), xr, fun r hr => RX_c (hs.2.2.2.2.2.2.1 r hr) (fun t => xo _ t (by omega) (by omega)) (fun j => yo 10 j (by omega) (by omega)), fun k hk => ?_⟩
    · obtain ⟨f1, f2⟩ := fg_1 8 0 X
      unfold RG
      rw [x0 0, x0 1, x0 2, x0 3, f1, f2, y0 19, y0 20, y0 21, y0 22, y0 23, y0 26]
      exact ⟨g1, rfl, rfl, g4, rfl, rfl, Or.inl rfl, Or.inl rfl, Or.inl rfl⟩
    · obtain ⟨f3, f4⟩ := (fg_34 8 0 X k rfl).2 (Nat.zero_le _) hk
      obtain ⟨w1, w2⟩ := (y3 k).2 (Nat.zero_le _) hk
      unfold RS
      rw [f3, f4, w1, w2]
      decide
end PQs

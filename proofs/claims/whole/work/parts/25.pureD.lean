section PP
variable {s : Nat} {c : Int32} {u v : St}
theorem fits_n (x : Int32) : ∀ t, t < 7 → f_m_fits (nI t) x = if x < jk_lo t then 0 else if jk_hi t < x then 0 else 1 := by
  intro t ht
  rcases (show t = 0 ∨ t = 1 ∨ t = 2 ∨ t = 3 ∨ t = 4 ∨ t = 5 ∨ t = 6 by omega) with rfl | rfl | rfl | rfl | rfl | rfl | rfl
  · unfold f_m_fits; rw [if_pos (by decide)]; rfl
  · unfold f_m_fits; rw [if_neg (by decide), if_pos (by decide)]; rfl
  · unfold f_m_fits; rw [if_neg (by decide), if_neg (by decide), if_pos (by decide)]; rfl
  · unfold f_m_fits; rw [if_neg (by decide), if_neg (by decide), if_neg (by decide), if_pos (by decide)]; rfl
  · unfold f_m_fits; rw [if_neg (by decide), if_neg (by decide), if_neg (by decide), if_neg (by decide), if_pos (by decide)]; rfl
  · unfold f_m_fits; rw [if_neg (by decide), if_neg (by decide), if_neg (by decide), if_neg (by decide), if_neg (by decide), if_pos (by decide)]; rfl
  · unfold f_m_fits; rw [if_neg (by decide), if_neg (by decide), if_neg (by decide), if_neg (by decide), if_neg (by decide), if_neg (by decide), if_pos (by decide)]; rfl
theorem fits_out {x y : Int32} (h : x < 0 ∨ ¬ x < 7) : f_m_fits x y = 0 := by
  have n : ∀ k : Int32, ¬ k < 0 → k < 7 → ¬ x = k := by
    rintro k h1 h2 rfl
    rcases h with h | h
    · exact h1 h
    · exact h h2
  unfold f_m_fits
  rw [if_neg (n 0 (by decide) (by decide)), if_neg (n 1 (by decide) (by decide)), if_neg (n 2 (by decide) (by decide)), if_neg (n 3 (by decide) (by decide)), if_neg (n 4 (by decide) (by decide)), if_neg (n 5 (by decide) (by decide)), if_neg (n 6 (by decide) (by decide))]
theorem Rel_set (h : Rel s c u v) {k t : Nat} (hk : k < 8) (ht : t < 7) {x : Int32} (h1 : jk_lo t ≤ x) (h2 : x ≤ jk_hi t) : Rel s c (up2 u (20 + k) t x) (up2 v 1 (7 * k + t) x) := by
  obtain ⟨a1, a2, a3, a4, a5, a6, a7, a8⟩ := h
  have hu : ∀ g j, ¬ (20 ≤ g ∧ g ≤ 27) → up2 u (20 + k) t x g j = u g j := fun g j q => up2_off _ _ (by omega)
  have hv : ∀ g j, ¬ g = 1 → up2 v 1 (7 * k + t) x g j = v g j := fun g j q => up2_off _ _ (by omega)
  refine ⟨a1, by rw [hu 0 1 (by omega)]; exact a2, RG_c a3 (fun j => hu _ _ (by omega)) (fun j => hu _ _ (by omega)) (fun j _ => hv _ _ (by omega)), fun i hi => RM_c (a4 i hi) (fun g a b => hu _ _ (by omega)) (fun g a b => hv _ _ (by omega)), fun i hi => ?_, fun r hr => RR_c (a6 r hr) (fun g a b => hu _ _ (by omega)) (fun g a b => hv _ _ (by omega)), fun r hr => RX_c (a7 r hr) (fun j => hu _ _ (by omega)) (fun j => hv _ _ (by omega)), fun i hi => RS_c (a8 i hi) (hu _ _ (by omega)) (hu _ _ (by omega)) (hv _ _ (by omega)) (hv _ _ (by omega))⟩
  intro j hj
  by_cases e : i = k ∧ j = t
  · obtain ⟨rfl, rfl⟩ := e
    rw [up2_s, up2_s]; exact ⟨rfl, h1, h2⟩
  · rw [up2_off _ _ (by omega), up2_off _ _ (by omega)]; exact a5 i hi j hj
theorem op_set (h : RelT u v) (x0 x1 x2 : Int32) : OK (f_set u x0 x1 x2) (f_m_set v x0 x1 x2) ∧ g_set u x0 x1 x2 ∧ g_m_set v x0 x1 x2 := by
  have h0 := RelT_thr h
  have k7 : ¬ x1 < 0 → x1 < 7 → ∃ t, t < 7 ∧ x1 = nI t := by
    intro a b
    rcases pk_ix x1 (n := 7) (by decide) with z | z | z
    · exact absurd z a
    · exact absurd b (Int32.not_lt.mpr (show (7 : Int32) ≤ x1 from z))
    · exact z
  refine ⟨?_, ?_, ?_⟩
  · unfold OK f_set f_m_set
    rw [m_mv]
    by_cases a : f_isMovement x0 = 0
    · rw [if_pos a, if_pos a]; exact ⟨rfl, h0⟩
    · rw [if_neg a, if_neg a]
      obtain ⟨k, hk, rfl⟩ := mv_k a
      by_cases b : x1 < 0
      · rw [if_pos b, if_pos (fits_out (Or.inl b))]; exact ⟨rfl, h0⟩
      · rw [if_neg b]
        by_cases d : x1 < 7
        · obtain ⟨t, ht, rfl⟩ := k7 b d
          rw [if_pos d, fits_n x2 t ht, clp (by omega), clp (by omega)]
          by_cases e : x2 < jk_lo t
          · rw [if_pos e, if_pos e, if_pos rfl]; exact ⟨rfl, h0⟩
          · rw [if_neg e, if_neg e]
            by_cases f : x2 ≤ jk_hi t
            · rw [if_pos f, if_neg (Int32.not_lt.mpr f), if_neg i10, show (7 : Int32) = nI 7 from rfl, pk_mul, nI_add, clp (by omega)]
              obtain ⟨s, hs⟩ := h0
              exact ⟨rfl, RelT_of (Rel_set hs hk ht (Int32.not_lt.mp e) f) (by dsimp only; rw [up2_off _ _ (by omega)])⟩
            · rw [if_neg f, if_pos (Int32.not_le.mp f), if_pos rfl]; exact ⟨rfl, h0⟩
        · rw [if_neg d, if_pos (fits_out (Or.inr d))]; exact ⟨rfl, h0⟩
  · refine ⟨fun _ => trivial, fun a => ⟨fun _ => trivial, fun b => ⟨fun d => ⟨?_, fun _ => trivial, fun _ => ⟨fun _ => ?_, fun _ => trivial⟩⟩, fun _ => trivial⟩⟩⟩
    · obtain ⟨t, ht, rfl⟩ := k7 b d; exact vp_in_nI ht (by decide)
    · obtain ⟨k, hk, rfl⟩ := mv_k a; exact vp_in_nI hk (by decide)
  · refine ⟨fun _ => trivial, fun a => ⟨fun _ => trivial, fun e => ?_⟩⟩
    obtain ⟨k, hk, rfl⟩ := mv_k a
    have b : ¬ x1 < 0 := fun q => e (fits_out (Or.inl q))
    have d : x1 < 7 := Decidable.byContradiction fun q => e (fits_out (Or.inr q))
    obtain ⟨t, ht, rfl⟩ := k7 b d
    rw [show (7 : Int32) = nI 7 from rfl, pk_mul, nI_add]
    exact vp_in_nI (by omega) (by decide)
-- exchange
theorem Rel_ex (h : Rel s c u v) {r t : Nat} (hr : r < 2) (ht : t < 2) {x : Int32} (hx : bl x) : Rel s c (up2 u (40 + r) t x) (up2 v 10 (2 * r + t) x) := by
  obtain ⟨a1, a2, a3, a4, a5, a6, a7, a8⟩ := h
  have hu : ∀ g j, ¬ (40 ≤ g ∧ g ≤ 41) → up2 u (40 + r) t x g j = u g j := fun g j q => up2_off _ _ (by omega)
  have hv : ∀ g j, ¬ g = 10 → up2 v 10 (2 * r + t) x g j = v g j := fun g j q => up2_off _ _ (by omega)
  refine ⟨a1, by rw [hu 0 1 (by omega)]; exact a2, RG_c a3 (fun j => hu _ _ (by omega)) (fun j => hu _ _ (by omega)) (fun j _ => hv _ _ (by omega)), fun i hi => RM_c (a4 i hi) (fun g a b => hu _ _ (by omega)) (fun g a b => hv _ _ (by omega)), fun i hi => RT_c (a5 i hi) (fun j => hu _ _ (by omega)) (fun j => hv _ _ (by omega)), fun q hq => RR_c (a6 q hq) (fun g a b => hu _ _ (by omega)) (fun g a b => hv _ _ (by omega)), fun q hq => ?_, fun i hi => RS_c (a8 i hi) (hu _ _ (by omega)) (hu _ _ (by omega)) (hv _ _ (by omega)) (hv _ _ (by omega))⟩
  intro j hj
  by_cases e : q = r ∧ j = t
  · obtain ⟨rfl, rfl⟩ := e
    rw [up2_s, up2_s]; exact ⟨rfl, hx⟩
  · rw [up2_off _ _ (by omega), up2_off _ _ (by omega)]; exact a7 q hq j hj
theorem isOf_k : ∀ k, k < 8 → ∀ r, r < 2 → ∀ t, t < 2 → f_m_isOf (nI k) (nI r) (nI t) = if k / 4 = r ∧ k % 4 / 2 = t then 1 else 0 := by decide +kernel
theorem isOf_m : ∀ r, r < 2 → ∀ t, t < 2 → f_m_isOf (-1) (nI r) (nI t) = 0 := by decide +kernel
theorem isOf_iff {r t : Nat} (hr : r < 2) (ht : t < 2) {x : Int32} (hx : x = -1 ∨ ∃ k, k < 8 ∧ x = nI k) : f_m_isOf x (nI r) (nI t) = 0 ↔ ¬ (x = nI (fi u r t) ∨ x = nI (se u r t)) := by
  have f1 := fi_lt u hr ht
  have s1 := se_lt u hr ht
  rcases hx with rfl | ⟨k, hk, rfl⟩
  · rw [isOf_m r hr t ht]
    refine ⟨fun _ q => ?_, fun _ => rfl⟩
    rcases q with q | q
    · exact (ons_pos ht hr (ons_fi u r t)).2.1 q.symm
    · exact (ons_pos ht hr (ons_se u r t)).2.1 q.symm
  · rw [isOf_k k hk r hr t ht, nI_eq (by omega) (by omega), nI_eq (by omega) (by omega)]
    have cov : (k / 4 = r ∧ k % 4 / 2 = t) ↔ (k = fi u r t ∨ k = se u r t) := by
      unfold fi se
      split <;> omega
    rw [← cov]
    by_cases a : k / 4 = r ∧ k % 4 / 2 = t
    · rw [if_pos a]; exact ⟨fun q => absurd q i10, fun q => absurd a q⟩
    · rw [if_neg a]; exact ⟨fun _ => a, fun _ => rfl⟩
theorem now_or (h : Rel s c u v) {r : Nat} (hr : r < 2) : (u 30 r = -1 ∨ ∃ k, k < 8 ∧ u 30 r = nI k) ∧ (u 35 r = -1 ∨ ∃ k, k < 8 ∧ u 35 r = nI k) := by
  obtain ⟨-, -, -, -, -, a, b, d, -⟩ := h.2.2.2.2.2.1 r hr
  constructor
  · by_cases z : u 31 r = 0
    · exact Or.inl (a z)
    · obtain ⟨k, hk, e, -⟩ := ons_k h.1 hr (b z); exact Or.inr ⟨k, hk, e⟩
  · rcases d with d | d
    · exact Or.inl d
    · obtain ⟨k, hk, e, -⟩ := ons_k h.1 hr d; exact Or.inr ⟨k, hk, e⟩
theorem busy_n (u : St) (r : Nat) (x : Int32) : f_R_isBusyWith u r x = 0 ↔ ¬ (u 30 r = x ∨ u 35 r = x) := by
  unfold f_R_isBusyWith
  by_cases a : u 30 r = x
  · rw [if_pos a]; exact ⟨fun q => absurd q i10, fun q => absurd (Or.inl a) q⟩
  · rw [if_neg a]
    by_cases b : u 35 r = x
    · rw [if_pos b]; exact ⟨fun q => absurd q i10, fun q => absurd (Or.inr b) q⟩
    · rw [if_neg b]; exact ⟨fun _ q => q.elim a b, fun _ => rfl⟩
theorem op_exchange (h : RelT u v) (x0 x1 : Int32) : OK (f_exchange u x0 x1) (f_m_exchange v x0 x1) ∧ g_exchange u x0 x1 ∧ g_m_exchange v x0 x1 := by
  have h0 := RelT_thr h
  have k2 : ∀ x : Int32, ¬ x < 0 → x < 2 → ∃ t, t < 2 ∧ x = nI t := by
    intro x a b
    rcases pk_ix x (n := 2) (by decide) with z | z | z
    · exact absurd z a
    · exact absurd b (Int32.not_lt.mpr (show (2 : Int32) ≤ x from z))
    · exact z
  have rg : f_isRing x0 = 0 ↔ (x0 < 0 ∨ (1 : Int32) < x0) := by
    unfold f_isRing
    by_cases a : x0 < 0
    · rw [if_pos a]; exact ⟨fun _ => Or.inl a, fun _ => rfl⟩
    · rw [if_neg a]
      by_cases b : (2 : Int32) ≤ x0
      · rw [if_pos b]; exact ⟨fun _ => Or.inr ((i1lt x0).1.mpr b), fun _ => rfl⟩
      · rw [if_neg b]; exact ⟨fun q => absurd q i10, fun q => q.elim (fun w => absurd w a) (fun w => absurd ((i1lt x0).1.mp w) b)⟩
  refine ⟨?_, ?_, ?_⟩
  · unfold OK f_exchange f_m_exchange
    by_cases a : f_isRing x0 = 0
    · rw [if_pos a]
      by_cases a1 : x0 < 0
      · rw [if_pos a1]; exact ⟨rfl, h0⟩
      · rw [if_neg a1, if_pos ((rg.mp a).elim (fun w => absurd w a1) id)]; exact ⟨rfl, h0⟩
    · rw [if_neg a, if_neg (fun q => a (rg.mpr (Or.inl q))), if_neg (fun q => a (rg.mpr (Or.inr q)))]
      obtain ⟨r, hr, rfl⟩ := rg_k a
      by_cases b : x1 < 0
      · rw [if_pos b, if_pos b]; exact ⟨rfl, h0⟩
      · rw [if_neg b, if_neg b]
        by_cases d : x1 < 2
        · rw [if_pos d, if_neg (fun q => absurd ((i1lt x1).1.mp q) (Int32.not_le.mpr d))]
          obtain ⟨t, ht, rfl⟩ := k2 x1 b d
          obtain ⟨s, hs⟩ := h0
          have e := (hs.2.2.2.2.2.1 r hr).1
          obtain ⟨n1, n2⟩ := now_or hs hr
          have p1 := isOf_iff (u := u) hr ht n1
          have p2 := isOf_iff (u := u) hr ht n2
          have xx := (hs.2.2.2.2.2.2.1 r hr t ht).1
          rw [clp (by omega), clp (by omega), e.1, e.2.2.2.1, first_n u hr ht, second_n u hr ht, show (2 : Int32) = nI 2 from rfl, pk_mul, nI_add, clp (by omega), xx]
          have q1 := busy_n u r (nI (fi u r t))
          have q2 := busy_n u r (nI (se u r t))
          by_cases w : f_R_isBusyWith u r (nI (fi u r t)) = 0 ∧ f_R_isBusyWith u r (nI (se u r t)) = 0
          · have w1 := q1.mp w.1
            have w2 := q2.mp w.2
            rw [if_pos w.1, if_pos w.2, if_pos (p1.mpr (fun z => z.elim (fun y => w1 (Or.inl y)) (fun y => w2 (Or.inl y)))), if_pos (p2.mpr (fun z => z.elim (fun y => w1 (Or.inr y)) (fun y => w2 (Or.inr y))))]
            by_cases f : u (40 + r) t = 0
            · rw [if_pos f, if_pos f]; exact ⟨rfl, RelT_of (Rel_ex hs hr ht (Or.inr rfl)) (by dsimp only; rw [up2_off _ _ (by omega)])⟩
            · rw [if_neg f, if_neg f]; exact ⟨rfl, RelT_of (Rel_ex hs hr ht (Or.inl rfl)) (by dsimp only; rw [up2_off _ _ (by omega)])⟩
          · have lhs : (if f_R_isBusyWith u r (nI (fi u r t)) = 0 then (if f_R_isBusyWith u r (nI (se u r t)) = 0 then (if u (40 + r) t = 0 then ((1 : Int32), up2 u (40 + r) t 1) else (1, up2 u (40 + r) t 0)) else (0, u)) else (0, u)) = (0, u) := by
              by_cases y1 : f_R_isBusyWith u r (nI (fi u r t)) = 0
              · rw [if_pos y1, if_neg (fun y2 => w ⟨y1, y2⟩)]
              · rw [if_neg y1]
            have rhs : ∀ A : Int32 × St, (if f_m_isOf (u 30 r) (nI r) (nI t) = 0 then (if f_m_isOf (u 35 r) (nI r) (nI t) = 0 then A else (0, up2 v 0 0 0)) else (0, up2 v 0 0 0)) = (0, up2 v 0 0 0) := by
              intro A
              by_cases y1 : f_m_isOf (u 30 r) (nI r) (nI t) = 0
              · rw [if_pos y1]
                by_cases y2 : f_m_isOf (u 35 r) (nI r) (nI t) = 0
                · exfalso
                  have z1 := p1.mp y1
                  have z2 := p2.mp y2
                  exact w ⟨q1.mpr (fun z => z.elim (fun y => z1 (Or.inl y)) (fun y => z2 (Or.inl y))), q2.mpr (fun z => z.elim (fun y => z1 (Or.inr y)) (fun y => z2 (Or.inr y)))⟩
                · rw [if_neg y2]
              · rw [if_neg y1]
            rw [lhs, rhs]; exact ⟨rfl, s, hs⟩
        · rw [if_neg d, if_pos ((i1lt x1).1.mpr (Int32.not_lt.mp d))]; exact ⟨rfl, h0⟩
  · refine ⟨fun _ => trivial, fun a => ⟨fun _ => trivial, fun b => ⟨fun d => ?_, fun _ => trivial⟩⟩⟩
    obtain ⟨r, hr, rfl⟩ := rg_k a
    obtain ⟨t, ht, rfl⟩ := k2 x1 b d
    exact ⟨vp_in_nI hr (by decide), gd_first u ht, fun _ => ⟨gd_second u ht, fun _ => vp_in_nI ht (by decide), fun _ => trivial⟩, fun _ => trivial⟩
  · refine ⟨fun _ => trivial, fun a => ⟨fun _ => trivial, fun a1 => ⟨fun _ => trivial, fun b => ⟨fun _ => trivial, fun d => ?_⟩⟩⟩⟩
    obtain ⟨r, hr, rfl⟩ := k2 x0 a (Int32.not_le.mp fun q => a1 ((i1lt x0).1.mpr q))
    obtain ⟨t, ht, rfl⟩ := k2 x1 b (Int32.not_le.mp fun q => d ((i1lt x1).1.mpr q))
    refine ⟨vp_in_nI hr (by decide), fun _ => ⟨fun _ => ?_, fun _ => trivial⟩, fun _ => trivial⟩
    rw [show (2 : Int32) = nI 2 from rfl, pk_mul, nI_add]
    exact vp_in_nI (by omega) (by decide)
end PP

section PV
variable {s : Nat} {c : Int32} {u v : St}
theorem i_nlt {x : Int32} (h : 0 ≤ x) : ¬ x < 0 := fun q => Int32.lt_irrefl (Int32.lt_of_lt_of_le q h)
theorem clp {j : Nat} (h : j < 1000) : (nI j).toNatClampNeg = j := nI_clamp (by omega)
theorem ons_k {s r : Nat} {x : Int32} (hs : s < 2) (hr : r < 2) (h : ons s r x) : ∃ k, k < 8 ∧ x = nI k ∧ k / 4 = r ∧ k % 4 / 2 = s := by
  rcases h with h | h
  · exact ⟨4 * r + 2 * s, by omega, h, by omega, by omega⟩
  · exact ⟨4 * r + 2 * s + 1, by omega, h, by omega, by omega⟩
theorem ons_in {s r : Nat} {x : Int32} (hs : s < 2) (hr : r < 2) (h : ons s r x) : vp_in x 8 := by
  obtain ⟨k, hk, rfl, -⟩ := ons_k hs hr h
  exact vp_in_nI hk (by decide)
theorem ons_pos {s r : Nat} {x : Int32} (hs : s < 2) (hr : r < 2) (h : ons s r x) : ¬ x < 0 ∧ ¬ x = -1 ∧ 0 ≤ x := by
  obtain ⟨k, hk, rfl, -⟩ := ons_k hs hr h
  clear h
  revert k
  decide
def fi (u : St) (r s : Nat) : Nat := 4 * r + 2 * s + (if u (40 + r) s = 0 then 0 else 1)
def se (u : St) (r s : Nat) : Nat := 4 * r + 2 * s + (if u (40 + r) s = 0 then 1 else 0)
theorem fi_lt (u : St) {r t : Nat} (hr : r < 2) (ht : t < 2) : fi u r t < 8 ∧ fi u r t / 4 = r ∧ fi u r t % 4 / 2 = t := by
  unfold fi; split <;> omega
theorem se_lt (u : St) {r t : Nat} (hr : r < 2) (ht : t < 2) : se u r t < 8 ∧ se u r t / 4 = r ∧ se u r t % 4 / 2 = t := by
  unfold se; split <;> omega
theorem ons_fi (u : St) (r t : Nat) : ons t r (nI (fi u r t)) := by
  unfold fi ons; split
  · exact Or.inl rfl
  · exact Or.inr rfl
theorem ons_se (u : St) (r t : Nat) : ons t r (nI (se u r t)) := by
  unfold se ons; split
  · exact Or.inr rfl
  · exact Or.inl rfl
theorem first_n (u : St) {r t : Nat} (hr : r < 2) (ht : t < 2) : f_R_first u r (nI t) = nI (fi u r t) := by
  unfold f_R_first fi
  rw [clp (by omega)]
  rcases (show r = 0 ∨ r = 1 by omega) with rfl | rfl <;> rcases (show t = 0 ∨ t = 1 by omega) with rfl | rfl <;> split <;> decide
theorem second_n (u : St) {r t : Nat} (hr : r < 2) (ht : t < 2) : f_R_second u r (nI t) = nI (se u r t) := by
  unfold f_R_second se
  rw [clp (by omega)]
  rcases (show r = 0 ∨ r = 1 by omega) with rfl | rfl <;> rcases (show t = 0 ∨ t = 1 by omega) with rfl | rfl <;> split <;> decide
theorem m_ix {r t : Nat} (hr : r < 2) (ht : t < 2) : nI (2 * r) + nI t = nI (2 * r + t) := nI_add _ _
theorem m_first_n (h : Rel s c u v) {r t : Nat} (hr : r < 2) (ht : t < 2) : f_m_first v r (nI t) = nI (fi u r t) := by
  unfold f_m_first fi
  rw [m_ix hr ht, clp (by omega), (h.2.2.2.2.2.2.1 r hr t ht).1]
  rcases (show r = 0 ∨ r = 1 by omega) with rfl | rfl <;> rcases (show t = 0 ∨ t = 1 by omega) with rfl | rfl <;> split <;> decide
theorem m_second_n (h : Rel s c u v) {r t : Nat} (hr : r < 2) (ht : t < 2) : f_m_second v r (nI t) = nI (se u r t) := by
  unfold f_m_second se
  rw [m_ix hr ht, clp (by omega), (h.2.2.2.2.2.2.1 r hr t ht).1]
  rcases (show r = 0 ∨ r = 1 by omega) with rfl | rfl <;> rcases (show t = 0 ∨ t = 1 by omega) with rfl | rfl <;> split <;> decide
theorem gd_first (u : St) {r t : Nat} (ht : t < 2) : g_R_first u r (nI t) := vp_in_nI ht (by decide)
theorem gd_second (u : St) {r t : Nat} (ht : t < 2) : g_R_second u r (nI t) := vp_in_nI ht (by decide)
theorem gd_m_first (v : St) {r t : Nat} (hr : r < 2) (ht : t < 2) : g_m_first v r (nI t) := by
  unfold g_m_first; rw [m_ix hr ht]; exact vp_in_nI (by omega) (by decide)
theorem gd_m_second (v : St) {r t : Nat} (hr : r < 2) (ht : t < 2) : g_m_second v r (nI t) := by
  unfold g_m_second; rw [m_ix hr ht]; exact vp_in_nI (by omega) (by decide)
theorem i10 : ¬ (1 : Int32) = 0 := by decide
theorem called_eq (h : Rel s c u v) {k : Nat} (hk : k < 8) : f_m_isCalled v k = f_isCalled u k := by
  have hm := h.2.2.2.1 k hk
  have hr := (h.2.2.2.2.2.1 (k / 4) (by omega)).1
  obtain ⟨m2, m3, m5, m4, -⟩ := hm
  unfold f_m_isCalled f_isCalled f_M_isWanted f_m_isGreen f_isGreen f_m_has f_M_has
  rw [m2, m3, m4, m5, hr.1, hr.2.1]
  have h28 := has28 (u 10 k)
  by_cases a1 : u 10 k &&& 1 = 0 <;> by_cases a4 : u 10 k &&& 4 = 0 <;> by_cases a8 : u 10 k &&& 8 = 0 <;> by_cases a16 : u 10 k &&& 16 = 0 <;>
    simp only [a4, a8, a16, and_true, true_and, and_false, false_and, iff_true, iff_false, not_false_eq_true] at h28 <;> simp [a1, a4, a8, a16, h28, i10] <;> (try (repeat' split)) <;> (try simp_all)
theorem calledb (u : St) (k : Nat) : f_isCalled u k = 0 ∨ f_isCalled u k = 1 := by
  unfold f_isCalled; repeat' split
  all_goals first | exact Or.inl rfl | exact Or.inr rfl
theorem calledOn_n (u : St) {r t : Nat} (hr : r < 2) (ht : t < 2) : f_calledOn u r (nI t) = if f_isCalled u (fi u r t) = 0 then (if f_isCalled u (se u r t) = 0 then -1 else nI (se u r t)) else nI (fi u r t) := by
  unfold f_calledOn
  rw [first_n u hr ht, second_n u hr ht, clp (by have := fi_lt u hr ht; omega), clp (by have := se_lt u hr ht; omega)]
theorem calledOf_eq (h : Rel s c u v) {r t : Nat} (hr : r < 2) (ht : t < 2) : f_m_calledOf v r (nI t) = f_calledOn u r (nI t) := by
  rw [calledOn_n u hr ht]
  unfold f_m_calledOf
  rw [m_first_n h hr ht, m_second_n h hr ht, clp (by have := fi_lt u hr ht; omega), clp (by have := se_lt u hr ht; omega), called_eq h (fi_lt u hr ht).1, called_eq h (se_lt u hr ht).1]
theorem calledOn_ons (u : St) {r t : Nat} (hr : r < 2) (ht : t < 2) : f_calledOn u r (nI t) = -1 ∨ ons t r (f_calledOn u r (nI t)) := by
  rw [calledOn_n u hr ht]
  split
  · split
    · exact Or.inl rfl
    · exact Or.inr (ons_se u r t)
  · exact Or.inr (ons_fi u r t)
theorem gd_calledOn (u : St) {r t : Nat} (hr : r < 2) (ht : t < 2) : g_calledOn u r (nI t) := by
  unfold g_calledOn
  rw [first_n u hr ht, second_n u hr ht]
  exact ⟨gd_first u ht, vp_in_nI (fi_lt u hr ht).1 (by decide), fun _ => ⟨gd_second u ht, vp_in_nI (se_lt u hr ht).1 (by decide), fun _ => trivial, fun _ => gd_second u ht⟩, fun _ => gd_first u ht⟩
theorem gd_comingAlongOn (u : St) {r t : Nat} (hr : r < 2) (ht : t < 2) : g_comingAlongOn u r (nI t) := by
  unfold g_comingAlongOn
  rw [first_n u hr ht, second_n u hr ht]
  exact ⟨gd_first u ht, vp_in_nI (fi_lt u hr ht).1 (by decide), fun _ => ⟨gd_second u ht, vp_in_nI (se_lt u hr ht).1 (by decide), fun _ => trivial, fun _ => gd_second u ht⟩, fun _ => gd_first u ht⟩
theorem gd_m_calledOf (h : Rel s c u v) {r t : Nat} (hr : r < 2) (ht : t < 2) : g_m_calledOf v r (nI t) := by
  unfold g_m_calledOf
  rw [m_first_n h hr ht, m_second_n h hr ht]
  exact ⟨gd_m_first v hr ht, gd_m_second v hr ht, vp_in_nI (fi_lt u hr ht).1 (by decide), fun _ => vp_in_nI (se_lt u hr ht).1 (by decide), fun _ => trivial⟩
theorem walk0 {a b : Int32} (h1 : 0 ≤ a) (h2 : a ≤ 100) (h3 : 0 ≤ b) (h4 : b ≤ 200) : (a + b = 0 ↔ a ≤ 0 ∧ b ≤ 0) ∧ (a ≤ 0 ↔ a = 0) ∧ (b ≤ 0 ↔ b = 0) := by
  obtain ⟨i, hi, rfl⟩ := nI_of2 (n := 100) (by decide) (i_nlt h1) h2
  obtain ⟨j, hj, rfl⟩ := nI_of2 (n := 200) (by decide) (i_nlt h3) h4
  have z : (0 : Int32) = nI 0 := rfl
  rw [nI_add, z, nI_eq (by omega) (by omega), nI_leI (by omega) (by omega), nI_leI (by omega) (by omega), nI_eq (by omega) (by omega), nI_eq (by omega) (by omega)]
  omega
theorem green_k (h : Rel s c u v) {r : Nat} (hr : r < 2) (hg : ¬ u 31 r = 0) : ∃ k, k < 8 ∧ u 30 r = nI k ∧ k / 4 = r ∧ k % 4 / 2 = s := ons_k h.1 hr ((h.2.2.2.2.2.1 r hr).2.2.2.2.2.2.1 hg)
theorem time_eq (h : Rel s c u v) {k t : Nat} (hk : k < 8) (ht : t < 7) : f_m_timeOf v k t = u (20 + k) t := by
  unfold f_m_timeOf
  exact (h.2.2.2.2.1 k hk t ht).1
theorem mayEnd_eq (h : Rel s c u v) {r : Nat} (hr : r < 2) : f_m_mayEnd v r = f_mayEnd u r := by
  obtain ⟨⟨e1, e2, e3, e4, e5, e6⟩, hg, hng, ⟨w1, w2, w3, w4⟩, -⟩ := h.2.2.2.2.2.1 r hr
  unfold f_m_mayEnd f_mayEnd f_R_mayEndGreen f_R_walking
  rw [e1, e2, e3, e5, e6]
  by_cases g1 : u 31 r = 1
  · obtain ⟨k, hk, ek, -⟩ := green_k h hr (by rw [g1]; decide)
    obtain ⟨q1, q2, -⟩ := hg g1
    obtain ⟨z1, z2, z3⟩ := walk0 w1 w2 w3 w4
    rw [if_pos g1, if_pos g1, ek, clp (by omega), time_eq h hk (by decide), time_eq h hk (by decide), q1, q2]
    by_cases a1 : u 32 r < u (20 + k) 0
    · rw [if_pos a1, if_pos a1]; rfl
    · rw [if_neg a1, if_neg a1]
      by_cases a2 : u 36 r ≤ 0
      · by_cases a3 : u 37 r ≤ 0
        · rw [if_pos (z1.mpr ⟨a2, a3⟩), if_pos a2, if_pos a3, if_pos rfl]
          by_cases a4 : u 33 r = 0
          · rw [if_pos a4]; rfl
          · rw [if_neg a4]
            by_cases a5 : u 34 r < u (20 + k) 2
            · rw [if_pos a5]; rfl
            · rw [if_neg a5]; rfl
        · rw [if_neg (fun q => a3 (z1.mp q).2), if_pos a2, if_neg a3]; rfl
      · rw [if_neg (fun q => a2 (z1.mp q).1), if_neg a2]; rfl
  · rw [if_neg g1, if_neg g1]
theorem mayEnd_green (u : St) {r : Nat} (h : ¬ f_mayEnd u r = 0) : u 31 r = 1 ∧ f_R_walking u r = 0 := by
  unfold f_mayEnd at h
  by_cases g1 : u 31 r = 1
  · refine ⟨g1, ?_⟩
    rw [if_pos g1] at h
    by_cases w : f_R_walking u r = 0
    · exact w
    · exfalso
      apply h
      unfold f_R_mayEndGreen
      rw [if_neg w]
      split <;> rfl
  · rw [if_neg g1] at h; exact absurd rfl h
theorem gd_mayEnd (h : Rel s c u v) {r : Nat} (hr : r < 2) : g_mayEnd u r := by
  refine ⟨fun g => ?_, fun _ => trivial⟩
  exact ons_in h.1 hr ((h.2.2.2.2.2.1 r hr).2.2.2.2.2.2.1 (by rw [g]; decide))
theorem gd_m_mayEnd (h : Rel s c u v) {r : Nat} (hr : r < 2) : g_m_mayEnd v r := by
  have e := (h.2.2.2.2.2.1 r hr).1
  unfold g_m_mayEnd
  rw [e.1, e.2.1]
  exact gd_mayEnd h hr
theorem light_eq (h : Rel s c u v) {k : Nat} (hk : k < 8) : f_m_lightOf v k = f_shownLight u k := by
  obtain ⟨-, -, -, -, -, -, -, m9, -, -, -, hs⟩ := h.2.2.2.1 k hk
  have hr := (h.2.2.2.2.2.1 (k / 4) (by omega)).1
  unfold f_m_lightOf f_shownLight f_toldLight
  rw [m9, hr.1, hr.2.1]
  rcases hs with e | e | e | e <;> rw [e]
  · rw [if_pos (by decide), if_pos rfl]
  all_goals rw [if_neg (by decide), if_neg (by decide)]
theorem light_v (h : Rel s c u v) {k : Nat} (hk : k < 8) : f_shownLight u k = 0 ∨ f_shownLight u k = 1 ∨ f_shownLight u k = 2 := by
  obtain ⟨-, -, -, -, -, -, -, m9, -, -, -, hs⟩ := h.2.2.2.1 k hk
  unfold f_shownLight f_toldLight
  rcases hs with e | e | e | e <;> rw [e]
  · rw [if_pos rfl]
    repeat' split
    all_goals first | exact Or.inl rfl | exact Or.inr (Or.inl rfl) | exact Or.inr (Or.inr rfl)
  · exact Or.inl (if_neg (by decide))
  · exact Or.inr (Or.inl (if_neg (by decide)))
  · exact Or.inr (Or.inr (if_neg (by decide)))
end PV

section PB
variable {s : Nat} {c : Int32} {u v : St}
theorem ro_end {u : St} {r k g i : Nat} (hq : ¬ (30 ≤ g ∧ g ≤ 37 ∧ i = r)) : f_R_advanceEnding u r k g i = u g i := by
  unfold f_R_advanceEnding f_R_advanceEnding_10 f_R_advanceEnding_36
  repeat' split
  all_goals first | (rw [dark_off hq, enter_off hq, up2_off _ _ (by omega)]; done) | (rw [dark_off hq, up2_off _ _ (by omega)]; done) | (rw [enter_off hq, up2_off _ _ (by omega)]; done) | (rw [up2_off _ _ (by omega)]; done)
theorem ro_age {u : St} {r g i : Nat} {b : Int32} (hq : ¬ (30 ≤ g ∧ g ≤ 37 ∧ i = r)) : stepR u r b g i = u g i := by
  unfold stepR
  split
  · exact ag_off (by omega)
  · split
    · rfl
    · exact ro_end hq
theorem gadv_s (u : St) (n i : Nat) (b : Int32) (h1 : ¬ u 31 i = 0 → vp_in (u 30 i) 8) (h2 : g_advanceRings_24 n (i + 1) b (stepR u i b)) : g_advanceRings_24 (n + 1) i b u := by
  unfold stepR at h2
  refine ⟨fun a => ⟨h1 (by rw [a]; decide), by rw [if_pos a] at h2; exact h2⟩, fun a => ⟨fun e => by rw [if_neg a, if_pos e] at h2; exact h2, fun e => ⟨h1 e, by rw [if_neg a, if_neg e] at h2; exact h2⟩⟩⟩
theorem st_rings (h : Rel s c u v) : Rel s c (f_advanceRings u) (f_m_ageRing (f_m_ageRing v 0) 1) ∧ g_advanceRings u ∧ (g_m_ageRing v 0 ∧ g_m_ageRing (f_m_ageRing v 0) 1) ∧ ∀ g i, ¬ (30 ≤ g ∧ g ≤ 37) → f_advanceRings u g i = u g i := by
  obtain ⟨a1, a2, a3, a4, -⟩ := st_age h (r := 0) (by decide)
  have ho := oc_c a4 8 0 0 (by decide)
  obtain ⟨b1, b2, b3, b4, -⟩ := st_age a1 (r := 1) (by decide)
  rw [ho] at b1
  obtain ⟨k1, k2⟩ := anyb u
  have e : f_advanceRings u = stepR (stepR u 0 (oc u 8 0 0)) 1 (oc u 8 0 0) := by rw [k1, adv_s, adv_s]; rfl
  refine ⟨by rw [e]; exact b1, k2 (gadv_s _ _ _ _ a3 (gadv_s _ _ _ _ b3 trivial)), ⟨a2, b2⟩, fun g i q => ?_⟩
  rw [e, ro_age (by omega), ro_age (by omega)]
-- within a side
theorem Rel35 (h : Rel s c u v) {r : Nat} (hr : r < 2) (hng : ¬ u 31 r = 1) {x : Int32} (hc : ¬ c = 1) (hx : x = -1 ∨ ons s r x) : Rel s c (up2 u 35 r x) (up2 v 12 r x) := by
  refine Rel_rg h hr (fun g i q => up2_off _ _ (by omega)) (fun g i q => up2_off _ _ (by omega)) ?_
  obtain ⟨⟨e1, e2, e3, e4, e5, e6⟩, h1, h2, hw, h3, h4, h5, h6, h7⟩ := h.2.2.2.2.2.1 r hr
  unfold RR
  simp only [up2_at, Nat.reduceEqDiff, false_and, true_and, ↓reduceIte]
  exact ⟨⟨e1, e2, e3, e5, e6⟩, fun q => absurd q hng, h2, hw, h3, h4, h5, hx, fun q => absurd q hc⟩
theorem next_neg (h : Rel s c u v) {r : Nat} (hr : r < 2) : (0 ≤ u 35 r ↔ ¬ u 35 r = -1) ∧ (u 35 r < 0 ↔ u 35 r = -1) := by
  rcases (h.2.2.2.2.2.1 r hr).2.2.2.2.2.2.2.1 with e | e
  · rw [e]; decide
  · obtain ⟨p1, p2, p3⟩ := ons_pos h.1 hr e
    exact ⟨⟨fun _ => p2, fun _ => p3⟩, ⟨fun q => absurd q p1, fun q => absurd q p2⟩⟩
theorem idle_ng (u : St) (r : Nat) (h : ¬ u 31 r = 0) : f_isIdle u r = 0 := by
  unfold f_isIdle; rw [if_neg h]
theorem yel31 (u : St) (r : Nat) (x : Int32) : f_R_endGreen u r x 31 r = 2 := by simp [f_R_endGreen, f_R_enter, up2_at]
theorem st45 (h : Rel s c u v) (hc : c = u 0 2) {r : Nat} (hr : r < 2) (hng : ¬ u 31 r = 1) : Rel s c (f_goOnWithinSide_45 u r) (if v 13 r = 0 then (if 0 ≤ v 12 r then v else (if v 0 21 = 0 then up2 v 12 r (f_m_calledOf v r (v 0 20)) else v)) else v) ∧ g_goOnWithinSide_45 u r := by
  have e := (h.2.2.2.2.2.1 r hr).1
  have hg := h.2.2.1
  obtain ⟨n1, n2⟩ := next_neg h hr
  constructor
  · unfold f_goOnWithinSide_45 f_isIdle
    rw [e.2.1, e.2.2.2.1, hg.2.1, hg.2.2.1, h.2.1, calledOf_eq h hr h.1]
    by_cases a : u 31 r = 0
    · rw [if_pos a, if_pos a]
      by_cases b : u 35 r = -1
      · rw [if_pos b, if_neg i10, if_neg (fun q => n1.mp q b)]
        by_cases d : u 0 2 = 0
        · rw [if_pos d, if_pos d]
          exact Rel35 h hr hng (by rw [hc, d]; decide) (calledOn_ons u hr h.1)
        · rw [if_neg d, if_neg d]; exact h
      · rw [if_neg b, if_pos rfl, if_pos (n1.mpr b)]; exact h
    · rw [if_neg a, if_neg a, if_pos rfl]; exact h
  · refine ⟨fun _ => trivial, fun _ => ⟨fun _ => ?_, fun _ => trivial⟩⟩
    rw [h.2.1]; exact gd_calledOn u hr h.1
theorem ro_45 {u : St} {r g i : Nat} (hq : ¬ (30 ≤ g ∧ g ≤ 37 ∧ i = r)) : f_goOnWithinSide_45 u r g i = u g i := by
  unfold f_goOnWithinSide_45
  split
  · rfl
  · split
    · exact up2_off _ _ (by omega)
    · rfl
theorem ro_goOn {u : St} {r g i : Nat} (hq : ¬ (30 ≤ g ∧ g ≤ 37 ∧ i = r)) : f_goOnWithinSide u r g i = u g i := by
  unfold f_goOnWithinSide
  repeat' split
  all_goals first | exact ro_45 hq | (rw [ro_45 hq, yel_off hq])
theorem st_goOn (h : Rel s c u v) (hc : c = u 0 2) {r : Nat} (hr : r < 2) : Rel s c (f_goOnWithinSide u r) (f_m_goOn v r) ∧ g_goOnWithinSide u r ∧ g_m_goOn v r := by
  have e := (h.2.2.2.2.2.1 r hr).1
  have hg := h.2.2.1
  have hs := h.2.1
  by_cases a : f_mayEnd u r = 0
  · by_cases g1 : u 31 r = 1
    · have n0 : ¬ u 31 r = 0 := by rw [g1]; decide
      have e45 : f_goOnWithinSide_45 u r = u := by unfold f_goOnWithinSide_45; rw [if_pos (idle_ng u r n0)]
      refine ⟨?_, ?_, ?_⟩
      · unfold f_goOnWithinSide f_m_goOn
        rw [mayEnd_eq h hr, if_pos a, if_pos a, e45, e.2.1, if_neg n0]; exact h
      · refine ⟨by rw [hs]; exact gd_second u h.1, gd_mayEnd h hr, fun _ => ?_, fun q => absurd a q⟩
        exact ⟨fun _ => trivial, fun q => absurd (idle_ng u r n0) q⟩
      · refine ⟨gd_m_mayEnd h hr, fun _ => ⟨fun q => absurd (by rw [← e.2.1]; exact q) n0, fun _ => trivial⟩, fun q => absurd (by rw [mayEnd_eq h hr]; exact a) q⟩
    · have z := st45 h hc hr g1
      refine ⟨?_, ?_, ?_⟩
      · unfold f_goOnWithinSide f_m_goOn
        rw [mayEnd_eq h hr, if_pos a, if_pos a]; exact z.1
      · exact ⟨by rw [hs]; exact gd_second u h.1, gd_mayEnd h hr, fun _ => z.2, fun q => absurd a q⟩
      · refine ⟨gd_m_mayEnd h hr, fun _ => ⟨fun _ => ⟨fun _ => trivial, fun _ => ⟨fun _ => ?_, fun _ => trivial⟩⟩, fun _ => trivial⟩, fun q => absurd (by rw [mayEnd_eq h hr]; exact a) q⟩
        rw [hg.2.1, hs]; exact gd_m_calledOf h hr h.1
  · obtain ⟨g1, w0⟩ := mayEnd_green u a
    have n0 : ¬ u 31 r = 0 := by rw [g1]; decide
    have e45 : f_goOnWithinSide_45 u r = u := by unfold f_goOnWithinSide_45; rw [if_pos (idle_ng u r n0)]
    have y45 : ∀ x, f_goOnWithinSide_45 (f_R_endGreen u r x) r = f_R_endGreen u r x := fun x => by unfold f_goOnWithinSide_45; rw [if_pos (idle_ng _ r (by rw [yel31]; decide))]
    have gy : ∀ x, g_goOnWithinSide_45 (f_R_endGreen u r x) r := fun x => ⟨fun _ => trivial, fun q => absurd (idle_ng _ r (by rw [yel31]; decide)) q⟩
    have g45 : g_goOnWithinSide_45 u r := ⟨fun _ => trivial, fun q => absurd (idle_ng u r n0) q⟩
    have f2 := se_lt u hr h.1
    refine ⟨?_, ?_, ?_⟩
    · unfold f_goOnWithinSide f_m_goOn
      rw [mayEnd_eq h hr, if_neg a, if_neg a, e.1, hg.2.1, hs, first_n u hr h.1, second_n u hr h.1, m_first_n h hr h.1, m_second_n h hr h.1, clp (by omega), called_eq h f2.1, e45, y45]
      split
      · split
        · exact h
        · exact Rel_yel h hr g1 w0 (Or.inr (ons_se u r s))
      · exact h
    · refine ⟨by rw [hs]; exact gd_second u h.1, gd_mayEnd h hr, fun q => absurd q a, fun _ => ⟨by rw [hs]; exact gd_first u h.1, fun _ => ⟨by rw [hs, second_n u hr h.1]; exact vp_in_nI f2.1 (by decide), fun _ => g45, fun _ => gy _⟩, fun _ => g45⟩⟩
    · refine ⟨gd_m_mayEnd h hr, fun q => absurd (by rw [← mayEnd_eq h hr]; exact q) a, fun _ => ⟨by rw [hg.2.1, hs]; exact gd_m_first v hr h.1, fun _ => ⟨by rw [hg.2.1, hs]; exact gd_m_second v hr h.1, by rw [hg.2.1, hs, m_second_n h hr h.1]; exact vp_in_nI f2.1 (by decide), fun _ => trivial, fun _ => by rw [hg.2.1, hs]; exact gd_m_second v hr h.1⟩, fun _ => trivial⟩⟩
-- leaving a side
def turnV (v : St) (r : Nat) : St := if f_m_mayEnd v r = 0 then v else (if v 11 r = f_m_second v r (v 0 20) then (if f_m_isCalled v (f_m_first v r (v 0 20)).toNatClampNeg = 0 then v else f_m_goYellow (up2 v 12 r (f_m_first v r (v 0 20))) r) else v)
def rdyV (v : St) (r : Nat) : Int32 := if f_m_mayEnd v r = 0 then (if v 13 r = 0 then (if 0 ≤ v 12 r then 0 else 1) else 0) else 1
theorem c38_0 (v : St) (n i : Nat) (x9 : Int32) : ∃ y, f_m_cross_38 (n + 1) i x9 0 v = f_m_cross_38 n (i + 1) y 0 (turnV v i) := by
  unfold turnV
  simp only [f_m_cross_38, ↓reduceIte]
  repeat' split
  all_goals exact ⟨_, rfl⟩
theorem c38_1 (v : St) (n i : Nat) (x9 : Int32) : f_m_cross_38 (n + 1) i x9 1 v = f_m_cross_38 n (i + 1) (if x9 = 0 then 0 else rdyV v i) 1 v := by
  unfold rdyV
  simp only [f_m_cross_38, i10, ↓reduceIte]
  repeat' split
  all_goals rfl
theorem st_turn (h : Rel s c u v) {r : Nat} (hr : r < 2) : Rel s c (f_turnBackToFirst u r) (turnV v r) ∧ g_turnBackToFirst u r := by
  have e := (h.2.2.2.2.2.1 r hr).1
  have hg := h.2.2.1
  have hs := h.2.1
  have f1 := fi_lt u hr h.1
  constructor
  · unfold f_turnBackToFirst turnV
    rw [mayEnd_eq h hr, e.1, hg.2.1, hs, first_n u hr h.1, second_n u hr h.1, m_first_n h hr h.1, m_second_n h hr h.1, clp (by omega), called_eq h f1.1]
    by_cases a : f_mayEnd u r = 0
    · rw [if_pos a, if_pos a]; exact h
    · obtain ⟨g1, w0⟩ := mayEnd_green u a
      rw [if_neg a, if_neg a]
      split
      · split
        · exact h
        · exact Rel_yel h hr g1 w0 (Or.inr (ons_fi u r s))
      · exact h
  · refine ⟨by rw [hs]; exact gd_first u h.1, gd_mayEnd h hr, fun _ => trivial, fun _ => ⟨by rw [hs]; exact gd_second u h.1, fun _ => by rw [hs, first_n u hr h.1]; exact vp_in_nI f1.1 (by decide), fun _ => trivial⟩⟩
theorem ro_turn {u : St} {r g i : Nat} (hq : ¬ (30 ≤ g ∧ g ≤ 37 ∧ i = r)) : f_turnBackToFirst u r g i = u g i := by
  unfold f_turnBackToFirst
  repeat' split
  all_goals first | rfl | exact yel_off hq
theorem rdy_eq (h : Rel s c u v) {r : Nat} (hr : r < 2) : rdyV v r = f_isReady u r := by
  have e := (h.2.2.2.2.2.1 r hr).1
  obtain ⟨n1, n2⟩ := next_neg h hr
  unfold rdyV f_isReady f_isIdle
  rw [mayEnd_eq h hr, e.2.1, e.2.2.2.1]
  by_cases a : f_mayEnd u r = 0
  · rw [if_pos a, if_pos a]
    by_cases b : u 31 r = 0
    · rw [if_pos b, if_pos b]
      by_cases d : u 35 r = -1
      · rw [if_neg (fun q => n1.mp q d), if_pos d]; rfl
      · rw [if_pos (n1.mpr d), if_neg d]; rfl
    · rw [if_neg b, if_neg b]; rfl
  · rw [if_neg a, if_neg a]
theorem wanted_iff (h : Rel s c u v) : f_isAnyCalledOn u (1 - u 0 1) = 0 ↔ f_calledOn u 0 (nI (1 - s)) = -1 ∧ f_calledOn u 1 (nI (1 - s)) = -1 := by
  have t2 : 1 - s < 2 := by omega
  rw [h.2.1, nI_side h.1]
  have hi := (any_iff u (nI (1 - s)) 8 0).1
  have e : f_isAnyCalledOn u (nI (1 - s)) = f_isAnyCalledOn_2 u (nI (1 - s)) 8 0 := rfl
  have one : ∀ r, r < 2 → (f_calledOn u r (nI (1 - s)) = -1 ↔ f_isCalled u (fi u r (1 - s)) = 0 ∧ f_isCalled u (se u r (1 - s)) = 0) := by
    intro r hr
    rw [calledOn_n u hr t2]
    have p1 := (ons_pos t2 hr (ons_fi u r (1 - s))).2.1
    have p2 := (ons_pos t2 hr (ons_se u r (1 - s))).2.1
    by_cases a : f_isCalled u (fi u r (1 - s)) = 0
    · rw [if_pos a]
      by_cases b : f_isCalled u (se u r (1 - s)) = 0
      · rw [if_pos b]; exact ⟨fun _ => ⟨a, b⟩, fun _ => rfl⟩
      · rw [if_neg b]; exact ⟨fun q => absurd q p2, fun q => absurd q.2 b⟩
    · rw [if_neg a]; exact ⟨fun q => absurd q p1, fun q => absurd q.1 a⟩
  rw [e, hi, one 0 (by decide), one 1 (by decide)]
  have sd : ∀ k, f_sideOf k = nI (1 - s) ↔ k % 4 / 2 = 1 - s := fun k => nI_eq (by omega) (by omega)
  have cov : ∀ r, r < 2 → ∀ j, j / 4 = r → j % 4 / 2 = 1 - s → j = fi u r (1 - s) ∨ j = se u r (1 - s) := by
    intro r hr j a b
    unfold fi se
    split <;> omega
  constructor
  · intro z
    have f0 := fi_lt u (r := 0) (by decide) t2
    have s0 := se_lt u (r := 0) (by decide) t2
    have f1 := fi_lt u (r := 1) (by decide) t2
    have s1 := se_lt u (r := 1) (by decide) t2
    exact ⟨⟨z _ (by omega) (by omega) ((sd _).mpr f0.2.2), z _ (by omega) (by omega) ((sd _).mpr s0.2.2)⟩, ⟨z _ (by omega) (by omega) ((sd _).mpr f1.2.2), z _ (by omega) (by omega) ((sd _).mpr s1.2.2)⟩⟩
  · rintro ⟨⟨a1, a2⟩, ⟨b1, b2⟩⟩ j h1 h2 hs
    rcases (show j / 4 = 0 ∨ j / 4 = 1 by omega) with q | q
    · rcases cov 0 (by decide) j q ((sd j).mp hs) with w | w <;> rw [w] <;> assumption
    · rcases cov 1 (by decide) j q ((sd j).mp hs) with w | w <;> rw [w] <;> assumption
theorem up2_id (v : St) (g i : Nat) : up2 v g i (v g i) = v := by
  funext a b
  rw [up2_at]
  split
  · rename_i q; rw [q.1, q.2]
  · rfl
end PB

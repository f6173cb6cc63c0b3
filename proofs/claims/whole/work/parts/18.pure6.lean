section PC
variable {s : Nat} {c : Int32} {u v : St}
/-- a step that writes the desk's own numbers -/
theorem Rel_gl (h : Rel s c u v) {s' : Nat} {c' : Int32} {u' v' : St} (hu : ∀ g i, ¬ (g = 0 ∨ g = 1) → u' g i = u g i) (hv : ∀ g i, ¬ g = 0 → v' g i = v g i) (h1 : s' < 2) (h2 : u' 0 1 = nI s') (hG : RG u' v') (hR : ∀ r, r < 2 → RR s' c' u v r) : Rel s' c' u' v' := by
  obtain ⟨-, -, -, h4, h5, h6, h7, h8⟩ := h
  refine ⟨h1, h2, hG, fun k hk => ?_, fun k hk => ?_, fun r hr => ?_, fun r hr => ?_, fun k hk => ?_⟩
  · exact RM_c (h4 k hk) (fun g a b => hu _ _ (by omega)) (fun g a b => hv _ _ (by omega))
  · exact RT_c (h5 k hk) (fun t => hu _ _ (by omega)) (fun j => hv _ _ (by omega))
  · exact RR_c (hR r hr) (fun g a b => hu _ _ (by omega)) (fun g a b => hv _ _ (by omega))
  · exact RX_c (h7 r hr) (fun t => hu _ _ (by omega)) (fun j => hv _ _ (by omega))
  · exact RS_c (h8 k hk) (hu _ _ (by omega)) (hu _ _ (by omega)) (hv _ _ (by omega)) (hv _ _ (by omega))
theorem Rel_c1 (h : Rel s c u v) {c' : Int32} (hc : ∀ r, r < 2 → c' = 1 → ¬ u 31 r = 1 ∧ u 35 r = -1) : Rel s c' u v := by
  refine Rel_gl h (fun _ _ _ => rfl) (fun _ _ _ => rfl) h.1 h.2.1 h.2.2.1 (fun r hr => ?_)
  obtain ⟨a1, a2, a3, a4, a5, a6, a7, a8, -⟩ := h.2.2.2.2.2.1 r hr
  exact ⟨a1, a2, a3, a4, a5, a6, a7, a8, hc r hr⟩
def bcU (u : St) (r : Nat) : St := if u 31 r = 1 then f_R_endGreen u r (-1) else u
def bcV (v : St) (r : Nat) : St := if v 13 r = 1 then f_m_goYellow v r else v
theorem bcU_s (u : St) : f_beginCrossing_17 2 0 u = bcU (bcU u 0) 1 := by
  have e : ∀ n i u, f_beginCrossing_17 (n + 1) i u = f_beginCrossing_17 n (i + 1) (bcU u i) := by
    intro n i u
    unfold bcU
    rw [show f_beginCrossing_17 (n + 1) i u = (if u 31 i = 1 then f_beginCrossing_17 n (i + 1) (f_R_endGreen u i (-1)) else f_beginCrossing_17 n (i + 1) u) from rfl]
    split <;> rfl
  rw [e, e]; rfl
theorem bcV_s (v : St) : f_m_cross_183 2 0 v = bcV (bcV v 0) 1 := by
  have e : ∀ n i v, f_m_cross_183 (n + 1) i v = f_m_cross_183 n (i + 1) (bcV v i) := by
    intro n i u
    unfold bcV
    rw [show f_m_cross_183 (n + 1) i u = (if u 13 i = 1 then f_m_cross_183 n (i + 1) (f_m_goYellow u i) else f_m_cross_183 n (i + 1) u) from rfl]
    split <;> rfl
  rw [e, e]; rfl
theorem bcU_off {u : St} {r g i : Nat} (hq : ¬ (30 ≤ g ∧ g ≤ 37 ∧ i = r)) : bcU u r g i = u g i := by
  unfold bcU
  split
  · exact yel_off hq
  · rfl
theorem st_bc (h : Rel s c u v) {r : Nat} (hr : r < 2) (hq : (u 31 r = 1 ∧ f_R_walking u r = 0) ∨ (u 31 r = 0 ∧ u 35 r = -1)) : Rel s c (bcU u r) (bcV v r) ∧ ¬ bcU u r 31 r = 1 ∧ bcU u r 35 r = -1 := by
  have e := (h.2.2.2.2.2.1 r hr).1
  unfold bcU bcV
  rw [e.2.1]
  rcases hq with ⟨g1, w0⟩ | ⟨d0, n0⟩
  · rw [if_pos g1, if_pos g1]
    have z := Rel_yel h hr g1 w0 (x := -1) (Or.inl rfl)
    have n1 : v 12 r = -1 := by rw [e.2.2.2.1]; exact ((h.2.2.2.2.2.1 r hr).2.1 g1).2.2.2
    have ev : up2 v 12 r (-1) = v := by rw [← n1]; exact up2_id v 12 r
    rw [ev] at z
    exact ⟨z, by rw [yel31]; decide, by simp [f_R_endGreen, f_R_enter, up2_at]⟩
  · rw [if_neg (by rw [d0]; decide), if_neg (by rw [d0]; decide)]
    exact ⟨h, by rw [d0]; decide, n0⟩
theorem ready_or (u : St) (r : Nat) (h : ¬ f_isReady u r = 0) : (u 31 r = 1 ∧ f_R_walking u r = 0) ∨ (u 31 r = 0 ∧ u 35 r = -1) := by
  unfold f_isReady at h
  by_cases a : f_mayEnd u r = 0
  · rw [if_pos a] at h
    unfold f_isIdle at h
    by_cases b : u 31 r = 0
    · rw [if_pos b] at h
      by_cases d : u 35 r = -1
      · exact Or.inr ⟨b, d⟩
      · rw [if_neg d] at h; exact absurd rfl h
    · rw [if_neg b] at h; exact absurd rfl h
  · exact Or.inl (mayEnd_green u a)
theorem walk_c {u u' : St} {r : Nat} (h : ∀ g, u' g r = u g r) : f_R_walking u' r = f_R_walking u r := by
  unfold f_R_walking; rw [h, h]
theorem st_beginC (h : Rel s c u v) (hr0 : ¬ f_isReady u 0 = 0) (hr1 : ¬ f_isReady u 1 = 0) : Rel s 1 (f_beginCrossing u) (f_m_cross_183 2 0 (up2 (up2 v 0 21 1) 0 22 ((up2 v 0 21 1) 0 22 + 1))) ∧ f_beginCrossing u 0 2 = 1 := by
  have hg := h.2.2.1
  have e22 : up2 v 0 21 1 0 22 = u 0 3 := by rw [up2_off _ _ (by omega)]; exact hg.2.2.2.1
  have e3 : up2 u 0 2 1 0 3 = u 0 3 := up2_off _ _ (by omega)
  have h1 : Rel s c (up2 (up2 u 0 2 1) 0 3 (u 0 3 + 1)) (up2 (up2 v 0 21 1) 0 22 (u 0 3 + 1)) := by
    refine Rel_gl h (fun g i q => by rw [up2_off _ _ (by omega), up2_off _ _ (by omega)]) (fun g i q => by rw [up2_off _ _ (by omega), up2_off _ _ (by omega)]) h.1 (by rw [up2_off _ _ (by omega), up2_off _ _ (by omega)]; exact h.2.1) ?_ h.2.2.2.2.2.1
    unfold RG at hg ⊢
    simp only [up2_at, Nat.reduceEqDiff, false_and, true_and, and_true, and_false, ↓reduceIte]
    exact ⟨hg.1, hg.2.1, hg.2.2.2.2.1, hg.2.2.2.2.2.1, Or.inr rfl, hg.2.2.2.2.2.2.2.1, hg.2.2.2.2.2.2.2.2⟩
  have t : ∀ g r, ¬ g = 0 → up2 (up2 u 0 2 1) 0 3 (u 0 3 + 1) g r = u g r := fun g r q => by rw [up2_off _ _ (by omega), up2_off _ _ (by omega)]
  have o0 : (up2 (up2 u 0 2 1) 0 3 (u 0 3 + 1) 31 0 = 1 ∧ f_R_walking (up2 (up2 u 0 2 1) 0 3 (u 0 3 + 1)) 0 = 0) ∨ (up2 (up2 u 0 2 1) 0 3 (u 0 3 + 1) 31 0 = 0 ∧ up2 (up2 u 0 2 1) 0 3 (u 0 3 + 1) 35 0 = -1) := by
    unfold f_R_walking
    rw [t 31 0 (by decide), t 35 0 (by decide), t 36 0 (by decide), t 37 0 (by decide)]; exact ready_or u 0 hr0
  obtain ⟨z1, z2, z3⟩ := st_bc h1 (r := 0) (by decide) o0
  have o1 : (bcU (up2 (up2 u 0 2 1) 0 3 (u 0 3 + 1)) 0 31 1 = 1 ∧ f_R_walking (bcU (up2 (up2 u 0 2 1) 0 3 (u 0 3 + 1)) 0) 1 = 0) ∨ (bcU (up2 (up2 u 0 2 1) 0 3 (u 0 3 + 1)) 0 31 1 = 0 ∧ bcU (up2 (up2 u 0 2 1) 0 3 (u 0 3 + 1)) 0 35 1 = -1) := by
    unfold f_R_walking
    rw [bcU_off (by omega), bcU_off (by omega), bcU_off (by omega), bcU_off (by omega), t 31 1 (by decide), t 35 1 (by decide), t 36 1 (by decide), t 37 1 (by decide)]; exact ready_or u 1 hr1
  obtain ⟨y1, y2, y3⟩ := st_bc z1 (r := 1) (by decide) o1
  have eU : f_beginCrossing u = bcU (bcU (up2 (up2 u 0 2 1) 0 3 (u 0 3 + 1)) 0) 1 := by
    unfold f_beginCrossing; rw [e3, bcU_s]
  refine ⟨?_, ?_⟩
  · rw [eU, e22, bcV_s]
    refine Rel_c1 y1 (fun r hr _ => ?_)
    rcases (show r = 0 ∨ r = 1 by omega) with rfl | rfl
    · rw [bcU_off (r := 1) (g := 31) (i := 0) (by omega), bcU_off (r := 1) (g := 35) (i := 0) (by omega)]; exact ⟨z2, z3⟩
    · exact ⟨y2, y3⟩
  · rw [eU, bcU_off (by omega), bcU_off (by omega), up2_off _ _ (by omega)]; exact up2_s _ _ _ _
theorem ro_beginC {u : St} {g i : Nat} (h1 : ¬ (30 ≤ g ∧ g ≤ 37)) (h2 : ¬ g = 0) : f_beginCrossing u g i = u g i := by
  unfold f_beginCrossing
  rw [bcU_s, bcU_off (by omega), bcU_off (by omega), up2_off _ _ (by omega), up2_off _ _ (by omega)]
theorem gd38 : ∀ (n i : Nat) (x9 x8 : Int32) (u v : St), i + n = 2 → Rel s c u v → g_m_cross_38 n i x9 x8 v := by
  intro n
  induction n with
  | zero => intro i x9 x8 u v hi h; trivial
  | succ n ih =>
    intro i x9 x8 u v hi h
    have hr : i < 2 := by omega
    have hg := h.2.2.1
    have eS : v 0 20 = nI s := by rw [hg.2.1]; exact h.2.1
    have m := gd_m_mayEnd h hr
    have f1 := fi_lt u hr h.1
    have k1 : g_m_second v i (v 0 20) := by rw [eS]; exact gd_m_second v hr h.1
    have k2 : g_m_first v i (v 0 20) := by rw [eS]; exact gd_m_first v hr h.1
    have k3 : vp_in (f_m_first v i (v 0 20)) 8 := by rw [eS, m_first_n h hr h.1]; exact vp_in_nI f1.1 (by decide)
    have hy : ¬ f_m_mayEnd v i = 0 → Rel s c (f_R_endGreen u i (nI (fi u i s))) (f_m_goYellow (up2 v 12 i (f_m_first v i (v 0 20))) i) := by
      intro q
      rw [mayEnd_eq h hr] at q
      obtain ⟨g1, w0⟩ := mayEnd_green u q
      rw [eS, m_first_n h hr h.1]
      exact Rel_yel h hr g1 w0 (Or.inr (ons_fi u i s))
    unfold g_m_cross_38
    repeat' first | exact m | exact k1 | exact k2 | exact k3 | exact ih _ _ _ _ _ (by omega) h | exact ih _ _ _ _ _ (by omega) (hy (by assumption)) | exact gd_m_mayEnd (hy (by assumption)) hr | apply And.intro | intro _
theorem turnV_no {v : St} {r : Nat} (h : f_m_mayEnd v r = 0) : turnV v r = v := by unfold turnV; rw [if_pos h]
/-- leaving the side, or turning back -/
theorem st_leave (h : Rel s (u 0 2) u v) : Rel s (f_leaveSideOrTurnBack u 0 2) (f_leaveSideOrTurnBack u) (f_m_cross v) ∧ g_leaveSideOrTurnBack u ∧ g_m_cross v ∧ ∀ g i, ¬ (30 ≤ g ∧ g ≤ 37) → ¬ g = 0 → f_leaveSideOrTurnBack u g i = u g i := by
  have hg := h.2.2.1
  have t2 : 1 - s < 2 := by omega
  have eS : (1 : Int32) - v 0 20 = nI (1 - s) := by rw [hg.2.1, h.2.1]; exact nI_side h.1
  have c0 := calledOf_eq h (r := 0) (by decide) t2
  have c1 := calledOf_eq h (r := 1) (by decide) t2
  have wi := wanted_iff h
  have pz : ∀ r, r < 2 → (0 ≤ f_calledOn u r (nI (1 - s)) ↔ ¬ f_calledOn u r (nI (1 - s)) = -1) ∧ (f_calledOn u r (nI (1 - s)) < 0 ↔ f_calledOn u r (nI (1 - s)) = -1) := by
    intro r hr
    rcases calledOn_ons u hr t2 with q | q
    · rw [q]; decide
    · obtain ⟨p1, p2, p3⟩ := ons_pos t2 hr q
      exact ⟨⟨fun _ => p2, fun _ => p3⟩, ⟨fun w => absurd w p1, fun w => absurd w p2⟩⟩
  have gm : g_m_cross v := by
    unfold g_m_cross
    rw [eS]
    exact ⟨gd_m_calledOf h (by decide) t2, fun _ => gd38 2 0 _ _ u v rfl h, fun _ => ⟨gd_m_calledOf h (by decide) t2, fun _ => gd38 2 0 _ _ u v rfl h, fun _ => gd38 2 0 _ _ u v rfl h⟩⟩
  have eW0 : f_isAnyCalledOn u (1 - u 0 1) = 0 → f_m_cross v = turnV (turnV v 0) 1 := by
    intro q
    obtain ⟨q0, q1⟩ := wi.mp q
    unfold f_m_cross
    rw [eS, c0, c1, if_neg (fun w => (pz 0 (by decide)).1.mp w q0), if_pos ((pz 1 (by decide)).2.mpr q1)]
    obtain ⟨y0, e0⟩ := c38_0 v 1 0 1
    obtain ⟨y1, e1⟩ := c38_0 (turnV v 0) 0 1 y0
    rw [e0, e1]
    unfold f_m_cross_38 f_m_cross_151
    rw [if_pos rfl]
  have eW1 : ¬ f_isAnyCalledOn u (1 - u 0 1) = 0 → f_m_cross v = f_m_cross_151 v 1 (if rdyV v 0 = 0 then 0 else rdyV v 1) := by
    intro q
    have e38 : f_m_cross_38 2 0 1 1 v = f_m_cross_151 v 1 (if rdyV v 0 = 0 then 0 else rdyV v 1) := by
      rw [c38_1, c38_1, if_neg i10]; rfl
    unfold f_m_cross
    rw [eS, c0, c1]
    by_cases a : f_calledOn u 0 (nI (1 - s)) = -1
    · rw [if_neg (fun w => (pz 0 (by decide)).1.mp w a)]
      by_cases b : f_calledOn u 1 (nI (1 - s)) = -1
      · exact absurd (wi.mpr ⟨a, b⟩) q
      · rw [if_neg (fun w => b ((pz 1 (by decide)).2.mp w))]; exact e38
    · rw [if_pos ((pz 0 (by decide)).1.mpr a)]; exact e38
  obtain ⟨tr0, tg0⟩ := st_turn h (r := 0) (by decide)
  obtain ⟨tr1, tg1⟩ := st_turn tr0 (r := 1) (by decide)
  have gl : g_leaveSideOrTurnBack u := ⟨fun _ => ⟨fun _ => ⟨tg0, tg1, trivial⟩, fun _ => ⟨gd_mayEnd h (by decide), fun _ => trivial, fun _ => gd_mayEnd h (by decide)⟩⟩, fun _ => trivial⟩
  have off : ∀ g i, ¬ (30 ≤ g ∧ g ≤ 37) → ¬ g = 0 → f_leaveSideOrTurnBack u g i = u g i := by
    intro g i q1 q2
    unfold f_leaveSideOrTurnBack
    repeat' split
    all_goals first | rfl | exact ro_beginC q1 q2 | (show f_turnBackToFirst (f_turnBackToFirst u 0) 1 g i = u g i; rw [ro_turn (by omega), ro_turn (by omega)])
  refine ⟨?_, gl, gm, off⟩
  by_cases a : u 0 2 = 0
  · by_cases w : f_isAnyCalledOn u (1 - u 0 1) = 0
    · have eU : f_leaveSideOrTurnBack u = f_turnBackToFirst (f_turnBackToFirst u 0) 1 := by unfold f_leaveSideOrTurnBack; rw [if_pos a, if_pos w]; rfl
      rw [eW0 w, eU, ro_turn (by omega), ro_turn (by omega)]
      exact tr1
    · rw [eW1 w, rdy_eq h (by decide), rdy_eq h (by decide)]
      unfold f_leaveSideOrTurnBack f_m_cross_151
      rw [if_pos a, if_neg w, if_neg i10, hg.2.2.1, if_pos a]
      by_cases x : f_isReady u 0 = 0
      · rw [if_pos x, if_pos x, if_pos rfl]; exact h
      · rw [if_neg x, if_neg x]
        by_cases y : f_isReady u 1 = 0
        · rw [if_pos y, if_pos y]; exact h
        · rw [if_neg y, if_neg y]
          obtain ⟨z1, z2⟩ := st_beginC h x y
          rw [z2]; exact z1
  · have c1' : u 0 2 = 1 := by rcases hg.2.2.2.2.2.2.1 with q | q
                               · exact absurd q a
                               · exact q
    have ng : ∀ r, r < 2 → f_m_mayEnd v r = 0 := by
      intro r hr
      rw [mayEnd_eq h hr]
      unfold f_mayEnd
      rw [if_neg ((h.2.2.2.2.2.1 r hr).2.2.2.2.2.2.2.2 c1').1]
    have eU : f_leaveSideOrTurnBack u = u := by unfold f_leaveSideOrTurnBack; rw [if_neg a]
    rw [eU]
    by_cases w : f_isAnyCalledOn u (1 - u 0 1) = 0
    · rw [eW0 w, turnV_no (ng 0 (by decide)), turnV_no (ng 1 (by decide))]; exact h
    · rw [eW1 w]
      unfold f_m_cross_151
      rw [if_neg i10, hg.2.2.1, if_neg a]; exact h
end PC

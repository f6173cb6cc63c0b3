section PD
variable {s : Nat} {c : Int32} {u v : St}
theorem m_comes (h : Rel s c u v) {k : Nat} (hk : k < 8) : f_m_comesAlong v k = f_M_comesAlong u k := by
  unfold f_m_comesAlong f_M_comesAlong f_m_has f_M_has
  rw [(h.2.2.2.1 k hk).1]
theorem coming_n (u : St) {r t : Nat} (hr : r < 2) (ht : t < 2) : f_comingAlongOn u r (nI t) = if f_M_comesAlong u (fi u r t) = 0 then (if f_M_comesAlong u (se u r t) = 0 then -1 else nI (se u r t)) else nI (fi u r t) := by
  unfold f_comingAlongOn
  rw [first_n u hr ht, second_n u hr ht, clp (by have := fi_lt u hr ht; omega), clp (by have := se_lt u hr ht; omega)]
theorem st_flip (h : Rel s 1 u v) (d0 : u 31 0 = 0) (d1 : u 31 1 = 0) : Rel (1 - s) 0 (up2 (up2 u 0 2 0) 0 1 (1 - (up2 u 0 2 0) 0 1)) (up2 (up2 v 0 21 0) 0 20 (1 - (up2 v 0 21 0) 0 20)) := by
  have hg := h.2.2.1
  have e1 : up2 u 0 2 0 0 1 = nI s := by rw [up2_off _ _ (by omega)]; exact h.2.1
  have e2 : up2 v 0 21 0 0 20 = nI s := by rw [up2_off _ _ (by omega), hg.2.1]; exact h.2.1
  rw [e1, e2, nI_side h.1]
  refine Rel_gl h (fun g i q => by rw [up2_off _ _ (by omega), up2_off _ _ (by omega)]) (fun g i q => by rw [up2_off _ _ (by omega), up2_off _ _ (by omega)]) (by omega) (up2_s _ _ _ _) ?_ ?_
  · unfold RG at hg ⊢
    simp only [up2_at, Nat.reduceEqDiff, false_and, true_and, and_true, and_false, ↓reduceIte]
    exact ⟨hg.1, hg.2.2.2.1, hg.2.2.2.2.1, hg.2.2.2.2.2.1, Or.inl rfl, hg.2.2.2.2.2.2.2.1, hg.2.2.2.2.2.2.2.2⟩
  · intro r hr
    have d : u 31 r = 0 := by rcases (show r = 0 ∨ r = 1 by omega) with rfl | rfl <;> assumption
    obtain ⟨a1, a2, a3, a4, a5, a6, a7, a8, a9⟩ := h.2.2.2.2.2.1 r hr
    exact ⟨a1, a2, a3, a4, a5, a6, fun q => absurd d q, Or.inl (a9 rfl).2, fun q => absurd q (by decide)⟩
theorem st_next (h : Rel s 0 u v) {i : Nat} (hi : i < 2) (n : Nat) : ∃ x : Int32, (x = -1 ∨ ons s i x) ∧ f_endCrossing_17 (n + 1) i u = f_endCrossing_17 n (i + 1) (up2 u 35 i x) ∧ f_m_tick_86 (n + 1) i v = f_m_tick_86 n (i + 1) (up2 v 12 i x) ∧ (g_endCrossing_17 n (i + 1) (up2 u 35 i x) → g_endCrossing_17 (n + 1) i u) ∧ (g_m_tick_86 n (i + 1) (up2 v 12 i x) → g_m_tick_86 (n + 1) i v) := by
  have hg := h.2.2.1
  have eS : v 0 20 = nI s := by rw [hg.2.1]; exact h.2.1
  have f1 := fi_lt u hi h.1
  have s1 := se_lt u hi h.1
  have cf := calledOf_eq h hi h.1
  have ma := m_first_n h hi h.1
  have mb := m_second_n h hi h.1
  have q1 := m_comes h f1.1
  have q2 := m_comes h s1.1
  have eU : f_endCrossing_17 (n + 1) i u = (if f_calledOn u i (u 0 1) = -1 then f_endCrossing_17 n (i + 1) (up2 u 35 i (f_comingAlongOn u i (u 0 1))) else f_endCrossing_17 n (i + 1) (up2 u 35 i (f_calledOn u i (u 0 1)))) := rfl
  have eV : f_m_tick_86 (n + 1) i v = (if f_m_calledOf v i (v 0 20) < 0 then (if f_m_comesAlong v (f_m_first v i (v 0 20)).toNatClampNeg = 0 then (if f_m_comesAlong v (f_m_second v i (v 0 20)).toNatClampNeg = 0 then f_m_tick_86 n (i + 1) (up2 v 12 i (-1)) else f_m_tick_86 n (i + 1) (up2 v 12 i (f_m_second v i (v 0 20)))) else f_m_tick_86 n (i + 1) (up2 v 12 i (f_m_first v i (v 0 20)))) else f_m_tick_86 n (i + 1) (up2 v 12 i (f_m_calledOf v i (v 0 20)))) := rfl
  have gU : ∀ x, ((f_calledOn u i (u 0 1) = -1 → x = f_comingAlongOn u i (u 0 1)) ∧ (¬ f_calledOn u i (u 0 1) = -1 → x = f_calledOn u i (u 0 1))) → (g_endCrossing_17 n (i + 1) (up2 u 35 i x) → g_endCrossing_17 (n + 1) i u) := by
    intro x hx g
    refine ⟨by rw [h.2.1]; exact gd_calledOn u hi h.1, fun a => ⟨by rw [h.2.1]; exact gd_comingAlongOn u hi h.1, by rw [← hx.1 a]; exact g⟩, fun a => by rw [← hx.2 a]; exact g⟩
  have gV : ∀ x, (f_m_calledOf v i (v 0 20) < 0 → f_m_comesAlong v (f_m_first v i (v 0 20)).toNatClampNeg = 0 → f_m_comesAlong v (f_m_second v i (v 0 20)).toNatClampNeg = 0 → x = -1) → (f_m_calledOf v i (v 0 20) < 0 → f_m_comesAlong v (f_m_first v i (v 0 20)).toNatClampNeg = 0 → ¬ f_m_comesAlong v (f_m_second v i (v 0 20)).toNatClampNeg = 0 → x = f_m_second v i (v 0 20)) → (f_m_calledOf v i (v 0 20) < 0 → ¬ f_m_comesAlong v (f_m_first v i (v 0 20)).toNatClampNeg = 0 → x = f_m_first v i (v 0 20)) → (¬ f_m_calledOf v i (v 0 20) < 0 → x = f_m_calledOf v i (v 0 20)) → (g_m_tick_86 n (i + 1) (up2 v 12 i x) → g_m_tick_86 (n + 1) i v) := by
    intro x x1 x2 x3 x4 g
    have k1 : g_m_calledOf v i (v 0 20) := by rw [eS]; exact gd_m_calledOf h hi h.1
    have k2 : g_m_first v i (v 0 20) := by rw [eS]; exact gd_m_first v hi h.1
    have k3 : g_m_second v i (v 0 20) := by rw [eS]; exact gd_m_second v hi h.1
    have k4 : vp_in (f_m_first v i (v 0 20)) 8 := by rw [eS, ma]; exact vp_in_nI f1.1 (by decide)
    have k5 : vp_in (f_m_second v i (v 0 20)) 8 := by rw [eS, mb]; exact vp_in_nI s1.1 (by decide)
    exact ⟨k1, k2, k3, fun a => ⟨k4, fun b => ⟨k5, fun d => by rw [← x1 a b d]; exact g, fun d => by rw [← x2 a b d]; exact g⟩, fun b => by rw [← x3 a b]; exact g⟩, fun a => by rw [← x4 a]; exact g⟩
  rw [eS, cf, ma, mb, clp (by omega), clp (by omega), q1, q2] at eV gV
  rw [h.2.1] at eU gU
  rw [coming_n u hi h.1] at eU gU
  rcases calledOn_ons u hi h.1 with w | w
  · rw [w] at eU eV gU gV
    rw [if_pos rfl] at eU
    rw [if_pos (by decide)] at eV
    by_cases a : f_M_comesAlong u (fi u i s) = 0
    · rw [if_pos a] at eU eV gU
      by_cases b : f_M_comesAlong u (se u i s) = 0
      · rw [if_pos b] at eU eV gU
        exact ⟨-1, Or.inl rfl, eU, eV, gU _ ⟨fun _ => rfl, fun q => absurd rfl q⟩, gV _ (fun _ _ _ => rfl) (fun _ _ q => absurd b q) (fun _ q => absurd a q) (fun q => absurd (by decide) q)⟩
      · rw [if_neg b] at eU eV gU
        exact ⟨_, Or.inr (ons_se u i s), eU, eV, gU _ ⟨fun _ => rfl, fun q => absurd rfl q⟩, gV _ (fun _ _ q => absurd q b) (fun _ _ _ => rfl) (fun _ q => absurd a q) (fun q => absurd (by decide) q)⟩
    · rw [if_neg a] at eU eV gU
      exact ⟨_, Or.inr (ons_fi u i s), eU, eV, gU _ ⟨fun _ => rfl, fun q => absurd rfl q⟩, gV _ (fun _ q _ => absurd q a) (fun _ q _ => absurd q a) (fun _ _ => rfl) (fun q => absurd (by decide) q)⟩
  · obtain ⟨p1, p2, p3⟩ := ons_pos h.1 hi w
    rw [if_neg p2] at eU
    rw [if_neg p1] at eV
    exact ⟨_, Or.inr w, eU, eV, gU _ ⟨fun q => absurd q p2, fun _ => rfl⟩, gV _ (fun q _ _ => absurd q p1) (fun q _ _ => absurd q p1) (fun q _ => absurd q p1) (fun _ => rfl)⟩
theorem st_endC (h : Rel s 1 u v) (d0 : u 31 0 = 0) (d1 : u 31 1 = 0) : ∃ w, Rel (1 - s) 0 (f_endCrossing u) w ∧ f_endCrossing u 0 2 = 0 ∧ f_m_tick_86 2 0 (up2 (up2 v 0 21 0) 0 20 (1 - (up2 v 0 21 0) 0 20)) = f_m_tick_169 w ∧ g_endCrossing u ∧ (g_m_tick_169 w → g_m_tick_86 2 0 (up2 (up2 v 0 21 0) 0 20 (1 - (up2 v 0 21 0) 0 20))) ∧ ∀ g i, ¬ (30 ≤ g ∧ g ≤ 37) → ¬ g = 0 → f_endCrossing u g i = u g i := by
  have z := st_flip h d0 d1
  have t : ∀ g r, ¬ g = 0 → up2 (up2 u 0 2 0) 0 1 (1 - (up2 u 0 2 0) 0 1) g r = u g r := fun g r q => by rw [up2_off _ _ (by omega), up2_off _ _ (by omega)]
  obtain ⟨x, hx, a1, a2, a3, a4⟩ := st_next z (i := 0) (by decide) 1
  have z1 := Rel35 z (r := 0) (by decide) (by rw [t 31 0 (by decide), d0]; decide) (by decide) hx
  obtain ⟨y, hy, b1, b2, b3, b4⟩ := st_next z1 (i := 1) (by decide) 0
  have z2 := Rel35 z1 (r := 1) (by decide) (by rw [up2_off _ _ (by omega), t 31 1 (by decide), d1]; decide) (by decide) hy
  have eU : f_endCrossing u = up2 (up2 (up2 (up2 u 0 2 0) 0 1 (1 - (up2 u 0 2 0) 0 1)) 35 0 x) 35 1 y := by
    unfold f_endCrossing; rw [a1, b1]; rfl
  refine ⟨_, by rw [eU]; exact z2, ?_, by rw [a2, b2]; rfl, ?_, fun g => a4 (b4 g), fun g i q1 q2 => ?_⟩
  · rw [eU]; simp [up2_at]
  · unfold g_endCrossing; exact a3 (b3 trivial)
  · rw [eU, up2_off _ _ (by omega), up2_off _ _ (by omega), t g i q2]
-- greens begin
theorem ww_c {u u' : St} {k : Nat} (h1 : u' 10 k = u 10 k) (h2 : u' 13 k = u 13 k) (h3 : u' (20 + k) 5 = u (20 + k) 5) : f_M_wouldWalk u' k = f_M_wouldWalk u k := by
  unfold f_M_wouldWalk f_M_has; rw [h1, h2, h3]
def bg0 (u : St) (r k : Nat) : St := up2 (up2 (up2 (f_R_enter u r 1) 30 r (u 35 r)) 35 r (-1)) 33 r (u (20 + k) 1)
theorem bg0_off {u : St} {r k g i : Nat} (hq : ¬ (30 ≤ g ∧ g ≤ 37 ∧ i = r)) : bg0 u r k g i = u g i := by
  unfold bg0
  rw [up2_off _ _ (by omega), up2_off _ _ (by omega), up2_off _ _ (by omega), enter_off hq]
theorem bgU (u : St) {r k : Nat} (hk : k < 8) : f_R_beginGreen u r k = if f_M_wouldWalk u k = 0 then bg0 u r k else up2 (up2 (bg0 u r k) 36 r (u (20 + k) 5)) 37 r (u (20 + k) 6) := by
  have e35 : f_R_enter u r 1 35 r = u 35 r := by simp [f_R_enter, up2_at]
  have t0 : ∀ t, up2 (up2 (f_R_enter u r 1) 30 r (u 35 r)) 35 r (-1) (20 + k) t = u (20 + k) t := fun t => by rw [up2_off _ _ (by omega), up2_off _ _ (by omega), enter_off (by omega)]
  unfold f_R_beginGreen f_R_beginGreen_5 f_R_beginGreen_18 f_R_beginGreen_28
  rw [e35, t0, show up2 (up2 (up2 (f_R_enter u r 1) 30 r (u 35 r)) 35 r (-1)) 33 r (u (20 + k) 1) = bg0 u r k from rfl, ww_c (u' := bg0 u r k) (u := u) (bg0_off (by omega)) (bg0_off (by omega)) (bg0_off (by omega)), bg0_off (g := 20 + k) (i := 5) (by omega), up2_off (g' := 20 + k) _ _ (by omega), bg0_off (g := 20 + k) (i := 6) (by omega)]
def bm0 (v : St) (r k : Nat) (w l : Int32) : St := up2 (up2 (up2 (up2 (up2 (up2 (up2 (up2 (up2 (up2 (up2 v 11 r (v 12 r)) 12 r (-1)) 13 r 1) 14 r 0) 15 r (v 1 (7 * k + 1))) 16 r 0) 5 k 0) 8 k (v 8 k + 1)) 17 r w) 18 r l) 4 k 0
theorem bgV (v : St) {r k : Nat} (hk : k < 8) (hx : v 12 r = nI k) : f_m_begin v r = (if (if v 1 (7 * k + 5) ≤ 0 then (0 : Int32) else if v 4 k = 0 then (if f_m_has v k 16 = 0 then 0 else 1) else 1) = 0 then bm0 v r k 0 0 else bm0 v r k (v 1 (7 * k + 5)) (v 1 (7 * k + 6))) ∧ g_m_begin v r := by
  have hin : vp_in (nI k) 8 := vp_in_nI hk (by decide)
  constructor
  · unfold f_m_begin f_m_begin_35 f_m_begin_54 f_m_begin_71 f_m_begin_105 f_m_begin_125 f_m_begin_146
    rw [hx, clp (by omega)]
    unfold bm0 f_m_has f_m_timeOf
    rw [hx]
    by_cases a : v 4 k = 0 <;> by_cases b : v 2 k &&& 16 = 0 <;> by_cases d : v 1 (7 * k + 5) ≤ 0 <;> simp [up2_at, a, b, d]
  · unfold g_m_begin
    rw [hx]
    unfold g_m_begin_35 g_m_begin_54 g_m_begin_71 g_m_begin_105 g_m_begin_125 g_m_begin_146
    exact ⟨hin, hin, hin, fun _ => ⟨fun _ => ⟨fun _ => ⟨fun _ => hin, fun _ => ⟨hin, hin⟩⟩, fun _ => ⟨hin, fun _ => hin, fun _ => ⟨hin, hin⟩⟩⟩, fun _ => ⟨fun _ => ⟨fun _ => ⟨fun _ => hin, fun _ => ⟨hin, hin⟩⟩, fun _ => ⟨hin, fun _ => hin, fun _ => ⟨hin, hin⟩⟩⟩, fun _ => ⟨fun _ => ⟨fun _ => hin, fun _ => ⟨hin, hin⟩⟩, fun _ => ⟨hin, fun _ => hin, fun _ => ⟨hin, hin⟩⟩⟩⟩⟩, fun _ => ⟨fun _ => ⟨fun _ => ⟨fun _ => hin, fun _ => ⟨hin, hin⟩⟩, fun _ => ⟨hin, fun _ => hin, fun _ => ⟨hin, hin⟩⟩⟩, fun _ => ⟨fun _ => ⟨fun _ => hin, fun _ => ⟨hin, hin⟩⟩, fun _ => ⟨hin, fun _ => hin, fun _ => ⟨hin, hin⟩⟩⟩⟩⟩
end PD

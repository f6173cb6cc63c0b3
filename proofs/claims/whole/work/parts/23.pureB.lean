section PH
variable {s : Nat} {c : Int32} {u v : St}
theorem cw_off : ∀ (n i : Nat) (u : St) (g j : Nat), ¬ (g = 14 ∨ g = 15) → f_countWaits_2 n i u g j = u g j := by
  intro n
  induction n with
  | zero => intro i u g j _; rfl
  | succ n ih =>
    intro i u g j q
    rw [show f_countWaits_2 (n + 1) i u = f_countWaits_2 n (i + 1) (f_M_countWait u i (f_isCalled u i)) from rfl, ih _ _ _ _ q]
    unfold f_M_countWait f_M_countWait_18
    split <;> rw [up2_off _ _ (by omega), up2_off _ _ (by omega)]
theorem st_89 (h : Rel s c u v) : Rel s c (f_tick_89 u).2 (f_m_look (f_m_tick_169 v)) ∧ g_tick_89 u ∧ g_m_tick_169 v ∧ (f_tick_89 u).1 + gs u = gs (f_tick_89 u).2 ∧ ∀ i, (f_tick_89 u).2 0 i = u 0 i := by
  obtain ⟨z1, z2, z3, z4, z5⟩ := st_begins 2 0 0 u v rfl h
  obtain ⟨y1, y2, y3, y4⟩ := st_look z1
  refine ⟨y1, ⟨z2, y2⟩, z3, ?_, fun i => (y3 i).trans (z5 i)⟩
  have e : (f_tick_89 u).2 = f_showLightsToGuard (f_beginGreens_4 2 0 0 u).2 := rfl
  have e1 : (f_tick_89 u).1 = (f_beginGreens_4 2 0 0 u).1 := rfl
  rw [e, e1, gs_c y4, z4, Int32.zero_add]
/-- THE TICK behind the time's -/
theorem st_tick (h : Rel s (u 0 2) u v) : (∃ s', Rel s' ((f_tick_29 2 0 (f_advanceRings (f_countWaits u))).2 0 2) (f_tick_29 2 0 (f_advanceRings (f_countWaits u))).2 (f_m_look (f_m_tick v))) ∧ (g_advanceRings (f_countWaits u) ∧ g_tick_29 2 0 (f_advanceRings (f_countWaits u))) ∧ g_m_tick v ∧ (f_tick_29 2 0 (f_advanceRings (f_countWaits u))).1 + gs u = gs (f_tick_29 2 0 (f_advanceRings (f_countWaits u))).2 := by
  have h1 := st_count h
  obtain ⟨a1, a2, a3, a4⟩ := st_rings h1
  have e0 : ∀ g i, ¬ (30 ≤ g ∧ g ≤ 37) → ¬ (g = 14 ∨ g = 15) → f_advanceRings (f_countWaits u) g i = u g i := fun g i p q => (a4 g i p).trans (cw_off 8 0 u g i q)
  generalize f_advanceRings (f_countWaits u) = u2 at a1 e0 ⊢
  have c2 : u 0 2 = u2 0 2 := (e0 0 2 (by decide) (by decide)).symm
  obtain ⟨b1, b2, b3⟩ := st_goOn a1 c2 (r := 0) (by decide)
  have c3 : u 0 2 = f_goOnWithinSide u2 0 0 2 := c2.trans (ro_goOn (by decide)).symm
  obtain ⟨d1, d2, d3⟩ := st_goOn b1 c3 (r := 1) (by decide)
  have c4 : u 0 2 = f_goOnWithinSide (f_goOnWithinSide u2 0) 1 0 2 := c3.trans (ro_goOn (by decide)).symm
  have e4 : ∀ k, f_goOnWithinSide (f_goOnWithinSide u2 0) 1 16 k = u 16 k := fun k => by rw [ro_goOn (by omega), ro_goOn (by omega), e0 16 k (by decide) (by decide)]
  have eU : f_tick_29 2 0 u2 = f_tick_29 0 2 (f_goOnWithinSide (f_goOnWithinSide u2 0) 1) := rfl
  have gU : g_tick_29 0 2 (f_goOnWithinSide (f_goOnWithinSide u2 0) 1) → g_tick_29 2 0 u2 := fun g => ⟨b2, d2, g⟩
  have eV : f_m_tick v = f_m_tick_24 0 2 (f_m_goOn (f_m_goOn (f_m_ageRing (f_m_ageRing (f_m_wait0 v) 0) 1) 0) 1) := rfl
  have gV : g_m_tick_24 0 2 (f_m_goOn (f_m_goOn (f_m_ageRing (f_m_ageRing (f_m_wait0 v) 0) 1) 0) 1) → g_m_tick v := fun g => ⟨a3.1, a3.2, b3, d3, g⟩
  rw [c4] at d1
  generalize f_goOnWithinSide (f_goOnWithinSide u2 0) 1 = u4 at d1 e4 eU gU
  generalize f_m_goOn (f_m_goOn (f_m_ageRing (f_m_ageRing (f_m_wait0 v) 0) 1) 0) 1 = v4 at d1 eV gV
  obtain ⟨f1, f2, f3, f4⟩ := st_leave d1
  have e5 : ∀ k, f_leaveSideOrTurnBack u4 16 k = u 16 k := fun k => (f4 16 k (by decide) (by decide)).trans (e4 k)
  have xU : f_tick_29 0 2 u4 = (if f_leaveSideOrTurnBack u4 0 2 = 0 then f_tick_89 (f_leaveSideOrTurnBack u4) else (if f_leaveSideOrTurnBack u4 31 0 = 0 then (if f_leaveSideOrTurnBack u4 31 1 = 0 then f_tick_89 (f_endCrossing (f_leaveSideOrTurnBack u4)) else f_tick_89 (f_leaveSideOrTurnBack u4)) else f_tick_89 (f_leaveSideOrTurnBack u4))) := rfl
  have xV : f_m_tick_24 0 2 v4 = (if f_m_cross v4 0 21 = 0 then f_m_tick_169 (f_m_cross v4) else (if f_m_cross v4 13 0 = 0 then (if f_m_cross v4 13 1 = 0 then f_m_tick_86 2 0 (up2 (up2 (f_m_cross v4) 0 21 0) 0 20 (1 - (up2 (f_m_cross v4) 0 21 0) 0 20)) else f_m_tick_169 (f_m_cross v4)) else f_m_tick_169 (f_m_cross v4))) := rfl
  have yU : g_tick_29 0 2 u4 = (g_leaveSideOrTurnBack u4 ∧ ((f_leaveSideOrTurnBack u4 0 2 = 0 → g_tick_89 (f_leaveSideOrTurnBack u4)) ∧ (¬ f_leaveSideOrTurnBack u4 0 2 = 0 → ((f_leaveSideOrTurnBack u4 31 0 = 0 → ((f_leaveSideOrTurnBack u4 31 1 = 0 → (g_endCrossing (f_leaveSideOrTurnBack u4) ∧ g_tick_89 (f_endCrossing (f_leaveSideOrTurnBack u4)))) ∧ (¬ f_leaveSideOrTurnBack u4 31 1 = 0 → g_tick_89 (f_leaveSideOrTurnBack u4)))) ∧ (¬ f_leaveSideOrTurnBack u4 31 0 = 0 → g_tick_89 (f_leaveSideOrTurnBack u4)))))) := rfl
  have yV : g_m_tick_24 0 2 v4 = (g_m_cross v4 ∧ ((f_m_cross v4 0 21 = 0 → g_m_tick_169 (f_m_cross v4)) ∧ (¬ f_m_cross v4 0 21 = 0 → ((f_m_cross v4 13 0 = 0 → ((f_m_cross v4 13 1 = 0 → g_m_tick_86 2 0 (up2 (up2 (f_m_cross v4) 0 21 0) 0 20 (1 - (up2 (f_m_cross v4) 0 21 0) 0 20))) ∧ (¬ f_m_cross v4 13 1 = 0 → g_m_tick_169 (f_m_cross v4)))) ∧ (¬ f_m_cross v4 13 0 = 0 → g_m_tick_169 (f_m_cross v4)))))) := rfl
  have p21 : f_m_cross v4 0 21 = f_leaveSideOrTurnBack u4 0 2 := f1.2.2.1.2.2.1
  have p0 : f_m_cross v4 13 0 = f_leaveSideOrTurnBack u4 31 0 := (f1.2.2.2.2.2.1 0 (by decide)).1.2.1
  have p1 : f_m_cross v4 13 1 = f_leaveSideOrTurnBack u4 31 1 := (f1.2.2.2.2.2.1 1 (by decide)).1.2.1
  rw [p21, p0, p1] at xV yV
  obtain ⟨k1, k2, k3, k4, k5⟩ := st_89 f1
  have plain : f_tick_29 0 2 u4 = f_tick_89 (f_leaveSideOrTurnBack u4) → f_m_tick_24 0 2 v4 = f_m_tick_169 (f_m_cross v4) → g_tick_29 0 2 u4 → g_m_tick_24 0 2 v4 → (∃ s', Rel s' ((f_tick_29 2 0 u2).2 0 2) (f_tick_29 2 0 u2).2 (f_m_look (f_m_tick v))) ∧ (g_advanceRings (f_countWaits u) ∧ g_tick_29 2 0 u2) ∧ g_m_tick v ∧ (f_tick_29 2 0 u2).1 + gs u = gs (f_tick_29 2 0 u2).2 := by
    intro w1 w2 w3 w4
    rw [eU, eV, w1, w2]
    refine ⟨⟨s, by rw [k5 2]; exact k1⟩, ⟨a2, gU w3⟩, gV w4, ?_⟩
    rw [← gs_c e5]; exact k4
  by_cases q : f_leaveSideOrTurnBack u4 0 2 = 0
  · rw [if_pos q] at xU xV
    exact plain xU xV (yU ▸ ⟨f2, fun _ => k2, fun w => absurd q w⟩) (yV ▸ ⟨f3, fun _ => k3, fun w => absurd q w⟩)
  · rw [if_neg q] at xU xV
    by_cases q0 : f_leaveSideOrTurnBack u4 31 0 = 0
    · rw [if_pos q0] at xU xV
      by_cases q1 : f_leaveSideOrTurnBack u4 31 1 = 0
      · rw [if_pos q1] at xU xV
        have c1 : f_leaveSideOrTurnBack u4 0 2 = 1 := by rcases f1.2.2.1.2.2.2.2.2.2.1 with w | w
                                                         · exact absurd w q
                                                         · exact w
        rw [c1] at f1
        obtain ⟨w, m1, m2, m3, m4, m5, m6⟩ := st_endC f1 q0 q1
        obtain ⟨n1, n2, n3, n4, n5⟩ := st_89 m1
        rw [m3] at xV
        rw [eU, eV, xU, xV]
        refine ⟨⟨1 - s, by rw [n5 2, m2]; exact n1⟩, ⟨a2, gU (yU ▸ ⟨f2, fun z => absurd z q, fun _ => ⟨fun _ => ⟨fun _ => ⟨m4, n2⟩, fun z => absurd q1 z⟩, fun z => absurd q0 z⟩⟩)⟩, gV (yV ▸ ⟨f3, fun z => absurd z q, fun _ => ⟨fun _ => ⟨fun _ => m5 n3, fun z => absurd q1 z⟩, fun z => absurd q0 z⟩⟩), ?_⟩
        rw [← gs_c (fun k => (m6 16 k (by decide) (by decide)).trans (e5 k))]; exact n4
      · rw [if_neg q1] at xU xV
        exact plain xU xV (yU ▸ ⟨f2, fun z => absurd z q, fun _ => ⟨fun _ => ⟨fun z => absurd z q1, fun _ => k2⟩, fun z => absurd q0 z⟩⟩) (yV ▸ ⟨f3, fun z => absurd z q, fun _ => ⟨fun _ => ⟨fun z => absurd z q1, fun _ => k3⟩, fun z => absurd q0 z⟩⟩)
    · rw [if_neg q0] at xU xV
      exact plain xU xV (yU ▸ ⟨f2, fun z => absurd z q, fun _ => ⟨fun z => absurd z q0, fun _ => k2⟩⟩) (yV ▸ ⟨f3, fun z => absurd z q, fun _ => ⟨fun z => absurd z q0, fun _ => k3⟩⟩)
def RelT (u v : St) : Prop := ∃ s, Rel s (u 0 2) u v
theorem Rel_time (h : Rel s c u v) (x : Int32) : Rel s c (up2 u 0 0 x) (up2 v 0 19 x) := by
  refine Rel_gl h (fun g i q => up2_off _ _ (by omega)) (fun g i q => up2_off _ _ (by omega)) h.1 (by rw [up2_off _ _ (by omega)]; exact h.2.1) ?_ h.2.2.2.2.2.1
  have hg := h.2.2.1
  unfold RG at hg ⊢
  simp only [up2_at, Nat.reduceEqDiff, false_and, true_and, and_true, and_false, ↓reduceIte]
  exact hg.2
theorem Rel_thr (h : Rel s c u v) (x : Int32) : Rel s c u (up2 v 0 0 x) :=
  Rel_fr h (fun _ => False) (fun _ => False) (fun _ _ _ _ _ => rfl) (fun g i _ _ q => up2_off _ _ q) (fun r _ q => q.elim) (fun k _ q => q.elim) (Or.inr rfl)
theorem run_all (x0 : Int32) : ∀ (n i : Nat) (x y : Int32) (k : Nat) (u v : St), RelT u v → x + y = gs u → RelT (f_run_17 x0 n i x k u).2 (f_m_run_25 x0 n i y k v).2 ∧ (f_run_17 x0 n i x k u).1 = (f_m_run_25 x0 n i y k v).1 ∧ g_run_17 x0 n i x k u ∧ g_m_run_25 x0 n i y k v := by
  intro n
  induction n with
  | zero =>
    rintro i x y k u v ⟨s, h⟩ hxy
    refine ⟨⟨s, h⟩, ?_, trivial, trivial⟩
    show x = f_m_allGreens v - y
    rw [gs_all h, ← hxy, Int32.add_sub_cancel]
  | succ n ih =>
    rintro i x y k u v ⟨s, h⟩ hxy
    have e0 : v 0 19 = u 0 0 := h.2.2.1.1
    have h1 := Rel_time h (u 0 0 + 1)
    have e2 : up2 u 0 0 (u 0 0 + 1) 0 2 = u 0 2 := up2_off _ _ (by omega)
    have g1 : gs (up2 u 0 0 (u 0 0 + 1)) = gs u := gs_c (fun k => up2_off _ _ (by omega))
    have eF : up2 u 0 0 (u 0 0 + 1) 1 0 = u 1 0 := up2_off _ _ (by omega)
    have eW : up2 v 0 19 (u 0 0 + 1) 0 23 = u 1 0 := by rw [up2_off _ _ (by omega)]; exact h.2.2.1.2.2.2.2.1
    have eU : f_run_17 x0 (n + 1) i x k u = f_run_17 x0 n (i + 1) (x + (f_tick u).1) k (f_tick u).2 := rfl
    have eV : f_m_run_25 x0 (n + 1) i y k v = (if up2 v 0 19 (v 0 19 + 1) 0 23 = 0 then f_m_run_25 x0 n (i + 1) y k (f_m_look (f_m_tick (up2 v 0 19 (v 0 19 + 1)))) else f_m_run_25 x0 n (i + 1) y k (up2 v 0 19 (v 0 19 + 1))) := rfl
    have gU : g_run_17 x0 (n + 1) i x k u = (g_tick u ∧ g_run_17 x0 n (i + 1) (x + (f_tick u).1) k (f_tick u).2) := rfl
    have gV : g_m_run_25 x0 (n + 1) i y k v = ((up2 v 0 19 (v 0 19 + 1) 0 23 = 0 → (g_m_tick (up2 v 0 19 (v 0 19 + 1)) ∧ g_m_run_25 x0 n (i + 1) y k (f_m_look (f_m_tick (up2 v 0 19 (v 0 19 + 1)))))) ∧ (¬ up2 v 0 19 (v 0 19 + 1) 0 23 = 0 → g_m_run_25 x0 n (i + 1) y k (up2 v 0 19 (v 0 19 + 1)))) := rfl
    rw [e0, eW] at eV gV
    by_cases a : u 1 0 = 0
    · have fl : f_isFlashing (up2 u 0 0 (u 0 0 + 1)) = 0 := by unfold f_isFlashing; rw [eF, if_pos a]
      have eT : f_tick u = f_tick_29 2 0 (f_advanceRings (f_countWaits (up2 u 0 0 (u 0 0 + 1)))) := by unfold f_tick; rw [if_pos fl]
      rw [← e2] at h1
      obtain ⟨z1, z2, z3, z4⟩ := st_tick h1
      rw [if_pos a] at eV
      rw [← eT] at z1 z4
      rw [g1] at z4
      obtain ⟨w1, w2, w3, w4⟩ := ih (i + 1) (x + (f_tick u).1) y k (f_tick u).2 _ z1 (by rw [← z4, ← hxy]; ac_rfl)
      rw [eU, eV]
      exact ⟨w1, w2, gU ▸ ⟨⟨fun _ => z2, fun q => absurd fl q⟩, w3⟩, gV ▸ ⟨fun _ => ⟨z3, w4⟩, fun q => absurd a q⟩⟩
    · have fl : ¬ f_isFlashing (up2 u 0 0 (u 0 0 + 1)) = 0 := by unfold f_isFlashing; rw [eF, if_neg a]; decide
      have eT : f_tick u = (0, up2 u 0 0 (u 0 0 + 1)) := by unfold f_tick; rw [if_neg fl]
      rw [if_neg a] at eV
      rw [← e2] at h1
      obtain ⟨w1, w2, w3, w4⟩ := ih (i + 1) x y k (up2 u 0 0 (u 0 0 + 1)) _ ⟨s, h1⟩ (by rw [g1]; exact hxy)
      rw [eT, Int32.add_zero] at eU gU
      rw [eU, eV]
      exact ⟨w1, w2, gU ▸ ⟨⟨fun q => absurd q fl, fun _ => trivial⟩, w3⟩, gV ▸ ⟨fun q => absurd q a, fun _ => w4⟩⟩
end PH

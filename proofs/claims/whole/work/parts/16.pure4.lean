section PA
variable {s : Nat} {c : Int32} {u v : St}
theorem any_iff (u : St) (x : Int32) : ∀ n i, (f_isAnyCalledOn_2 u x n i = 0 ↔ ∀ j, i ≤ j → j < i + n → f_sideOf j = x → f_isCalled u j = 0) ∧ (f_isAnyCalledOn_2 u x n i = 0 ∨ f_isAnyCalledOn_2 u x n i = 1) := by
  intro n
  induction n with
  | zero => intro i; exact ⟨⟨fun _ j a b => absurd b (by omega), fun _ => rfl⟩, Or.inl rfl⟩
  | succ n ih =>
    intro i
    obtain ⟨ih1, ih2⟩ := ih (i + 1)
    have e : f_isAnyCalledOn_2 u x (n + 1) i = (if f_sideOf i = x then (if f_isCalled u i = 0 then f_isAnyCalledOn_2 u x n (i + 1) else 1) else f_isAnyCalledOn_2 u x n (i + 1)) := rfl
    rw [e]
    have ex : ∀ P : Nat → Prop, (∀ j, i ≤ j → j < i + (n + 1) → P j) ↔ P i ∧ ∀ j, i + 1 ≤ j → j < i + 1 + n → P j := by
      intro P
      constructor
      · intro h; exact ⟨h i (Nat.le_refl _) (by omega), fun j a b => h j (by omega) (by omega)⟩
      · rintro ⟨h1, h2⟩ j a b
        by_cases q : j = i
        · subst q; exact h1
        · exact h2 j (by omega) (by omega)
    rw [ex (fun j => f_sideOf j = x → f_isCalled u j = 0)]
    by_cases a : f_sideOf i = x
    · rw [if_pos a]
      by_cases b : f_isCalled u i = 0
      · rw [if_pos b]
        exact ⟨ih1.trans ⟨fun z => ⟨fun _ => b, z⟩, fun z => z.2⟩, ih2⟩
      · rw [if_neg b]
        exact ⟨⟨fun z => absurd z i10, fun z => absurd (z.1 a) b⟩, Or.inr rfl⟩
    · rw [if_neg a]
      exact ⟨ih1.trans ⟨fun z => ⟨fun q => absurd q a, z⟩, fun z => z.2⟩, ih2⟩
theorem oc_iff (u : St) : ∀ (n i : Nat) (x : Int32), (x = 0 ∨ x = 1) → ((oc u n i x = 0 ↔ x = 0 ∧ ∀ j, i ≤ j → j < i + n → f_isCalled u j = 0) ∧ (oc u n i x = 0 ∨ oc u n i x = 1)) := by
  intro n
  induction n with
  | zero => intro i x hx; exact ⟨⟨fun z => ⟨z, fun j a b => absurd b (by omega)⟩, fun z => z.1⟩, hx⟩
  | succ n ih =>
    intro i x hx
    have e : oc u (n + 1) i x = (if x = 0 then (if f_isCalled u i = 0 then oc u n (i + 1) 0 else oc u n (i + 1) 1) else oc u n (i + 1) 1) := rfl
    rw [e]
    have o1 := ih (i + 1) 1 (Or.inr rfl)
    have o0 := ih (i + 1) 0 (Or.inl rfl)
    have n1 : ¬ oc u n (i + 1) 1 = 0 := fun q => i10 (o1.1.mp q).1
    rcases hx with rfl | rfl
    · rw [if_pos rfl]
      by_cases b : f_isCalled u i = 0
      · rw [if_pos b]
        refine ⟨o0.1.trans ⟨fun z => ⟨rfl, fun j a1 a2 => ?_⟩, fun z => ⟨rfl, fun j a1 a2 => z.2 j (by omega) (by omega)⟩⟩, o0.2⟩
        by_cases q : j = i
        · subst q; exact b
        · exact z.2 j (by omega) (by omega)
      · rw [if_neg b]
        exact ⟨⟨fun z => absurd z n1, fun z => absurd (z.2 i (Nat.le_refl _) (by omega)) b⟩, o1.2⟩
    · rw [if_neg i10]
      exact ⟨⟨fun z => absurd z n1, fun z => absurd z.1 i10⟩, o1.2⟩
theorem side01 (j : Nat) : f_sideOf j = 0 ∨ f_sideOf j = 1 := by
  unfold f_sideOf
  rcases (show j % 4 / 2 = 0 ∨ j % 4 / 2 = 1 by omega) with e | e <;> rw [e]
  · exact Or.inl rfl
  · exact Or.inr rfl
theorem anyb (u : St) : f_advanceRings u = f_advanceRings_24 2 0 (oc u 8 0 0) u ∧ (g_advanceRings_24 2 0 (oc u 8 0 0) u → g_advanceRings u) := by
  obtain ⟨a1, a2⟩ := any_iff u 0 8 0
  obtain ⟨b1, b2⟩ := any_iff u 1 8 0
  obtain ⟨c1, c2⟩ := oc_iff u 8 0 0 (Or.inl rfl)
  have e0 : f_isAnyCalledOn u 0 = f_isAnyCalledOn_2 u 0 8 0 := rfl
  have e1 : f_isAnyCalledOn u 1 = f_isAnyCalledOn_2 u 1 8 0 := rfl
  have key : oc u 8 0 0 = (if f_isAnyCalledOn u 0 = 0 then (if f_isAnyCalledOn u 1 = 0 then 0 else 1) else 1) := by
    rw [e0, e1]
    by_cases x : f_isAnyCalledOn_2 u 0 8 0 = 0
    · rw [if_pos x]
      by_cases y : f_isAnyCalledOn_2 u 1 8 0 = 0
      · rw [if_pos y]
        refine c1.mpr ⟨rfl, fun j h1 h2 => ?_⟩
        rcases side01 j with q | q
        · exact a1.mp x j h1 h2 q
        · exact b1.mp y j h1 h2 q
      · rw [if_neg y]
        rcases c2 with z | z
        · exact absurd (b1.mpr fun j h1 h2 _ => (c1.mp z).2 j h1 h2) y
        · exact z
    · rw [if_neg x]
      rcases c2 with z | z
      · exact absurd (a1.mpr fun j h1 h2 _ => (c1.mp z).2 j h1 h2) x
      · exact z
  constructor
  · rw [key]; unfold f_advanceRings
    split
    · split <;> rfl
    · rfl
  · rw [key]; intro g
    refine ⟨fun z => ⟨fun w => ?_, fun w => ?_⟩, fun z => ?_⟩
    · rw [if_pos z, if_pos w] at g; exact g
    · rw [if_pos z, if_neg w] at g; exact g
    · rw [if_neg z] at g; exact g
theorem called_c {u u' : St} {k : Nat} (hw : ∀ g, 10 ≤ g → g ≤ 13 → u' g k = u g k) (hg : f_isGreen u' k = f_isGreen u k) : f_isCalled u' k = f_isCalled u k := by
  unfold f_isCalled f_M_isWanted f_M_has
  rw [hg, hw 10 (by decide) (by decide), hw 11 (by decide) (by decide), hw 12 (by decide) (by decide), hw 13 (by decide) (by decide)]
theorem oc_c {u u' : St} (hh : ∀ j, j < 8 → f_isCalled u' j = f_isCalled u j) : ∀ (n i : Nat) (x : Int32), i + n ≤ 8 → oc u' n i x = oc u n i x := by
  intro n
  induction n with
  | zero => intro i x _; rfl
  | succ n ih =>
    intro i x hi
    unfold oc
    rw [hh i (by omega), ih (i + 1) 0 (by omega), ih (i + 1) 1 (by omega)]
def stepR (u : St) (r : Nat) (b : Int32) : St := if u 31 r = 1 then f_R_advanceGreen u r (u 30 r).toNatClampNeg b else if u 31 r = 0 then u else f_R_advanceEnding u r (u 30 r).toNatClampNeg
theorem adv_s (u : St) (n i : Nat) (b : Int32) : f_advanceRings_24 (n + 1) i b u = f_advanceRings_24 n (i + 1) b (stepR u i b) := by
  unfold stepR
  rw [show f_advanceRings_24 (n + 1) i b u = (if u 31 i = 1 then f_advanceRings_24 n (i + 1) b (f_R_advanceGreen u i (u 30 i).toNatClampNeg b) else (if u 31 i = 0 then f_advanceRings_24 n (i + 1) b u else f_advanceRings_24 n (i + 1) b (f_R_advanceEnding u i (u 30 i).toNatClampNeg))) from rfl]
  split
  · rfl
  · split <;> rfl
theorem ag_off {u : St} {r k g i : Nat} {b : Int32} (hq : ¬ (32 ≤ g ∧ g ≤ 37 ∧ i = r)) : f_R_advanceGreen u r k b g i = u g i := by
  unfold f_R_advanceGreen f_R_advanceGreen_10 f_R_advanceGreen_53 f_R_advanceGreen_71
  repeat' split
  all_goals (repeat rw [up2_off _ _ (by omega)])
theorem enter_off {u : St} {r g i : Nat} {x : Int32} (hq : ¬ (30 ≤ g ∧ g ≤ 37 ∧ i = r)) : f_R_enter u r x g i = u g i := by
  unfold f_R_enter
  repeat rw [up2_off _ _ (by omega)]
theorem dark_off {u : St} {r g i : Nat} (hq : ¬ (30 ≤ g ∧ g ≤ 37 ∧ i = r)) : f_R_goDark u r g i = u g i := by
  unfold f_R_goDark
  rw [up2_off _ _ (by omega), enter_off hq]
theorem yel_off {u : St} {r g i : Nat} {x : Int32} (hq : ¬ (30 ≤ g ∧ g ≤ 37 ∧ i = r)) : f_R_endGreen u r x g i = u g i := by
  unfold f_R_endGreen
  rw [up2_off _ _ (by omega), enter_off hq]
theorem m_dark_off {v : St} {r g i : Nat} (hq : ¬ (11 ≤ g ∧ g ≤ 18 ∧ i = r)) : f_m_goDark v r g i = v g i := by
  unfold f_m_goDark
  repeat rw [up2_off _ _ (by omega)]
theorem m_yel_off {v : St} {r g i : Nat} (hq : ¬ (11 ≤ g ∧ g ≤ 18 ∧ i = r)) : f_m_goYellow v r g i = v g i := by
  unfold f_m_goYellow
  repeat rw [up2_off _ _ (by omega)]
theorem RR_of {s : Nat} {c : Int32} {u v : St} {r : Nat} {mv ph ag lf pr nx wk cl : Int32} (h30 : u 30 r = mv) (h31 : u 31 r = ph) (h32 : u 32 r = ag) (h33 : u 33 r = lf) (h34 : u 34 r = pr) (h35 : u 35 r = nx) (h36 : u 36 r = wk) (h37 : u 37 r = cl)
    (k11 : v 11 r = mv) (k13 : v 13 r = ph) (k14 : v 14 r = ag) (k12 : v 12 r = nx) (k17 : v 17 r = wk) (k18 : v 18 r = cl) (hg : ph = 1 → v 15 r = lf ∧ v 16 r = pr ∧ 0 ≤ lf ∧ nx = -1) (hn : ¬ ph = 1 → lf = 0 ∧ pr = 0 ∧ wk = 0 ∧ cl = 0) (hw : 0 ≤ wk ∧ wk ≤ 100 ∧ 0 ≤ cl ∧ cl ≤ 200) (hp : ph = 0 ∨ ph = 1 ∨ ph = 2 ∨ ph = 3)
    (hd : ph = 0 → mv = -1) (ho : ¬ ph = 0 → ons s r mv) (hx : nx = -1 ∨ ons s r nx) (hc : c = 1 → ¬ ph = 1 ∧ nx = -1) : RR s c u v r := by
  unfold RR
  rw [h30, h31, h32, h33, h34, h35, h36, h37, k11, k12, k13, k14, k17, k18]
  exact ⟨⟨rfl, rfl, rfl, rfl, rfl, rfl⟩, hg, hn, hw, hp, hd, ho, hx, hc⟩
/-- dark -/
theorem Rel_dark (h : Rel s c u v) {r : Nat} (hr : r < 2) (hng : ¬ u 31 r = 1) : Rel s c (f_R_goDark u r) (f_m_goDark v r) := by
  refine Rel_rg h hr (fun g i q => dark_off q) (fun g i q => m_dark_off q) ?_
  obtain ⟨⟨e1, e2, e3, e4, e5, e6⟩, h1, h2, hw, h3, h4, h5, h6, h7⟩ := h.2.2.2.2.2.1 r hr
  exact RR_of (mv := -1) (ph := 0) (ag := 0) (lf := 0) (pr := 0) (nx := u 35 r) (wk := 0) (cl := 0) (by simp [f_R_goDark, f_R_enter, up2_at]) (by simp [f_R_goDark, f_R_enter, up2_at]) (by simp [f_R_goDark, f_R_enter, up2_at]) (by simp [f_R_goDark, f_R_enter, up2_at]) (by simp [f_R_goDark, f_R_enter, up2_at]) (by simp [f_R_goDark, f_R_enter, up2_at]) (by simp [f_R_goDark, f_R_enter, up2_at]) (by simp [f_R_goDark, f_R_enter, up2_at]) (by simp [f_m_goDark, up2_at]) (by simp [f_m_goDark, up2_at]) (by simp [f_m_goDark, up2_at]) (by simp [f_m_goDark, up2_at, e4]) (by simp [f_m_goDark, up2_at]) (by simp [f_m_goDark, up2_at]) (fun q => absurd q (by decide)) (fun _ => ⟨rfl, rfl, rfl, rfl⟩) (by decide) (Or.inl rfl) (fun _ => rfl) (fun q => absurd rfl q) h6 (fun q => ⟨by decide, (h7 q).2⟩)
/-- red behind -/
theorem Rel_behind (h : Rel s c u v) {r : Nat} (hr : r < 2) (hy : u 31 r = 2) : Rel s c (f_R_enter u r 3) (up2 (up2 v 13 r 3) 14 r 0) := by
  refine Rel_rg h hr (fun g i q => enter_off q) (fun g i q => by rw [up2_off _ _ (by omega), up2_off _ _ (by omega)]) ?_
  obtain ⟨⟨e1, e2, e3, e4, e5, e6⟩, h1, h2, hw, h3, h4, h5, h6, h7⟩ := h.2.2.2.2.2.1 r hr
  have z := h2 (by rw [hy]; decide)
  exact RR_of (mv := u 30 r) (ph := 3) (ag := 0) (lf := 0) (pr := 0) (nx := u 35 r) (wk := 0) (cl := 0) (by simp [f_R_enter, up2_at]) (by simp [f_R_enter, up2_at]) (by simp [f_R_enter, up2_at]) (by simp [f_R_enter, up2_at]) (by simp [f_R_enter, up2_at]) (by simp [f_R_enter, up2_at]) (by simp [f_R_enter, up2_at]) (by simp [f_R_enter, up2_at]) (by simp [up2_at, e1]) (by simp [up2_at]) (by simp [up2_at]) (by simp [up2_at, e4]) (by simp [up2_at, e5, z.2.2.1]) (by simp [up2_at, e6, z.2.2.2]) (fun q => absurd q (by decide)) (fun _ => ⟨rfl, rfl, rfl, rfl⟩) (by decide) (Or.inr (Or.inr (Or.inr rfl))) (fun q => absurd q (by decide)) (fun _ => h5 (by rw [hy]; decide)) h6 (fun q => ⟨by decide, (h7 q).2⟩)
/-- yellow -/
theorem Rel_yel (h : Rel s c u v) {r : Nat} (hr : r < 2) (hg : u 31 r = 1) (hw0 : f_R_walking u r = 0) {x : Int32} (hx : x = -1 ∨ ons s r x) : Rel s c (f_R_endGreen u r x) (f_m_goYellow (up2 v 12 r x) r) := by
  refine Rel_rg h hr (fun g i q => yel_off q) (fun g i q => by rw [m_yel_off q, up2_off _ _ (by omega)]) ?_
  obtain ⟨⟨e1, e2, e3, e4, e5, e6⟩, h1, h2, ⟨w1, w2, w3, w4⟩, h3, h4, h5, h6, h7⟩ := h.2.2.2.2.2.1 r hr
  obtain ⟨z1, z2, z3⟩ := walk0 w1 w2 w3 w4
  have zz : u 36 r = 0 ∧ u 37 r = 0 := by
    unfold f_R_walking at hw0
    by_cases a : u 36 r ≤ 0
    · rw [if_pos a] at hw0
      by_cases b : u 37 r ≤ 0
      · exact ⟨z2.mp a, z3.mp b⟩
      · rw [if_neg b] at hw0; exact absurd hw0 (by decide)
    · rw [if_neg a] at hw0; exact absurd hw0 (by decide)
  exact RR_of (mv := u 30 r) (ph := 2) (ag := 0) (lf := 0) (pr := 0) (nx := x) (wk := 0) (cl := 0) (by simp [f_R_endGreen, f_R_enter, up2_at]) (by simp [f_R_endGreen, f_R_enter, up2_at]) (by simp [f_R_endGreen, f_R_enter, up2_at]) (by simp [f_R_endGreen, f_R_enter, up2_at]) (by simp [f_R_endGreen, f_R_enter, up2_at]) (by simp [f_R_endGreen, f_R_enter, up2_at]) (by simp [f_R_endGreen, f_R_enter, up2_at]) (by simp [f_R_endGreen, f_R_enter, up2_at]) (by simp [f_m_goYellow, up2_at, e1]) (by simp [f_m_goYellow, up2_at]) (by simp [f_m_goYellow, up2_at]) (by simp [f_m_goYellow, up2_at]) (by simp [f_m_goYellow, up2_at, e5, zz.1]) (by simp [f_m_goYellow, up2_at, e6, zz.2]) (fun q => absurd q (by decide)) (fun _ => ⟨rfl, rfl, rfl, rfl⟩) (by decide) (Or.inr (Or.inr (Or.inl rfl))) (fun q => absurd q (by decide)) (fun _ => h5 (by rw [hg]; decide)) hx (fun q => absurd hg (h7 q).1)
theorem isG_of {u : St} {r k : Nat} (hk : k / 4 = r) (h1 : u 30 r = nI k) (h2 : u 31 r = 1) : f_isCalled u k = 0 := by
  unfold f_isCalled f_isGreen
  rw [hk, if_pos h1, if_pos h2]
  split
  · rfl
  · rfl
theorem st36 (h : Rel s c u v) {r k : Nat} (hr : r < 2) (hk : k < 8) (hng : ¬ u 31 r = 1) : (Rel s c (f_R_advanceEnding_36 u r k) (f_m_ageRing_237 v r (nI k)) ∧ g_m_ageRing_237 v r (nI k)) ∧ ¬ f_R_advanceEnding_36 u r k 31 r = 1 ∧ ∀ g i, ¬ (30 ≤ g ∧ g ≤ 37 ∧ i = r) → f_R_advanceEnding_36 u r k g i = u g i := by
  have e := (h.2.2.2.2.2.1 r hr).1
  refine ⟨⟨?_, ?_⟩, ?_, ?_⟩
  · unfold f_R_advanceEnding_36 f_m_ageRing_237
    rw [e.2.1, e.2.2.1, clp (by omega), time_eq h hk (by decide)]
    split
    · split
      · exact h
      · exact Rel_dark h hr hng
    · exact h
  · exact ⟨fun _ => vp_in_nI hk (by decide), fun _ => trivial⟩
  · unfold f_R_advanceEnding_36
    split
    · split
      · exact hng
      · unfold f_R_goDark f_R_enter
        simp only [up2_at, Nat.reduceEqDiff, false_and, true_and, and_true, ↓reduceIte]
        decide
    · exact hng
  · intro g i q
    unfold f_R_advanceEnding_36
    split
    · split
      · rfl
      · exact dark_off q
    · rfl
theorem st_end (h : Rel s c u v) {r k : Nat} (hr : r < 2) (hk : k < 8) (hng : ¬ u 31 r = 1) : (Rel s c (f_R_advanceEnding_10 u r k) (f_m_ageRing_198 v r (nI k)) ∧ g_m_ageRing_198 v r (nI k)) ∧ ¬ f_R_advanceEnding_10 u r k 31 r = 1 ∧ ∀ g i, ¬ (30 ≤ g ∧ g ≤ 37 ∧ i = r) → f_R_advanceEnding_10 u r k g i = u g i := by
  have e := (h.2.2.2.2.2.1 r hr).1
  have hb : u 31 r = 2 → ¬ f_R_enter u r 3 31 r = 1 := by
    intro _
    unfold f_R_enter
    simp only [up2_at, Nat.reduceEqDiff, false_and, true_and, and_true, ↓reduceIte]
    decide
  by_cases a : u 31 r = 2
  · by_cases q : u 32 r < u (20 + k) 3
    · have z := st36 h hr hk hng
      refine ⟨⟨?_, ?_⟩, ?_, ?_⟩
      · unfold f_R_advanceEnding_10 f_m_ageRing_198
        rw [e.2.1, e.2.2.1, clp (by omega), time_eq h hk (by decide), if_pos a, if_pos a, if_pos q, if_pos q]
        exact z.1.1
      · unfold g_m_ageRing_198
        rw [e.2.1, e.2.2.1, clp (by omega), time_eq h hk (by decide)]
        exact ⟨fun _ => ⟨vp_in_nI hk (by decide), fun _ => z.1.2, fun w => absurd q w⟩, fun w => absurd a w⟩
      · unfold f_R_advanceEnding_10; rw [if_pos a, if_pos q]; exact z.2.1
      · intro g i w; unfold f_R_advanceEnding_10; rw [if_pos a, if_pos q]; exact z.2.2 g i w
    · have z := st36 (Rel_behind h hr a) hr hk (hb a)
      refine ⟨⟨?_, ?_⟩, ?_, ?_⟩
      · unfold f_R_advanceEnding_10 f_m_ageRing_198
        rw [e.2.1, e.2.2.1, clp (by omega), time_eq h hk (by decide), if_pos a, if_pos a, if_neg q, if_neg q]
        exact z.1.1
      · unfold g_m_ageRing_198
        rw [e.2.1, e.2.2.1, clp (by omega), time_eq h hk (by decide)]
        exact ⟨fun _ => ⟨vp_in_nI hk (by decide), fun w => absurd w q, fun _ => z.1.2⟩, fun w => absurd a w⟩
      · unfold f_R_advanceEnding_10; rw [if_pos a, if_neg q]; exact z.2.1
      · intro g i w; unfold f_R_advanceEnding_10; rw [if_pos a, if_neg q]; exact (z.2.2 g i w).trans (enter_off w)
  · have z := st36 h hr hk hng
    refine ⟨⟨?_, ?_⟩, ?_, ?_⟩
    · unfold f_R_advanceEnding_10 f_m_ageRing_198
      rw [e.2.1, if_neg a, if_neg a]
      exact z.1.1
    · unfold g_m_ageRing_198
      rw [e.2.1]
      exact ⟨fun w => absurd w a, fun _ => z.1.2⟩
    · unfold f_R_advanceEnding_10; rw [if_neg a]; exact z.2.1
    · intro g i w; unfold f_R_advanceEnding_10; rw [if_neg a]; exact z.2.2 g i w
theorem green_ne {u u' : St} {r : Nat} (h1 : ∀ g i, ¬ (30 ≤ g ∧ g ≤ 37 ∧ i = r) → u' g i = u g i) (hn : ¬ u 31 r = 1) (hn' : ¬ u' 31 r = 1) (j : Nat) : f_isGreen u' j = f_isGreen u j := by
  unfold f_isGreen
  by_cases q : j / 4 = r
  · rw [q, if_neg hn, if_neg hn']
    split <;> split <;> rfl
  · rw [h1 30 _ (by omega), h1 31 _ (by omega)]
theorem green_eq {u u' : St} {r : Nat} (h1 : ∀ g i, ¬ (32 ≤ g ∧ g ≤ 37 ∧ i = r) → u' g i = u g i) (j : Nat) : f_isGreen u' j = f_isGreen u j := by
  unfold f_isGreen
  rw [h1 30 _ (by omega), h1 31 _ (by omega)]
/-- a ring's tick -/
theorem st_age (h : Rel s c u v) {r : Nat} (hr : r < 2) : Rel s c (stepR u r (oc u 8 0 0)) (f_m_ageRing v r) ∧ g_m_ageRing v r ∧ (¬ u 31 r = 0 → vp_in (u 30 r) 8) ∧ (∀ j, j < 8 → f_isCalled (stepR u r (oc u 8 0 0)) j = f_isCalled u j) ∧ ∀ i, stepR u r (oc u 8 0 0) 0 i = u 0 i := by
  have e := (h.2.2.2.2.2.1 r hr).1
  have e13 : ∀ y, up2 v 14 r y 13 r = u 31 r := fun y => by rw [up2_off _ _ (by omega)]; exact e.2.1
  by_cases a : u 31 r = 0
  · refine ⟨?_, ?_, fun w => absurd a w, fun j hj => ?_, fun i => ?_⟩
    · unfold stepR f_m_ageRing
      rw [e.2.1, if_pos a, if_neg (by rw [a]; decide), if_pos a]; exact h
    · unfold g_m_ageRing
      rw [e.2.1]; exact ⟨fun _ => trivial, fun w => absurd a w⟩
    · unfold stepR; rw [if_neg (by rw [a]; decide), if_pos a]
    · unfold stepR; rw [if_neg (by rw [a]; decide), if_pos a]
  · obtain ⟨k, hk, ek, ekr, -⟩ := green_k h hr a
    have h1 := Rel32 h hr (u 32 r + 1)
    have hin : vp_in (u 30 r) 8 := by rw [ek]; exact vp_in_nI hk (by decide)
    by_cases g1 : u 31 r = 1
    · have t31 : up2 u 32 r (u 32 r + 1) 31 r = 1 := by rw [up2_off _ _ (by omega)]; exact g1
      have t30 : up2 u 32 r (u 32 r + 1) 30 r = nI k := by rw [up2_off _ _ (by omega)]; exact ek
      have hcl : ∀ j, f_isCalled (up2 u 32 r (u 32 r + 1)) j = f_isCalled u j := fun j => called_c (fun g _ _ => up2_off _ _ (by omega)) (green_eq (r := r) (fun g i q => up2_off _ _ (by omega)) j)
      have ho := oc_eq h1 (r := r) hk (isG_of ekr t30 t31) 8 0 0 rfl (Or.inl rfl)
      rw [oc_c (fun j _ => hcl j) 8 0 0 (by decide)] at ho
      have z := st10 h1 hr t31 hk (oc u 8 0 0)
      refine ⟨?_, ?_, fun _ => hin, fun j hj => ?_, fun i => ?_⟩
      · unfold stepR f_m_ageRing
        rw [e13, e.2.1, e.1, e.2.2.1, if_pos g1, if_neg a, if_pos g1, ek, clp (by omega), ho.1]
        exact z.1
      · unfold g_m_ageRing
        rw [e13, e.2.1, e.1, e.2.2.1, ek]
        exact ⟨fun _ => trivial, fun _ => ⟨fun _ => ho.2 z.2, fun w => absurd g1 w⟩⟩
      · unfold stepR
        rw [if_pos g1]
        exact called_c (fun g _ _ => ag_off (by omega)) (green_eq (r := r) (fun g i q => ag_off q) j)
      · unfold stepR
        rw [if_pos g1]
        exact ag_off (by omega)
    · have t31 : ¬ up2 u 32 r (u 32 r + 1) 31 r = 1 := by rw [up2_off _ _ (by omega)]; exact g1
      have z := st_end h1 hr hk t31
      have off : ∀ g i, ¬ (30 ≤ g ∧ g ≤ 37 ∧ i = r) → f_R_advanceEnding u r k g i = u g i := fun g i q => (z.2.2 g i q).trans (up2_off _ _ (by omega))
      refine ⟨?_, ?_, fun _ => hin, fun j hj => ?_, fun i => ?_⟩
      · unfold stepR f_m_ageRing
        rw [e13, e.2.1, e.1, e.2.2.1, if_neg g1, if_neg a, if_neg a, if_neg g1, ek, clp (by omega)]
        exact z.1.1
      · unfold g_m_ageRing
        rw [e13, e.2.1, e.1, e.2.2.1, ek]
        exact ⟨fun _ => trivial, fun _ => ⟨fun w => absurd w g1, fun _ => z.1.2⟩⟩
      · unfold stepR
        rw [if_neg g1, if_neg a, ek, clp (by omega)]
        exact called_c (fun g _ _ => off g j (by omega)) (green_ne off g1 z.2.1 j)
      · unfold stepR
        rw [if_neg g1, if_neg a, ek, clp (by omega)]
        exact off 0 i (by omega)
end PA

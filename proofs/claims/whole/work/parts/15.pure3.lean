section PS
variable {s : Nat} {c : Int32} {u v : St}
theorem Rel_mv (h : Rel s c u v) {k : Nat} (hk : k < 8) {u' v' : St} (hu : ∀ g i, ¬ (10 ≤ g ∧ g ≤ 17 ∧ i = k) → u' g i = u g i) (hv : ∀ g i, ¬ (2 ≤ g ∧ g ≤ 9 ∧ i = k) → v' g i = v g i) (hM : RM u' v' k) : Rel s c u' v' :=
  Rel_fr h (fun _ => False) (fun i => i = k) (fun g i _ h2 _ => hu g i h2) (fun g i _ h2 _ => hv g i h2) (fun r _ hf => hf.elim) (fun q _ e => e ▸ hM) (Or.inr rfl)
theorem Rel_rg (h : Rel s c u v) {r : Nat} (hr : r < 2) {u' v' : St} (hu : ∀ g i, ¬ (30 ≤ g ∧ g ≤ 37 ∧ i = r) → u' g i = u g i) (hv : ∀ g i, ¬ (11 ≤ g ∧ g ≤ 18 ∧ i = r) → v' g i = v g i) (hR : RR s c u' v' r) : Rel s c u' v' :=
  Rel_fr h (fun i => i = r) (fun _ => False) (fun g i h1 _ _ => hu g i h1) (fun g i h1 _ _ => hv g i h1) (fun q _ e => e ▸ hR) (fun k _ hf => hf.elim) (Or.inr rfl)
theorem Rel14 (h : Rel s c u v) {k : Nat} (hk : k < 8) (x : Int32) : Rel s c (up2 u 14 k x) (up2 v 6 k x) := by
  refine Rel_mv h hk (fun g i q => up2_off _ _ (by omega)) (fun g i q => up2_off _ _ (by omega)) ?_
  obtain ⟨m1, m2, m3, m4, m5, m6, m7, m8, m9, m10, m11, m12⟩ := h.2.2.2.1 k hk
  unfold RM
  simp only [up2_at, Nat.reduceEqDiff, false_and, true_and, ↓reduceIte]
  exact ⟨m1, m2, m3, m4, m6, m7, m8, m9, m10, m11, m12⟩
theorem Rel15 (h : Rel s c u v) {k : Nat} (hk : k < 8) (x : Int32) : Rel s c (up2 u 15 k x) (up2 v 7 k x) := by
  refine Rel_mv h hk (fun g i q => up2_off _ _ (by omega)) (fun g i q => up2_off _ _ (by omega)) ?_
  obtain ⟨m1, m2, m3, m4, m5, m6, m7, m8, m9, m10, m11, m12⟩ := h.2.2.2.1 k hk
  unfold RM
  simp only [up2_at, Nat.reduceEqDiff, false_and, true_and, ↓reduceIte]
  exact ⟨m1, m2, m3, m4, m5, m7, m8, m9, m10, m11, m12⟩
theorem wait_s (v : St) (n i : Nat) : f_m_wait0_2 (n + 1) i v = if f_m_isCalled v i = 0 then (if (up2 v 6 i 0 6 i) ≤ (up2 v 6 i 0 7 i) then f_m_wait0_2 n (i + 1) (up2 (up2 v 6 i 0) 7 i (up2 v 6 i 0 7 i)) else f_m_wait0_2 n (i + 1) (up2 (up2 v 6 i 0) 7 i (up2 v 6 i 0 6 i))) else (if (up2 v 6 i (v 6 i + 1) 6 i) ≤ (up2 v 6 i (v 6 i + 1) 7 i) then f_m_wait0_2 n (i + 1) (up2 (up2 v 6 i (v 6 i + 1)) 7 i (up2 v 6 i (v 6 i + 1) 7 i)) else f_m_wait0_2 n (i + 1) (up2 (up2 v 6 i (v 6 i + 1)) 7 i (up2 v 6 i (v 6 i + 1) 6 i))) := rfl
theorem count_step (h : Rel s c u v) {i : Nat} (hi : i < 8) (n : Nat) : ∃ v', f_m_wait0_2 (n + 1) i v = f_m_wait0_2 n (i + 1) v' ∧ Rel s c (f_M_countWait u i (f_isCalled u i)) v' := by
  have hm := h.2.2.2.1 i hi
  unfold RM at hm
  have key : ∀ x : Int32, ∃ v', (if (up2 v 6 i x 6 i) ≤ (up2 v 6 i x 7 i) then f_m_wait0_2 n (i + 1) (up2 (up2 v 6 i x) 7 i (up2 v 6 i x 7 i)) else f_m_wait0_2 n (i + 1) (up2 (up2 v 6 i x) 7 i (up2 v 6 i x 6 i))) = f_m_wait0_2 n (i + 1) v' ∧ Rel s c (f_M_countWait_18 (up2 u 14 i x) i (f_isCalled u i)) v' := by
    intro x
    have e7 : up2 v 6 i x 7 i = u 15 i := by rw [up2_off _ _ (by omega)]; exact hm.2.2.2.2.2.1
    have e15 : up2 u 14 i x 15 i = u 15 i := up2_off _ _ (by omega)
    unfold f_M_countWait_18
    rw [up2_s, up2_s, e7, e15]
    by_cases q : x ≤ u 15 i
    · refine ⟨_, by rw [if_pos q], ?_⟩
      rw [if_neg (Int32.not_lt.mpr q)]
      exact Rel15 (Rel14 h hi x) hi _
    · refine ⟨_, by rw [if_neg q], ?_⟩
      rw [if_pos (Int32.not_le.mp q)]
      exact Rel15 (Rel14 h hi x) hi _
  unfold f_M_countWait
  rw [wait_s, called_eq h hi]
  by_cases a : f_isCalled u i = 0
  · rw [if_pos a, if_pos a]
    exact key 0
  · rw [if_neg a, if_neg a, hm.2.2.2.2.1]
    exact key (u 14 i + 1)
theorem count_all : ∀ (n i : Nat) (u v : St), i + n = 8 → Rel s c u v → Rel s c (f_countWaits_2 n i u) (f_m_wait0_2 n i v) := by
  intro n
  induction n with
  | zero => intro i u v _ h; exact h
  | succ n ih =>
    intro i u v hi h
    obtain ⟨v', e, h'⟩ := count_step h (i := i) (by omega) n
    rw [e]
    exact ih (i + 1) _ _ (by omega) h'
theorem st_count (h : Rel s c u v) : Rel s c (f_countWaits u) (f_m_wait0 v) := count_all 8 0 u v rfl h
-- rings, a register at a time
theorem Rel32 (h : Rel s c u v) {r : Nat} (hr : r < 2) (x : Int32) : Rel s c (up2 u 32 r x) (up2 v 14 r x) := by
  refine Rel_rg h hr (fun g i q => up2_off _ _ (by omega)) (fun g i q => up2_off _ _ (by omega)) ?_
  obtain ⟨⟨e1, e2, e3, e4, e5, e6⟩, hh⟩ := h.2.2.2.2.2.1 r hr
  unfold RR
  simp only [up2_at, Nat.reduceEqDiff, false_and, true_and, ↓reduceIte]
  exact ⟨⟨e1, e2, e4, e5, e6⟩, hh⟩
theorem Rel33 (h : Rel s c u v) {r : Nat} (hr : r < 2) (hg : u 31 r = 1) {x : Int32} (hx : 0 ≤ x) : Rel s c (up2 u 33 r x) (up2 v 15 r x) := by
  refine Rel_rg h hr (fun g i q => up2_off _ _ (by omega)) (fun g i q => up2_off _ _ (by omega)) ?_
  obtain ⟨he, h1, h2, hh⟩ := h.2.2.2.2.2.1 r hr
  unfold RR
  simp only [up2_at, Nat.reduceEqDiff, false_and, true_and, ↓reduceIte]
  exact ⟨he, fun q => ⟨(h1 q).2.1, hx, (h1 q).2.2.2⟩, fun q => absurd hg q, hh⟩
theorem Rel34 (h : Rel s c u v) {r : Nat} (hr : r < 2) (hg : u 31 r = 1) (x : Int32) : Rel s c (up2 u 34 r x) (up2 v 16 r x) := by
  refine Rel_rg h hr (fun g i q => up2_off _ _ (by omega)) (fun g i q => up2_off _ _ (by omega)) ?_
  obtain ⟨he, h1, h2, hh⟩ := h.2.2.2.2.2.1 r hr
  unfold RR
  simp only [up2_at, Nat.reduceEqDiff, false_and, true_and, ↓reduceIte]
  exact ⟨he, fun q => ⟨(h1 q).1, (h1 q).2.2⟩, fun q => absurd hg q, hh⟩
theorem Rel36 (h : Rel s c u v) {r : Nat} (hr : r < 2) (hg : u 31 r = 1) {x : Int32} (hx : 0 ≤ x ∧ x ≤ 100) : Rel s c (up2 u 36 r x) (up2 v 17 r x) := by
  refine Rel_rg h hr (fun g i q => up2_off _ _ (by omega)) (fun g i q => up2_off _ _ (by omega)) ?_
  obtain ⟨⟨e1, e2, e3, e4, e5, e6⟩, h1, h2, ⟨w1, w2, w3, w4⟩, hh⟩ := h.2.2.2.2.2.1 r hr
  unfold RR
  simp only [up2_at, Nat.reduceEqDiff, false_and, true_and, ↓reduceIte]
  exact ⟨⟨e1, e2, e3, e4, e6⟩, h1, fun q => absurd hg q, ⟨hx.1, hx.2, w3, w4⟩, hh⟩
theorem Rel37 (h : Rel s c u v) {r : Nat} (hr : r < 2) (hg : u 31 r = 1) {x : Int32} (hx : 0 ≤ x ∧ x ≤ 200) : Rel s c (up2 u 37 r x) (up2 v 18 r x) := by
  refine Rel_rg h hr (fun g i q => up2_off _ _ (by omega)) (fun g i q => up2_off _ _ (by omega)) ?_
  obtain ⟨⟨e1, e2, e3, e4, e5, e6⟩, h1, h2, ⟨w1, w2, w3, w4⟩, hh⟩ := h.2.2.2.2.2.1 r hr
  unfold RR
  simp only [up2_at, Nat.reduceEqDiff, false_and, true_and, and_true, ↓reduceIte]
  exact ⟨⟨e1, e2, e3, e4, e5⟩, h1, fun q => absurd hg q, ⟨w1, w2, hx.1, hx.2⟩, hh⟩
theorem dec_in {a : Int32} {n : Nat} {M : Int32} (hM : M.toInt = n) (h1 : ¬ a ≤ 0) (h2 : a ≤ M) : 0 ≤ a - 1 ∧ a - 1 ≤ M := by
  obtain ⟨i, hi, rfl⟩ := nI_of2 hM (fun q => h1 (Int32.le_of_lt q)) h2
  have hn : n < 2 ^ 31 := by have := M.toInt_lt; omega
  cases i with
  | zero => exact absurd (Int32.le_refl _) h1
  | succ i =>
    rw [nI_pred]
    refine ⟨nI_pos' (by omega), ?_⟩
    rw [Int32.le_iff_toInt_le, nI_toInt (by omega), hM]
    omega
theorem age198_g {v : St} {r : Nat} {x : Int32} (hg : v 13 r = 1) : f_m_ageRing_198 v r x = v := by
  unfold f_m_ageRing_198 f_m_ageRing_237
  rw [hg, if_neg (by decide), if_neg (by decide)]
theorem gd198_g {v : St} {r : Nat} {x : Int32} (hg : v 13 r = 1) : g_m_ageRing_198 v r x := by
  unfold g_m_ageRing_198 g_m_ageRing_237
  rw [hg]
  exact ⟨fun q => absurd q (by decide), fun _ => ⟨fun q => absurd q (by decide), fun _ => trivial⟩⟩
theorem st71 (h : Rel s c u v) {r : Nat} (hr : r < 2) (hg : u 31 r = 1) (k : Nat) (b x : Int32) : Rel s c (f_R_advanceGreen_71 u r k b) (f_m_ageRing_157 v r x) ∧ g_m_ageRing_157 v r x := by
  obtain ⟨⟨e1, e2, e3, e4, e5, e6⟩, h1, h2, ⟨w1, w2, w3, w4⟩, hh⟩ := h.2.2.2.2.2.1 r hr
  have hg' : v 13 r = 1 := by rw [e2, hg]
  have t17 : ∀ y, up2 v 17 r y 13 r = 1 := fun y => by rw [up2_off _ _ (by omega)]; exact hg'
  have t18 : ∀ y, up2 v 18 r y 13 r = 1 := fun y => by rw [up2_off _ _ (by omega)]; exact hg'
  constructor
  · unfold f_R_advanceGreen_71 f_m_ageRing_157
    rw [e5, e6]
    by_cases a : u 36 r ≤ 0
    · rw [if_pos a, if_pos a]
      by_cases b : u 37 r ≤ 0
      · rw [if_pos b, if_pos b, age198_g hg']; exact h
      · rw [if_neg b, if_neg b, age198_g (t18 _)]
        exact Rel37 h hr hg (dec_in (n := 200) (by decide) b w4)
    · rw [if_neg a, if_neg a, age198_g (t17 _)]
      exact Rel36 h hr hg (dec_in (n := 100) (by decide) a w2)
  · exact ⟨fun _ => ⟨fun _ => gd198_g hg', fun _ => gd198_g (t18 _)⟩, fun _ => gd198_g (t17 _)⟩
theorem st53 (h : Rel s c u v) {r : Nat} (hr : r < 2) (hg : u 31 r = 1) (k : Nat) (b x : Int32) : Rel s c (f_R_advanceGreen_53 u r k b) (f_m_ageRing_135 v r x b) ∧ g_m_ageRing_135 v r x b := by
  have e := ((h.2.2.2.2.2.1 r hr).2.1 hg).2.1
  have t34 : ∀ y, up2 u 34 r y 31 r = 1 := fun y => by rw [up2_off _ _ (by omega)]; exact hg
  constructor
  · unfold f_R_advanceGreen_53 f_m_ageRing_135
    rw [e]
    by_cases q : b = 0
    · rw [if_pos q, if_pos q]; exact (st71 (Rel34 h hr hg _) hr (t34 _) k b x).1
    · rw [if_neg q, if_neg q]; exact (st71 (Rel34 h hr hg _) hr (t34 _) k b x).1
  · unfold g_m_ageRing_135
    rw [e]
    exact ⟨fun _ => (st71 (Rel34 h hr hg _) hr (t34 _) k b x).2, fun _ => (st71 (Rel34 h hr hg _) hr (t34 _) k b x).2⟩
theorem left1 {a : Int32} (h : 0 ≤ a) : (a - 1 < 0 ↔ a ≤ 0) ∧ (¬ a ≤ 0 → 0 ≤ a - 1) := by
  obtain ⟨j, hj, rfl⟩ := nI_of (i_nlt h)
  cases j with
  | zero => decide
  | succ j =>
    rw [nI_pred]
    exact ⟨⟨fun q => absurd q (nI_pos (by omega)), fun q => absurd q (nI_nle (by omega) hj)⟩, fun _ => nI_pos' (by omega)⟩
theorem st10 (h : Rel s c u v) {r k : Nat} (hr : r < 2) (hg : u 31 r = 1) (hk : k < 8) (b : Int32) : Rel s c (f_R_advanceGreen_10 u r k b) (f_m_ageRing_42 r 0 8 b (nI k) v) ∧ g_m_ageRing_42 r 0 8 b (nI k) v := by
  have e := (h.2.2.2.2.2.1 r hr).2.1 hg
  have hm := h.2.2.2.1 k hk
  have ht := h.2.2.2.2.1 k hk 1 (by decide)
  have t33 : ∀ y, up2 u 33 r y 31 r = 1 := fun y => by rw [up2_off _ _ (by omega)]; exact hg
  obtain ⟨l1, l2⟩ := left1 e.2.2.1
  have p1 : 0 ≤ u (20 + k) 1 := ht.2.1
  constructor
  · unfold f_R_advanceGreen_10 f_m_ageRing_42 f_M_has f_m_has
    rw [clp (by omega), hm.2.1, hm.1, e.1, time_eq h hk (by decide)]
    by_cases a : u 11 k = 0
    · rw [if_pos a, if_pos a]
      by_cases q : u 10 k &&& 8 = 0
      · rw [if_pos q, if_pos rfl, if_pos rfl]
        by_cases w : u 33 r ≤ 0
        · rw [if_pos w, if_pos (l1.mpr w)]
          exact (st53 (Rel33 h hr hg (by decide)) hr (t33 _) k b (nI k)).1
        · rw [if_neg w, if_neg (fun z => w (l1.mp z))]
          exact (st53 (Rel33 h hr hg (l2 w)) hr (t33 _) k b (nI k)).1
      · rw [if_neg q, if_neg i10, if_neg i10]
        exact (st53 (Rel33 h hr hg p1) hr (t33 _) k b (nI k)).1
    · rw [if_neg a, if_neg a]
      exact (st53 (Rel33 h hr hg p1) hr (t33 _) k b (nI k)).1
  · unfold g_m_ageRing_42
    rw [clp (by omega), e.1, time_eq h hk (by decide)]
    refine ⟨vp_in_nI hk (by decide), fun _ => ⟨fun _ => ⟨fun _ => ?_, fun w => ?_⟩, fun _ => ?_⟩, fun _ => ?_⟩
    · exact (st53 (Rel33 h hr hg (by decide)) hr (t33 _) k b (nI k)).2
    · exact (st53 (Rel33 h hr hg (l2 w)) hr (t33 _) k b (nI k)).2
    · exact (st53 (Rel33 h hr hg p1) hr (t33 _) k b (nI k)).2
    · exact (st53 (Rel33 h hr hg p1) hr (t33 _) k b (nI k)).2
-- is any called
def oc (u : St) : Nat → Nat → Int32 → Int32
  | 0, _, x => x
  | n + 1, i, x => if x = 0 then (if f_isCalled u i = 0 then oc u n (i + 1) 0 else oc u n (i + 1) 1) else oc u n (i + 1) 1
theorem oc_eq (h : Rel s c u v) {r k : Nat} (hk : k < 8) (hq : f_isCalled u k = 0) : ∀ (n i : Nat) (x : Int32), i + n = 8 → (x = 0 ∨ x = 1) → f_m_ageRing_42 r n i x (nI k) v = f_m_ageRing_42 r 0 8 (oc u n i x) (nI k) v ∧ (g_m_ageRing_42 r 0 8 (oc u n i x) (nI k) v → g_m_ageRing_42 r n i x (nI k) v) := by
  intro n
  induction n with
  | zero => intro i x hi hx; obtain rfl : i = 8 := by omega
            exact ⟨rfl, id⟩
  | succ n ih =>
    intro i x hi hx
    rcases hx with rfl | rfl
    · by_cases e : nI i = nI k
      · have ei : i = k := (nI_eq (by omega) (by omega)).mp e
        subst ei
        have := ih (i + 1) 0 (by omega) (Or.inl rfl)
        constructor
        · unfold oc; rw [if_pos rfl, if_pos hq, ← this.1]; simp [f_m_ageRing_42]
        · unfold oc; rw [if_pos rfl, if_pos hq]; intro g
          exact ⟨fun _ => ⟨fun _ => this.2 g, fun z => absurd rfl z⟩, fun z => absurd rfl z⟩
      · by_cases a : f_isCalled u i = 0
        · have := ih (i + 1) 0 (by omega) (Or.inl rfl)
          constructor
          · unfold oc; rw [if_pos rfl, if_pos a, ← this.1]; simp [f_m_ageRing_42, e, called_eq h (show i < 8 by omega), a]
          · unfold oc; rw [if_pos rfl, if_pos a]; intro g
            exact ⟨fun _ => ⟨fun _ => this.2 g, fun _ => ⟨fun _ => this.2 g, fun z => absurd (by rw [called_eq h (by omega)]; exact a) z⟩⟩, fun z => absurd rfl z⟩
        · have := ih (i + 1) 1 (by omega) (Or.inr rfl)
          constructor
          · unfold oc; rw [if_pos rfl, if_neg a, ← this.1]; simp [f_m_ageRing_42, e, called_eq h (show i < 8 by omega), a]
          · unfold oc; rw [if_pos rfl, if_neg a]; intro g
            exact ⟨fun _ => ⟨fun z => absurd z e, fun _ => ⟨fun z => absurd (by rw [← called_eq h (by omega)]; exact z) a, fun _ => this.2 g⟩⟩, fun z => absurd rfl z⟩
    · have := ih (i + 1) 1 (by omega) (Or.inr rfl)
      constructor
      · unfold oc; rw [if_neg i10, ← this.1]; simp [f_m_ageRing_42]
      · unfold oc; rw [if_neg i10]; intro g
        exact ⟨fun z => absurd z i10, fun _ => this.2 g⟩
end PS

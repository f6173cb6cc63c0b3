-- THE TIE between the class's register file u and the reference's v; s: the side, c: is it crossing (the rings' clause)
def bl (x : Int32) : Prop := x = 0 ∨ x = 1
def ons (s r : Nat) (x : Int32) : Prop := x = nI (4 * r + 2 * s) ∨ x = nI (4 * r + 2 * s + 1)
def RG (u v : St) : Prop := v 0 19 = u 0 0 ∧ v 0 20 = u 0 1 ∧ v 0 21 = u 0 2 ∧ v 0 22 = u 0 3 ∧ v 0 23 = u 1 0 ∧ v 0 26 = u 1 1 ∧ bl (u 0 2) ∧ bl (u 1 1) ∧ (u 1 0 = 0 ∨ u 1 0 = 1 ∨ u 1 0 = 2 ∨ u 1 0 = 3)
def RM (u v : St) (k : Nat) : Prop := v 2 k = u 10 k ∧ v 3 k = u 11 k ∧ v 5 k = u 12 k ∧ v 4 k = u 13 k ∧ v 6 k = u 14 k ∧ v 7 k = u 15 k ∧ v 8 k = u 16 k ∧ v 9 k = u 17 k ∧ bl (u 11 k) ∧ bl (u 12 k) ∧ bl (u 13 k) ∧ (u 17 k = -1 ∨ u 17 k = 0 ∨ u 17 k = 1 ∨ u 17 k = 2)
def RT (u v : St) (k : Nat) : Prop := ∀ t, t < 7 → v 1 (7 * k + t) = u (20 + k) t ∧ jk_lo t ≤ u (20 + k) t ∧ u (20 + k) t ≤ jk_hi t
def RX (u v : St) (r : Nat) : Prop := ∀ t, t < 2 → v 10 (2 * r + t) = u (40 + r) t ∧ bl (u (40 + r) t)
def RS (u v : St) (k : Nat) : Prop := (u 3 k = 2 ↔ v 24 k = 2) ∧ (u 3 k = 1 ↔ v 24 k = 1) ∧ v 25 k = u 4 k
def RR (s : Nat) (c : Int32) (u v : St) (r : Nat) : Prop :=
  (v 11 r = u 30 r ∧ v 13 r = u 31 r ∧ v 14 r = u 32 r ∧ v 12 r = u 35 r ∧ v 17 r = u 36 r ∧ v 18 r = u 37 r)
  ∧ (u 31 r = 1 → v 15 r = u 33 r ∧ v 16 r = u 34 r ∧ 0 ≤ u 33 r ∧ u 35 r = -1)
  ∧ (¬ u 31 r = 1 → u 33 r = 0 ∧ u 34 r = 0 ∧ u 36 r = 0 ∧ u 37 r = 0)
  ∧ (0 ≤ u 36 r ∧ u 36 r ≤ 100 ∧ 0 ≤ u 37 r ∧ u 37 r ≤ 200)
  ∧ (u 31 r = 0 ∨ u 31 r = 1 ∨ u 31 r = 2 ∨ u 31 r = 3)
  ∧ (u 31 r = 0 → u 30 r = -1) ∧ (¬ u 31 r = 0 → ons s r (u 30 r)) ∧ (u 35 r = -1 ∨ ons s r (u 35 r))
  ∧ (c = 1 → ¬ u 31 r = 1 ∧ u 35 r = -1)
def Rel (s : Nat) (c : Int32) (u v : St) : Prop := s < 2 ∧ u 0 1 = nI s ∧ RG u v ∧ (∀ k, k < 8 → RM u v k) ∧ (∀ k, k < 8 → RT u v k) ∧ (∀ r, r < 2 → RR s c u v r) ∧ (∀ r, r < 2 → RX u v r) ∧ (∀ k, k < 8 → RS u v k)
theorem up2_off (u : St) {g i g' i' : Nat} (v : Int32) (h : ¬ (g' = g ∧ i' = i)) : up2 u g i v g' i' = u g' i' := by rw [up2_at, if_neg h]
/-- frames: what a tie reads -/
theorem RM_c {u v u' v' : St} {k : Nat} (h : RM u v k) (hu : ∀ g, 10 ≤ g → g ≤ 17 → u' g k = u g k) (hv : ∀ g, 2 ≤ g → g ≤ 9 → v' g k = v g k) : RM u' v' k := by
  unfold RM at *
  rw [hu 10 (by decide) (by decide), hu 11 (by decide) (by decide), hu 12 (by decide) (by decide), hu 13 (by decide) (by decide), hu 14 (by decide) (by decide), hu 15 (by decide) (by decide), hu 16 (by decide) (by decide), hu 17 (by decide) (by decide), hv 2 (by decide) (by decide), hv 3 (by decide) (by decide), hv 4 (by decide) (by decide), hv 5 (by decide) (by decide), hv 6 (by decide) (by decide), hv 7 (by decide) (by decide), hv 8 (by decide) (by decide), hv 9 (by decide) (by decide)]
  exact h
theorem RR_c {s : Nat} {c : Int32} {u v u' v' : St} {r : Nat} (h : RR s c u v r) (hu : ∀ g, 30 ≤ g → g ≤ 37 → u' g r = u g r) (hv : ∀ g, 11 ≤ g → g ≤ 18 → v' g r = v g r) : RR s c u' v' r := by
  unfold RR at *
  rw [hu 30 (by decide) (by decide), hu 31 (by decide) (by decide), hu 32 (by decide) (by decide), hu 33 (by decide) (by decide), hu 34 (by decide) (by decide), hu 35 (by decide) (by decide), hu 36 (by decide) (by decide), hu 37 (by decide) (by decide), hv 11 (by decide) (by decide), hv 12 (by decide) (by decide), hv 13 (by decide) (by decide), hv 14 (by decide) (by decide), hv 15 (by decide) (by decide), hv 16 (by decide) (by decide), hv 17 (by decide) (by decide), hv 18 (by decide) (by decide)]
  exact h
theorem RT_c {u v u' v' : St} {k : Nat} (h : RT u v k) (hu : ∀ t, u' (20 + k) t = u (20 + k) t) (hv : ∀ j, v' 1 j = v 1 j) : RT u' v' k := by
  intro t ht
  rw [hu, hv]
  exact h t ht
theorem RX_c {u v u' v' : St} {r : Nat} (h : RX u v r) (hu : ∀ t, u' (40 + r) t = u (40 + r) t) (hv : ∀ j, v' 10 j = v 10 j) : RX u' v' r := by
  intro t ht
  rw [hu, hv]
  exact h t ht
theorem RS_c {u v u' v' : St} {k : Nat} (h : RS u v k) (h3 : u' 3 k = u 3 k) (h4 : u' 4 k = u 4 k) (h24 : v' 24 k = v 24 k) (h25 : v' 25 k = v 25 k) : RS u' v' k := by
  unfold RS at *
  rw [h3, h4, h24, h25]
  exact h
theorem RG_c {u v u' v' : St} (h : RG u v) (h0 : ∀ i, u' 0 i = u 0 i) (h1 : ∀ i, u' 1 i = u 1 i) (hv : ∀ i, 19 ≤ i → v' 0 i = v 0 i) : RG u' v' := by
  unfold RG at *
  rw [h0 0, h0 1, h0 2, h0 3, h1 0, h1 1, hv 19 (by decide), hv 20 (by decide), hv 21 (by decide), hv 22 (by decide), hv 23 (by decide), hv 26 (by decide)]
  exact h
/-- a step that writes some rings and some movements alone (the reference's place 0 of group 0 is nobody's) -/
theorem Rel_fr {s : Nat} {c c' : Int32} {u v u' v' : St} (h : Rel s c u v) (Cr Cm : Nat → Prop)
    (hu : ∀ g i, ¬ (30 ≤ g ∧ g ≤ 37 ∧ Cr i) → ¬ (10 ≤ g ∧ g ≤ 17 ∧ Cm i) → ¬ g = 2 → u' g i = u g i)
    (hv : ∀ g i, ¬ (11 ≤ g ∧ g ≤ 18 ∧ Cr i) → ¬ (2 ≤ g ∧ g ≤ 9 ∧ Cm i) → ¬ (g = 0 ∧ i = 0) → v' g i = v g i)
    (hR : ∀ r, r < 2 → Cr r → RR s c' u' v' r) (hM : ∀ k, k < 8 → Cm k → RM u' v' k) (hc : (∀ r, r < 2 → Cr r) ∨ c' = c) : Rel s c' u' v' := by
  obtain ⟨h1, h2, h3, h4, h5, h6, h7, h8⟩ := h
  refine ⟨h1, ?_, ?_, ?_, ?_, ?_, ?_, ?_⟩
  · rw [hu 0 1 (by omega) (by omega) (by omega)]; exact h2
  · exact RG_c h3 (fun i => hu _ _ (by omega) (by omega) (by omega)) (fun i => hu _ _ (by omega) (by omega) (by omega)) (fun i hi => hv _ _ (by omega) (by omega) (by omega))
  · intro k hk
    by_cases hq : Cm k
    · exact hM k hk hq
    · exact RM_c (h4 k hk) (fun g a b => hu _ _ (by omega) (fun z => hq z.2.2) (by omega)) (fun g a b => hv _ _ (by omega) (fun z => hq z.2.2) (by omega))
  · intro k hk
    exact RT_c (h5 k hk) (fun t => by
      by_cases h3 : 20 + k = 30
      · omega
      · exact hu _ _ (by omega) (by omega) (by omega)) (fun t => hv _ _ (by omega) (by omega) (by omega))
  · intro r hr
    by_cases hq : Cr r
    · exact hR r hr hq
    · rcases hc with hc | rfl
      · exact absurd (hc r hr) hq
      · exact RR_c (h6 r hr) (fun g a b => hu _ _ (fun z => hq z.2.2) (by omega) (by omega)) (fun g a b => hv _ _ (fun z => hq z.2.2) (by omega) (by omega))
  · intro r hr
    exact RX_c (h7 r hr) (fun t => hu _ _ (by omega) (by omega) (by omega)) (fun t => hv _ _ (by omega) (by omega) (by omega))
  · intro k hk
    exact RS_c (h8 k hk) (hu _ _ (by omega) (by omega) (by omega)) (hu _ _ (by omega) (by omega) (by omega)) (hv _ _ (by omega) (by omega) (by omega)) (hv _ _ (by omega) (by omega) (by omega))
/-- small numbers -/
theorem nI_side {s : Nat} (hs : s < 2) : (1 : Int32) - nI s = nI (1 - s) := by
  rcases (show s = 0 ∨ s = 1 by omega) with rfl | rfl <;> decide
theorem has28 (m : Int32) : (m &&& 28 = 0) ↔ (m &&& 4 = 0) ∧ (m &&& 8 = 0) ∧ (m &&& 16 = 0) := by
  have e : m &&& 28 = (m &&& 4) ||| ((m &&& 8) ||| (m &&& 16)) := by
    apply Int32.toBitVec_inj.mp
    simp only [Int32.toBitVec_and, Int32.toBitVec_or]
    rw [← BitVec.and_or_distrib_left, ← BitVec.and_or_distrib_left]
    rfl
  have o : ∀ x y : Int32, (x ||| y = 0) ↔ x = 0 ∧ y = 0 := by
    intro x y
    constructor
    · intro h
      have h' : x.toBitVec ||| y.toBitVec = 0#32 := by
        have := congrArg Int32.toBitVec h
        simpa using this
      have := BitVec.or_eq_zero_iff.mp h'
      exact ⟨Int32.toBitVec_inj.mp this.1, Int32.toBitVec_inj.mp this.2⟩
    · rintro ⟨rfl, rfl⟩
      rfl
  rw [e, o, o]

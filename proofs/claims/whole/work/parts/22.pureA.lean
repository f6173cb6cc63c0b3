section PG
variable {s : Nat} {c : Int32} {u v : St}
theorem Rel_seen (h : Rel s c u v) {i : Nat} (x y : Int32) : Rel s c (up2 (up2 u 3 i x) 4 i y) (up2 (up2 v 24 i x) 25 i y) := by
  obtain ⟨h1, h2, h3, h4, h5, h6, h7, h8⟩ := h
  have hu : ∀ g j, ¬ (g = 3 ∨ g = 4) → up2 (up2 u 3 i x) 4 i y g j = u g j := fun g j q => by rw [up2_off _ _ (by omega), up2_off _ _ (by omega)]
  have hv : ∀ g j, ¬ (g = 24 ∨ g = 25) → up2 (up2 v 24 i x) 25 i y g j = v g j := fun g j q => by rw [up2_off _ _ (by omega), up2_off _ _ (by omega)]
  refine ⟨h1, by rw [hu 0 1 (by omega)]; exact h2, RG_c h3 (fun j => hu _ _ (by omega)) (fun j => hu _ _ (by omega)) (fun j _ => hv _ _ (by omega)), fun k hk => ?_, fun k hk => ?_, fun r hr => ?_, fun r hr => ?_, fun k hk => ?_⟩
  · exact RM_c (h4 k hk) (fun g a b => hu _ _ (by omega)) (fun g a b => hv _ _ (by omega))
  · exact RT_c (h5 k hk) (fun t => hu _ _ (by omega)) (fun j => hv _ _ (by omega))
  · exact RR_c (h6 r hr) (fun g a b => hu _ _ (by omega)) (fun g a b => hv _ _ (by omega))
  · exact RX_c (h7 r hr) (fun t => hu _ _ (by omega)) (fun j => hv _ _ (by omega))
  · by_cases q : k = i
    · subst q
      unfold RS
      simp only [up2_at, Nat.reduceEqDiff, false_and, true_and, ↓reduceIte]
    · exact RS_c (h8 k hk) (by rw [up2_off _ _ (by omega), up2_off _ _ (by omega)]) (by rw [up2_off _ _ (by omega), up2_off _ _ (by omega)]) (by rw [up2_off _ _ (by omega), up2_off _ _ (by omega)]) (by rw [up2_off _ _ (by omega), up2_off _ _ (by omega)])
theorem Rel_lights (h : Rel s c u v) {L : St} (hL : ∀ g j, ¬ g = 2 → L g j = u g j) : Rel s c L v :=
  Rel_fr h (fun _ => False) (fun _ => False) (fun g i _ _ q => hL g i q) (fun _ _ _ _ _ => rfl) (fun r _ q => q.elim) (fun k _ q => q.elim) (Or.inr rfl)
/-- what the guard has seen -/
theorem seen_all : ∀ (n i : Nat) (u v : St), i + n = 8 → Rel s c u v → (∀ j, j < 8 → u 2 j = f_shownLight u j) → Rel s c (f_G_look_22 n i u) (f_m_look_187 n i v) ∧ ∀ g j, ¬ (g = 3 ∨ g = 4) → f_G_look_22 n i u g j = u g j := by
  intro n
  induction n with
  | zero => intro i u v _ h _; exact ⟨h, fun _ _ _ => rfl⟩
  | succ n ih =>
    intro i u v hi h hl
    have hi8 : i < 8 := by omega
    have el : f_m_lightOf v i = u 2 i := by rw [light_eq h hi8, hl i hi8]
    have e25 : v 25 i = u 4 i := (h.2.2.2.2.2.2.2 i hi8).2.2
    have eU : f_G_look_22 (n + 1) i u = (if up2 u 3 i (u 2 i) 2 i = 1 then f_G_look_22 n (i + 1) (up2 (up2 u 3 i (u 2 i)) 4 i (up2 u 3 i (u 2 i) 4 i + 1)) else f_G_look_22 n (i + 1) (up2 (up2 u 3 i (u 2 i)) 4 i 0)) := rfl
    have eV : f_m_look_187 (n + 1) i v = (if up2 v 24 i (f_m_lightOf v i) 24 i = 1 then f_m_look_187 n (i + 1) (up2 (up2 v 24 i (f_m_lightOf v i)) 25 i (up2 v 24 i (f_m_lightOf v i) 25 i + 1)) else f_m_look_187 n (i + 1) (up2 (up2 v 24 i (f_m_lightOf v i)) 25 i 0)) := rfl
    rw [up2_off (g' := 2) _ _ (by omega), up2_off (g' := 4) _ _ (by omega)] at eU
    rw [up2_s, up2_off (g' := 25) _ _ (by omega), el, e25] at eV
    have st : ∀ y, Rel s c (f_G_look_22 n (i + 1) (up2 (up2 u 3 i (u 2 i)) 4 i y)) (f_m_look_187 n (i + 1) (up2 (up2 v 24 i (u 2 i)) 25 i y)) ∧ ∀ g j, ¬ (g = 3 ∨ g = 4) → f_G_look_22 n (i + 1) (up2 (up2 u 3 i (u 2 i)) 4 i y) g j = u g j := by
      intro y
      have hu : ∀ g j, ¬ (g = 3 ∨ g = 4) → up2 (up2 u 3 i (u 2 i)) 4 i y g j = u g j := fun g j q => by rw [up2_off _ _ (by omega), up2_off _ _ (by omega)]
      have z := ih (i + 1) _ _ (by omega) (Rel_seen h (i := i) (u 2 i) y) (fun j hj => by rw [hu 2 j (by omega), hl j hj]; exact (shown_c (hu _ _ (by omega)) (hu _ _ (by omega)) (hu _ _ (by omega))).symm)
      exact ⟨z.1, fun g j q => (z.2 g j q).trans (hu g j q)⟩
    rw [eU, eV]
    by_cases a : u 2 i = 1
    · rw [if_pos a, if_pos a]; exact st _
    · rw [if_neg a, if_neg a]; exact st _
theorem lpos (h : Rel s c u v) {k : Nat} (hk : k < 8) : (f_m_lightOf v k ≤ 0 ↔ f_shownLight u k = 0) := by
  rw [light_eq h hk]
  rcases light_v h hk with e | e | e <;> rw [e] <;> decide
/-- THE GUARD'S LOOK -/
theorem st_look (h : Rel s c u v) : Rel s c (f_showLightsToGuard u) (f_m_look v) ∧ g_showLightsToGuard u ∧ (∀ i, f_showLightsToGuard u 0 i = u 0 i) ∧ ∀ k, f_showLightsToGuard u 16 k = u 16 k := by
  obtain ⟨L, l1, l2, l3, l4, -⟩ := sl_all 8 0 u rfl
  have hL := Rel_lights h l3
  have hs : ∀ j, j < 8 → L 2 j = f_shownLight L j := fun j hj => by
    rw [l4 j (Nat.zero_le _) hj]
    exact (shown_c (l3 _ _ (by decide)) (l3 _ _ (by decide)) (l3 _ _ (by decide))).symm
  have li : ∀ j, j < 8 → f_m_lightOf v j = L 2 j := fun j hj => by rw [light_eq hL hj, hs j hj]
  have lp : ∀ j, j < 8 → (f_m_lightOf v j ≤ 0 ↔ L 2 j = 0) := fun j hj => by rw [hs j hj]; exact lpos hL hj
  obtain ⟨B1, B2, B3, e9, k1, k2, k3⟩ := look9_all v 8 0 0 0 0 rfl (Or.inl rfl) (Or.inl rfl) (Or.inl rfl)
  have aw := aw2 L 8 0 rfl
  have eA : f_anyInTheWay L = f_anyInTheWay_2 L 8 0 := rfl
  rw [← eA] at aw
  -- the same clash
  have hb : f_anyInTheWay L = B1 ∧ (B1 = 0 ∨ B1 = 1) := by
    rcases k1 with ⟨z1, -, z3⟩ | ⟨z1, z2⟩
    · refine ⟨?_, Or.inl z1⟩
      rcases aw with ⟨y1, -⟩ | ⟨-, p, q, a, b, d1, d2, d3⟩
      · rw [y1, z1]
      · exact absurd ⟨q, b, by rw [← way_eq p (by omega) q b]; exact d3, fun w => d1 ((lp p (by omega)).mp w), fun w => d2 ((lp q b).mp w)⟩ (z3 p (Nat.zero_le _) (by omega))
    · refine ⟨?_, Or.inr z1⟩
      rcases z2 with z2 | ⟨p, -, hp, q, hq, w1, w2, w3⟩
      · exact absurd z2.symm i10
      · rcases aw with ⟨-, y2⟩ | ⟨y1, -⟩
        · exfalso
          have ne : ¬ p = q := fun w => by subst w; exact w1 (way_irr p hp)
          have n1 : ¬ L 2 p = 0 := fun w => w2 ((lp p hp).mpr w)
          have n2 : ¬ L 2 q = 0 := fun w => w3 ((lp q hq).mpr w)
          rcases Nat.lt_or_gt_of_ne ne with w | w
          · exact y2 p q (Nat.zero_le _) w hq ⟨n1, n2, by rw [way_eq p hp q hq]; exact w1⟩
          · exact y2 q p (Nat.zero_le _) w hp ⟨n2, n1, by rw [way_eq q hq p hp, way_sym q hq p hp]; exact w1⟩
        · rw [y1, z1]
  obtain ⟨hb1, hb2⟩ := hb
  have t2 : ∀ p, p < 8 → (U2 L p ↔ T2 v p) := fun p hp => by
    unfold U2 T2
    rw [li p hp, (hL.2.2.2.2.2.2.2 p hp).1]
  have t3 : ∀ p, p < 8 → (U3 L p ↔ T3 v p) := fun p hp => by
    obtain ⟨-, r2, r3⟩ := hL.2.2.2.2.2.2.2 p hp
    unfold U3 T3 f_G_hadShortYellow
    rw [li p hp, r3, ← r2]
    by_cases a : L 3 p = 1 <;> by_cases b : 3 ≤ L 4 p <;> simp [a, b, i10]
  have hlf := lf_all L (f_anyInTheWay L) 8 0 0 rfl (Or.inl rfl)
  have g11 : v 0 26 = L 1 1 := hL.2.2.1.2.2.2.2.2.1
  have lv : f_G_leastFault_18 L (f_anyInTheWay L) 8 0 0 = (if B2 = 0 then (if B3 = 0 then 0 else 3) else 2) ∧ (f_G_leastFault_18 L (f_anyInTheWay L) 8 0 0 = 0 ∨ f_G_leastFault_18 L (f_anyInTheWay L) 8 0 0 = 2 ∨ f_G_leastFault_18 L (f_anyInTheWay L) 8 0 0 = 3) := by
    rcases hlf with ⟨z1, p, -, hp, w⟩ | ⟨z1, z2, z3⟩ | ⟨z1, -, z2, z3⟩
    · rw [z1]
      rcases k2 with ⟨-, -, y⟩ | ⟨y, -⟩
      · exact absurd ((t2 p hp).mp w) (y p (Nat.zero_le _) hp)
      · rw [y, if_neg i10]; exact ⟨rfl, Or.inr (Or.inl rfl)⟩
    · rw [z1]
      rcases k2 with ⟨y, -, -⟩ | ⟨-, y⟩
      · rw [y, if_pos rfl]
        rcases k3 with ⟨-, -, x⟩ | ⟨x, -⟩
        · rcases z3 with z3 | ⟨p, -, hp, w⟩
          · exact absurd z3 (by decide)
          · exact absurd ((t3 p hp).mp w) (x p (Nat.zero_le _) hp)
        · rw [x, if_neg i10]; exact ⟨rfl, Or.inr (Or.inr rfl)⟩
      · rcases y with y | ⟨p, -, hp, w⟩
        · exact absurd y.symm i10
        · exact absurd ((t2 p hp).mpr w) (z2 p (Nat.zero_le _) hp)
    · rw [z1]
      rcases k2 with ⟨y, -, -⟩ | ⟨-, y⟩
      · rw [y, if_pos rfl]
        rcases k3 with ⟨x, -, -⟩ | ⟨-, x⟩
        · rw [x, if_pos rfl]; exact ⟨rfl, Or.inl rfl⟩
        · rcases x with x | ⟨p, -, hp, w⟩
          · exact absurd x.symm i10
          · exact absurd ((t3 p hp).mpr w) (z3 p (Nat.zero_le _) hp)
      · rcases y with y | ⟨p, -, hp, w⟩
        · exact absurd y.symm i10
        · exact absurd ((t2 p hp).mpr w) (z2 p (Nat.zero_le _) hp)
  -- the fault
  have hF : f_m_look v = f_m_look_187 8 0 (up2 (up2 v 0 23 (f_G_leastFault L (f_anyInTheWay L))) 0 26 (f_anyInTheWay L)) := by
    unfold f_m_look
    rw [e9]
    have e0 : f_m_look_9 0 8 B1 B2 B3 v = (if B1 = 0 then (if B2 = 0 then (if B3 = 0 then f_m_look_187 8 0 (up2 (up2 v 0 23 0) 0 26 B1) else f_m_look_187 8 0 (up2 (up2 v 0 23 3) 0 26 B1)) else f_m_look_187 8 0 (up2 (up2 v 0 23 2) 0 26 B1)) else (if v 0 26 = 0 then (if B2 = 0 then (if B3 = 0 then f_m_look_187 8 0 (up2 (up2 v 0 23 0) 0 26 B1) else f_m_look_187 8 0 (up2 (up2 v 0 23 3) 0 26 B1)) else f_m_look_187 8 0 (up2 (up2 v 0 23 2) 0 26 B1)) else f_m_look_187 8 0 (up2 (up2 v 0 23 1) 0 26 B1))) := rfl
    rw [e0]
    unfold f_G_leastFault
    rw [lv.1, hb1, g11]
    by_cases a : B1 = 0 <;> by_cases b : B2 = 0 <;> by_cases d : B3 = 0 <;> by_cases w : L 1 1 = 0 <;> simp only [a, b, d, w, ↓reduceIte]
  have fv : f_G_leastFault L (f_anyInTheWay L) = 0 ∨ f_G_leastFault L (f_anyInTheWay L) = 1 ∨ f_G_leastFault L (f_anyInTheWay L) = 2 ∨ f_G_leastFault L (f_anyInTheWay L) = 3 := by
    unfold f_G_leastFault
    have w := lv.2
    split
    · rcases w with w | w | w <;> rw [w] <;> decide
    · split
      · rcases w with w | w | w <;> rw [w] <;> decide
      · exact Or.inr (Or.inl rfl)
  have bv : f_anyInTheWay L = 0 ∨ f_anyInTheWay L = 1 := by rw [hb1]; exact hb2
  have hu : ∀ g j, ¬ g = 1 → up2 (up2 L 1 0 (f_G_leastFault L (f_anyInTheWay L))) 1 1 (f_anyInTheWay L) g j = L g j := fun g j q => by rw [up2_off _ _ (by omega), up2_off _ _ (by omega)]
  have hX : Rel s c (up2 (up2 L 1 0 (f_G_leastFault L (f_anyInTheWay L))) 1 1 (f_anyInTheWay L)) (up2 (up2 v 0 23 (f_G_leastFault L (f_anyInTheWay L))) 0 26 (f_anyInTheWay L)) := by
    refine Rel_gl hL (fun g i q => hu g i (by omega)) (fun g i q => by rw [up2_off _ _ (by omega), up2_off _ _ (by omega)]) h.1 (by rw [hu 0 1 (by decide)]; exact hL.2.1) ?_ hL.2.2.2.2.2.1
    have hg := hL.2.2.1
    unfold RG at hg ⊢
    simp only [up2_at, Nat.reduceEqDiff, false_and, true_and, and_true, and_false, ↓reduceIte]
    exact ⟨hg.1, hg.2.1, hg.2.2.1, hg.2.2.2.1, hg.2.2.2.2.2.2.1, bv, fv⟩
  have z := seen_all 8 0 _ _ rfl hX (fun j hj => by rw [hu 2 j (by decide), hs j hj]; exact (shown_c (hu _ _ (by decide)) (hu _ _ (by decide)) (hu _ _ (by decide))).symm)
  have eS : f_showLightsToGuard u = f_G_look_22 8 0 (up2 (up2 L 1 0 (f_G_leastFault L (f_anyInTheWay L))) 1 1 (f_anyInTheWay L)) := l1
  refine ⟨by rw [eS, hF]; exact z.1, l2 bv, fun i => ?_, fun k => ?_⟩
  · rw [eS, z.2 0 i (by decide), hu 0 i (by decide), l3 0 i (by decide)]
  · rw [eS, z.2 16 k (by decide), hu 16 k (by decide), l3 16 k (by decide)]
end PG

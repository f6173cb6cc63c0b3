section PF
variable {s : Nat} {c : Int32} {u v : St}
theorem way_eq : ∀ p, p < 8 → ∀ q, q < 8 → f_areInWay p q = f_m_areInWay p q := by decide +kernel
theorem way_sym : ∀ p, p < 8 → ∀ q, q < 8 → f_m_areInWay p q = f_m_areInWay q p := by decide +kernel
theorem way_irr : ∀ p, p < 8 → f_m_areInWay p p = 0 := by decide +kernel
theorem shown_c {u u' : St} {k : Nat} (h17 : u' 17 k = u 17 k) (h30 : u' 30 (k / 4) = u 30 (k / 4)) (h31 : u' 31 (k / 4) = u 31 (k / 4)) : f_shownLight u' k = f_shownLight u k := by
  unfold f_shownLight f_toldLight; rw [h17, h30, h31]
theorem sl_all : ∀ (n i : Nat) (u : St), i + n = 8 → ∃ L, f_showLightsToGuard_2 n i u = f_G_look L ∧ (g_G_look L → g_showLightsToGuard_2 n i u) ∧ (∀ g j, ¬ g = 2 → L g j = u g j) ∧ (∀ j, i ≤ j → j < 8 → L 2 j = f_shownLight u j) ∧ ∀ j, j < i → L 2 j = u 2 j := by
  intro n
  induction n with
  | zero => intro i u hi; exact ⟨u, rfl, id, fun _ _ _ => rfl, fun j a b => absurd b (by omega), fun _ _ => rfl⟩
  | succ n ih =>
    intro i u hi
    obtain ⟨L, h1, h2, h3, h4, h5⟩ := ih (i + 1) (up2 u 2 i (f_shownLight u i)) (by omega)
    refine ⟨L, h1, h2, fun g j q => by rw [h3 g j q, up2_off _ _ (by omega)], fun j a b => ?_, fun j a => by rw [h5 j (by omega), up2_off _ _ (by omega)]⟩
    by_cases e : j = i
    · subst e; rw [h5 j (by omega)]; exact up2_s _ _ _ _
    · rw [h4 j (by omega) b]
      exact shown_c (up2_off _ _ (by omega)) (up2_off _ _ (by omega)) (up2_off _ _ (by omega))
def PQ (L : St) (p q : Nat) : Prop := ¬ L 2 p = 0 ∧ ¬ L 2 q = 0 ∧ ¬ f_areInWay p q = 0
theorem aw12 (L : St) (K : Int32) (k : Nat) : ∀ n i, (f_anyInTheWay_12 L K n i k = K ∧ ∀ j, i ≤ j → j < i + n → ¬ PQ L k j) ∨ (f_anyInTheWay_12 L K n i k = 1 ∧ ∃ j, i ≤ j ∧ j < i + n ∧ PQ L k j) := by
  intro n
  induction n with
  | zero => intro i; exact Or.inl ⟨rfl, fun j a b => absurd b (by omega)⟩
  | succ n ih =>
    intro i
    have e : f_anyInTheWay_12 L K (n + 1) i k = (if L 2 k = 0 then f_anyInTheWay_12 L K n (i + 1) k else (if L 2 i = 0 then f_anyInTheWay_12 L K n (i + 1) k else (if f_areInWay k i = 0 then f_anyInTheWay_12 L K n (i + 1) k else 1))) := rfl
    by_cases h : PQ L k i
    · rw [e, if_neg h.1, if_neg h.2.1, if_neg h.2.2]
      exact Or.inr ⟨rfl, i, Nat.le_refl _, by omega, h⟩
    · have e2 : f_anyInTheWay_12 L K (n + 1) i k = f_anyInTheWay_12 L K n (i + 1) k := by
        rw [e]
        by_cases a : L 2 k = 0
        · rw [if_pos a]
        · rw [if_neg a]
          by_cases b : L 2 i = 0
          · rw [if_pos b]
          · rw [if_neg b]
            by_cases d : f_areInWay k i = 0
            · rw [if_pos d]
            · exact absurd ⟨a, b, d⟩ h
      rw [e2]
      rcases ih (i + 1) with ⟨z1, z2⟩ | ⟨z1, j, a, b, d⟩
      · refine Or.inl ⟨z1, fun j a b => ?_⟩
        by_cases q : j = i
        · subst q; exact h
        · exact z2 j (by omega) (by omega)
      · exact Or.inr ⟨z1, j, by omega, by omega, d⟩
theorem aw2 (L : St) : ∀ n i, i + n = 8 → (f_anyInTheWay_2 L n i = 0 ∧ ∀ p q, i ≤ p → p < q → q < 8 → ¬ PQ L p q) ∨ (f_anyInTheWay_2 L n i = 1 ∧ ∃ p q, p < q ∧ q < 8 ∧ PQ L p q) := by
  intro n
  induction n with
  | zero => intro i hi; exact Or.inl ⟨rfl, fun p q a b d => absurd d (by omega)⟩
  | succ n ih =>
    intro i hi
    have e : f_anyInTheWay_2 L (n + 1) i = f_anyInTheWay_12 L (f_anyInTheWay_2 L n (i + 1)) (8 - (i + 1)) (i + 1) i := rfl
    rw [e]
    rcases aw12 L (f_anyInTheWay_2 L n (i + 1)) i (8 - (i + 1)) (i + 1) with ⟨z1, z2⟩ | ⟨z1, j, a, b, d⟩
    · rw [z1]
      rcases ih (i + 1) (by omega) with ⟨y1, y2⟩ | y
      · refine Or.inl ⟨y1, fun p q a b d => ?_⟩
        by_cases w : p = i
        · subst w; exact z2 q (by omega) (by omega)
        · exact y2 p q (by omega) b d
      · exact Or.inr y
    · exact Or.inr ⟨z1, i, j, by omega, by omega, d⟩
-- the reference's look
def c27 (v : St) (k4 : Nat) (x5 : Int32) : Nat → Nat → Int32 → Int32
  | 0, _, b => b
  | n + 1, i, b => if b = 0 then (if f_m_areInWay k4 i = 0 then c27 v k4 x5 n (i + 1) 0 else (if x5 ≤ 0 then c27 v k4 x5 n (i + 1) 0 else (if f_m_lightOf v i ≤ 0 then c27 v k4 x5 n (i + 1) 0 else c27 v k4 x5 n (i + 1) 1))) else c27 v k4 x5 n (i + 1) 1
theorem c27_eq (K : Int32 → Int32 → Int32 → Int32 → St → St) (v : St) (k4 : Nat) (x5 b2 b3 : Int32) : ∀ n i b1, f_m_look_27 K n i b1 b2 b3 x5 k4 v = K (c27 v k4 x5 n i b1) b2 b3 x5 v := by
  intro n
  induction n with
  | zero => intro i b1; rfl
  | succ n ih =>
    intro i b1
    simp only [f_m_look_27, c27, ih]
    repeat' split
    all_goals rfl
def QQ (v : St) (k : Nat) (x : Int32) (j : Nat) : Prop := ¬ f_m_areInWay k j = 0 ∧ ¬ x ≤ 0 ∧ ¬ f_m_lightOf v j ≤ 0
theorem c27_or (v : St) (k4 : Nat) (x5 : Int32) : ∀ n i b, (b = 0 ∨ b = 1) → (c27 v k4 x5 n i b = 0 ∧ b = 0 ∧ ∀ j, i ≤ j → j < i + n → ¬ QQ v k4 x5 j) ∨ (c27 v k4 x5 n i b = 1 ∧ (b = 1 ∨ ∃ j, i ≤ j ∧ j < i + n ∧ QQ v k4 x5 j)) := by
  intro n
  induction n with
  | zero =>
    intro i b hb
    rcases hb with rfl | rfl
    · exact Or.inl ⟨rfl, rfl, fun j a b => absurd b (by omega)⟩
    · exact Or.inr ⟨rfl, Or.inl rfl⟩
  | succ n ih =>
    intro i b hb
    have o1 : c27 v k4 x5 n (i + 1) 1 = 1 := by
      rcases ih (i + 1) 1 (Or.inr rfl) with ⟨-, q, -⟩ | ⟨q, -⟩
      · exact absurd q i10
      · exact q
    rcases hb with rfl | rfl
    · by_cases h : QQ v k4 x5 i
      · refine Or.inr ⟨?_, Or.inr ⟨i, Nat.le_refl _, by omega, h⟩⟩
        simp only [c27]
        rw [if_pos trivial, if_neg h.1, if_neg h.2.1, if_neg h.2.2, o1]
      · have e2 : c27 v k4 x5 (n + 1) i 0 = c27 v k4 x5 n (i + 1) 0 := by
          rw [show c27 v k4 x5 (n + 1) i 0 = (if f_m_areInWay k4 i = 0 then c27 v k4 x5 n (i + 1) 0 else (if x5 ≤ 0 then c27 v k4 x5 n (i + 1) 0 else (if f_m_lightOf v i ≤ 0 then c27 v k4 x5 n (i + 1) 0 else c27 v k4 x5 n (i + 1) 1))) from rfl]
          by_cases a : f_m_areInWay k4 i = 0
          · rw [if_pos a]
          · rw [if_neg a]
            by_cases b : x5 ≤ 0
            · rw [if_pos b]
            · rw [if_neg b]
              by_cases d : f_m_lightOf v i ≤ 0
              · rw [if_pos d]
              · exact absurd ⟨a, b, d⟩ h
        rw [e2]
        rcases ih (i + 1) 0 (Or.inl rfl) with ⟨z1, z2, z3⟩ | ⟨z1, z2⟩
        · refine Or.inl ⟨z1, rfl, fun j a b => ?_⟩
          by_cases q : j = i
          · subst q; exact h
          · exact z3 j (by omega) (by omega)
        · rcases z2 with z2 | ⟨j, a, b, d⟩
          · exact absurd z2.symm i10
          · exact Or.inr ⟨z1, Or.inr ⟨j, by omega, by omega, d⟩⟩
    · refine Or.inr ⟨?_, Or.inl rfl⟩
      simp only [c27]
      rw [if_neg i10, o1]
def t2f (v : St) (i : Nat) (x b : Int32) : Int32 := if b = 0 then (if x = 0 then (if v 24 i = 2 then 1 else 0) else 0) else 1
def t3f (v : St) (i : Nat) (x b : Int32) : Int32 := if b = 0 then (if x = 0 then (if v 24 i = 1 then (if 3 ≤ v 25 i then 0 else 1) else 0) else 0) else 1
theorem look9_s (v : St) (n i : Nat) (b1 b2 b3 : Int32) : f_m_look_9 (n + 1) i b1 b2 b3 v = f_m_look_9 n (i + 1) (c27 v i (f_m_lightOf v i) 8 0 b1) (t2f v i (f_m_lightOf v i) b2) (t3f v i (f_m_lightOf v i) b3) v := by
  simp only [f_m_look_9, c27_eq, t2f, t3f]
  repeat' split
  all_goals first | rfl | (exfalso; contradiction)
def T2 (v : St) (p : Nat) : Prop := f_m_lightOf v p = 0 ∧ v 24 p = 2
def T3 (v : St) (p : Nat) : Prop := f_m_lightOf v p = 0 ∧ v 24 p = 1 ∧ ¬ 3 ≤ v 25 p
theorem t2_or (v : St) (i : Nat) (b : Int32) (hb : b = 0 ∨ b = 1) : (t2f v i (f_m_lightOf v i) b = 0 ∧ b = 0 ∧ ¬ T2 v i) ∨ (t2f v i (f_m_lightOf v i) b = 1 ∧ (b = 1 ∨ T2 v i)) := by
  unfold t2f T2
  rcases hb with rfl | rfl
  · by_cases a : f_m_lightOf v i = 0 <;> by_cases d : v 24 i = 2 <;> simp [a, d, i10]
  · exact Or.inr ⟨if_neg i10, Or.inl rfl⟩
theorem t3_or (v : St) (i : Nat) (b : Int32) (hb : b = 0 ∨ b = 1) : (t3f v i (f_m_lightOf v i) b = 0 ∧ b = 0 ∧ ¬ T3 v i) ∨ (t3f v i (f_m_lightOf v i) b = 1 ∧ (b = 1 ∨ T3 v i)) := by
  unfold t3f T3
  rcases hb with rfl | rfl
  · by_cases a : f_m_lightOf v i = 0 <;> by_cases d : v 24 i = 1 <;> by_cases e : 3 ≤ v 25 i <;> simp [a, d, e, i10]
  · exact Or.inr ⟨if_neg i10, Or.inl rfl⟩
def three (X Y : Nat → Prop) (i : Nat) (b B : Int32) : Prop := (B = 0 ∧ b = 0 ∧ ∀ p, i ≤ p → p < 8 → ¬ X p) ∨ (B = 1 ∧ (b = 1 ∨ ∃ p, i ≤ p ∧ p < 8 ∧ X p))
theorem three_s {X Y : Nat → Prop} {i : Nat} {b b' B : Int32} (hi : i < 8) (h1 : (b' = 0 ∧ b = 0 ∧ ¬ X i) ∨ (b' = 1 ∧ (b = 1 ∨ X i))) (h2 : three X Y (i + 1) b' B) : three X Y i b B := by
  rcases h2 with ⟨z1, z2, z3⟩ | ⟨z1, z2⟩
  · rcases h1 with ⟨y1, y2, y3⟩ | ⟨y1, y2⟩
    · refine Or.inl ⟨z1, y2, fun p a d => ?_⟩
      by_cases q : p = i
      · subst q; exact y3
      · exact z3 p (by omega) d
    · rw [y1] at z2; exact absurd z2 i10
  · refine Or.inr ⟨z1, ?_⟩
    rcases z2 with z2 | ⟨p, a, d, e⟩
    · rcases h1 with ⟨y1, -, -⟩ | ⟨-, y2⟩
      · rw [y1] at z2; exact absurd z2.symm i10
      · rcases y2 with y2 | y2
        · exact Or.inl y2
        · exact Or.inr ⟨i, Nat.le_refl _, hi, y2⟩
    · exact Or.inr ⟨p, by omega, d, e⟩
theorem look9_all (v : St) : ∀ (n i : Nat) (b1 b2 b3 : Int32), i + n = 8 → (b1 = 0 ∨ b1 = 1) → (b2 = 0 ∨ b2 = 1) → (b3 = 0 ∨ b3 = 1) → ∃ B1 B2 B3, f_m_look_9 n i b1 b2 b3 v = f_m_look_9 0 8 B1 B2 B3 v ∧ three (fun p => ∃ q, q < 8 ∧ QQ v p (f_m_lightOf v p) q) (fun _ => True) i b1 B1 ∧ three (T2 v) (fun _ => True) i b2 B2 ∧ three (T3 v) (fun _ => True) i b3 B3 := by
  intro n
  induction n with
  | zero =>
    intro i b1 b2 b3 hi h1 h2 h3
    obtain rfl : i = 8 := by omega
    have k : ∀ (X : Nat → Prop) (b : Int32), (b = 0 ∨ b = 1) → three X (fun _ => True) 8 b b := by
      intro X b hb
      rcases hb with rfl | rfl
      · exact Or.inl ⟨rfl, rfl, fun p a d => absurd d (by omega)⟩
      · exact Or.inr ⟨rfl, Or.inl rfl⟩
    exact ⟨b1, b2, b3, rfl, k _ _ h1, k _ _ h2, k _ _ h3⟩
  | succ n ih =>
    intro i b1 b2 b3 hi h1 h2 h3
    have z1 := c27_or v i (f_m_lightOf v i) 8 0 b1 h1
    have z2 := t2_or v i b2 h2
    have z3 := t3_or v i b3 h3
    have bl' : ∀ {P Q : Prop} {x : Int32}, (x = 0 ∧ P) ∨ (x = 1 ∧ Q) → x = 0 ∨ x = 1 := fun h => h.elim (fun a => Or.inl a.1) (fun a => Or.inr a.1)
    obtain ⟨B1, B2, B3, e, k1, k2, k3⟩ := ih (i + 1) _ _ _ (by omega) (bl' z1) (bl' z2) (bl' z3)
    refine ⟨B1, B2, B3, by rw [look9_s]; exact e, three_s (by omega) ?_ k1, three_s (by omega) z2 k2, three_s (by omega) z3 k3⟩
    rcases z1 with ⟨a, b, d⟩ | ⟨a, b⟩
    · refine Or.inl ⟨a, b, ?_⟩
      rintro ⟨q, hq, w⟩
      exact d q (Nat.zero_le _) (by omega) w
    · refine Or.inr ⟨a, ?_⟩
      rcases b with b | ⟨j, -, hj, w⟩
      · exact Or.inl b
      · exact Or.inr ⟨j, by omega, w⟩
-- the class's least fault
def U2 (L : St) (p : Nat) : Prop := L 2 p = 0 ∧ L 3 p = 2
def U3 (L : St) (p : Nat) : Prop := L 2 p = 0 ∧ ¬ f_G_hadShortYellow L p = 0
theorem lf_all (L : St) (b : Int32) : ∀ (n i : Nat) (x : Int32), i + n = 8 → (x = 0 ∨ x = 3) → (f_G_leastFault_18 L b n i x = 2 ∧ ∃ p, i ≤ p ∧ p < 8 ∧ U2 L p) ∨ (f_G_leastFault_18 L b n i x = 3 ∧ (∀ p, i ≤ p → p < 8 → ¬ U2 L p) ∧ (x = 3 ∨ ∃ p, i ≤ p ∧ p < 8 ∧ U3 L p)) ∨ (f_G_leastFault_18 L b n i x = 0 ∧ x = 0 ∧ (∀ p, i ≤ p → p < 8 → ¬ U2 L p) ∧ ∀ p, i ≤ p → p < 8 → ¬ U3 L p) := by
  intro n
  induction n with
  | zero =>
    intro i x hi hx
    rcases hx with rfl | rfl
    · exact Or.inr (Or.inr ⟨rfl, rfl, fun p a d => absurd d (by omega), fun p a d => absurd d (by omega)⟩)
    · exact Or.inr (Or.inl ⟨rfl, fun p a d => absurd d (by omega), Or.inl rfl⟩)
  | succ n ih =>
    intro i x hi hx
    have e : f_G_leastFault_18 L b (n + 1) i x = (if L 2 i = 0 then (if L 3 i = 2 then 2 else (if f_G_hadShortYellow L i = 0 then f_G_leastFault_18 L b n (i + 1) x else f_G_leastFault_18 L b n (i + 1) 3)) else f_G_leastFault_18 L b n (i + 1) x) := by
      rw [show f_G_leastFault_18 L b (n + 1) i x = (if (L 2 i) = (0 : Int32) then (if (L 3 i) = (2 : Int32) then (2 : Int32) else (if (L 2 i) = (0 : Int32) then (if (f_G_hadShortYellow L i) = (0 : Int32) then (f_G_leastFault_18 L b n (i + 1) x) else (f_G_leastFault_18 L b n (i + 1) (3 : Int32))) else (f_G_leastFault_18 L b n (i + 1) x))) else (if (L 2 i) = (0 : Int32) then (if (f_G_hadShortYellow L i) = (0 : Int32) then (f_G_leastFault_18 L b n (i + 1) x) else (f_G_leastFault_18 L b n (i + 1) (3 : Int32))) else (f_G_leastFault_18 L b n (i + 1) x))) from rfl]
      by_cases a : L 2 i = 0 <;> simp [a]
    have go : ∀ y : Int32, (y = 0 ∨ y = 3) → f_G_leastFault_18 L b (n + 1) i x = f_G_leastFault_18 L b n (i + 1) y → ¬ U2 L i → (y = 3 → x = 3 ∨ U3 L i) → (y = 0 → x = 0 ∧ ¬ U3 L i) → (f_G_leastFault_18 L b (n + 1) i x = 2 ∧ ∃ p, i ≤ p ∧ p < 8 ∧ U2 L p) ∨ (f_G_leastFault_18 L b (n + 1) i x = 3 ∧ (∀ p, i ≤ p → p < 8 → ¬ U2 L p) ∧ (x = 3 ∨ ∃ p, i ≤ p ∧ p < 8 ∧ U3 L p)) ∨ (f_G_leastFault_18 L b (n + 1) i x = 0 ∧ x = 0 ∧ (∀ p, i ≤ p → p < 8 → ¬ U2 L p) ∧ ∀ p, i ≤ p → p < 8 → ¬ U3 L p) := by
      intro y hy ey n2 h3 h0
      have ex : ∀ {X : Nat → Prop}, ¬ X i → (∀ p, i + 1 ≤ p → p < 8 → ¬ X p) → ∀ p, i ≤ p → p < 8 → ¬ X p := by
        intro X a z p h1 h2
        by_cases q : p = i
        · subst q; exact a
        · exact z p (by omega) h2
      rw [ey]
      rcases ih (i + 1) y (by omega) hy with ⟨z1, p, a, d, w⟩ | ⟨z1, z2, z3⟩ | ⟨z1, z2, z3, z4⟩
      · exact Or.inl ⟨z1, p, by omega, d, w⟩
      · refine Or.inr (Or.inl ⟨z1, ex n2 z2, ?_⟩)
        rcases z3 with z3 | ⟨p, a, d, w⟩
        · rcases h3 z3 with q | q
          · exact Or.inl q
          · exact Or.inr ⟨i, Nat.le_refl _, by omega, q⟩
        · exact Or.inr ⟨p, by omega, d, w⟩
      · exact Or.inr (Or.inr ⟨z1, (h0 z2).1, ex n2 z3, ex (h0 z2).2 z4⟩)
    by_cases a : L 2 i = 0
    · by_cases d : L 3 i = 2
      · rw [if_pos a, if_pos d] at e
        exact Or.inl ⟨e, i, Nat.le_refl _, by omega, a, d⟩
      · by_cases w : f_G_hadShortYellow L i = 0
        · rw [if_pos a, if_neg d, if_pos w] at e
          exact go x hx e (fun q => d q.2) (fun q => Or.inl q) (fun q => ⟨q, fun z => z.2 w⟩)
        · rw [if_pos a, if_neg d, if_neg w] at e
          exact go 3 (Or.inr rfl) e (fun q => d q.2) (fun _ => Or.inr ⟨a, w⟩) (fun q => absurd q (by decide))
    · rw [if_neg a] at e
      exact go x hx e (fun q => a q.1) (fun q => Or.inl q) (fun q => ⟨q, fun z => a z.1⟩)
end PF

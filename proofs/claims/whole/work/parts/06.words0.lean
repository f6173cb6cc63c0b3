-- STATES: a register file: a group and a place
abbrev St : Type := Nat → Nat → Int32
def up2 (u : Nat → Nat → Int32) (g i : Nat) (v : Int32) : Nat → Nat → Int32 := fun g' => if g' = g then upd (u g) i v else u g'
theorem up2_s (u : St) (g i : Nat) (v : Int32) : up2 u g i v g i = v := by simp [up2, upd]
theorem up2_g (u : St) {g g' : Nat} (i : Nat) (v : Int32) (h : g' ≠ g) : up2 u g i v g' = u g' := by simp [up2, h]
theorem up2_i (u : St) (g g' : Nat) {i i' : Nat} (v : Int32) (h : i' ≠ i) : up2 u g i v g' i' = u g' i' := by
  by_cases hg : g' = g
  · subst hg; simp [up2, upd, h]
  · simp [up2, hg]
theorem up2_at (u : St) (g i : Nat) (v : Int32) (g' i' : Nat) : up2 u g i v g' i' = if g' = g ∧ i' = i then v else u g' i' := by
  by_cases hg : g' = g
  · subst hg
    by_cases hi : i' = i
    · subst hi; simp [up2, upd]
    · simp [up2, upd, hi]
  · simp [up2, hg]
abbrev clA : List vw_C := [(RX0, TX0, 4), (RX1, TX1, 9), (RX2, TX2, 10), (RX3, TX3, 8), (RX4, TX4, 27)]
def tyl (z : Nat → ClassId) : List (ClassId × FieldType) := [(z 0, .int), (z 1, .boolean), (z 2, .object RX1), (z 3, .object RX2)]
-- THE TABLE: the good words of lw_tbl
def TT : List Cond := lw_tbl.filter goodWord
theorem TT_good : jk_good TT := fun _ h => good_of_word (List.mem_filter.mp h).2
theorem tt_t {w : Cond} (i : Nat) (h : tables_1[i]? = some w) (hg : goodWord w = true) : w ∈ TT := List.mem_filter.mpr ⟨List.mem_append_right _ (List.mem_of_getElem? h), hg⟩
theorem tt_s {w : Cond} (i : Nat) (h : (k2_sels lw_privs)[i]? = some w) (hg : goodWord w = true) : w ∈ TT := List.mem_filter.mpr ⟨List.mem_append_left _ (List.mem_of_getElem? h), hg⟩
theorem jk_lt {x : Int32} {n : Nat} (h : vp_in x n) : x.toNatClampNeg < n := Nat.not_le.mp fun q => h (Or.inr q)
theorem jk_nb {x : Int32} (h : x = 0 ∨ x = 1) : narrow .boolean (.int x) = .int x := by rcases h with rfl | rfl <;> rfl
theorem jk_fb {x : Int32} (h : x = 0 ∨ x = 1) : fits .boolean (.int x) = true := by rcases h with rfl | rfl <;> rfl
theorem jk_vb {x : Int32} (h : x = 0 ∨ x = 1) : vp_nar .boolean x = x := by rcases h with rfl | rfl <;> rfl
theorem jk_div4 {k : Nat} (h : k < 65536) : nI k / 4 = nI (k / 4) := pk_div (a := k) (d := 4) (by omega) (by decide) (by decide)
theorem jk_div2 {k : Nat} (h : k < 65536) : nI k / 2 = nI (k / 2) := pk_div (a := k) (d := 2) (by omega) (by decide) (by decide)
theorem jk_rem4 {k : Nat} (h : k < 65536) : nI k - nI k / 4 * 4 = nI (k % 4) := pk_rem (a := k) (d := 4) (by omega) (by decide) (by decide)
theorem lt8 : ∀ i, i < 8 → ¬ (8 : Int32) ≤ nI i := by decide +kernel
theorem lt2 : ∀ i, i < 2 → ¬ (2 : Int32) ≤ nI i := by decide +kernel
theorem jk8 {P : Nat → Prop} (h0 : P 0) (h1 : P 1) (h2 : P 2) (h3 : P 3) (h4 : P 4) (h5 : P 5) (h6 : P 6) (h7 : P 7) {k : Nat} (hk : k < 8) : P k := by
  rcases (show k = 0 ∨ k = 1 ∨ k = 2 ∨ k = 3 ∨ k = 4 ∨ k = 5 ∨ k = 6 ∨ k = 7 by omega) with rfl | rfl | rfl | rfl | rfl | rfl | rfl | rfl <;> assumption
theorem jk2 {P : Nat → Prop} (h0 : P 0) (h1 : P 1) {k : Nat} (hk : k < 2) : P k := by
  rcases (show k = 0 ∨ k = 1 by omega) with rfl | rfl <;> assumption
theorem jk_w {i : Nat} {Cn : String} {T : u_T} {N : Nat} (h : clA[i]? = some (Cn, T, N)) : (Cn, T, N) ∈ clA := List.mem_of_getElem? h

theorem wi_0 : ∀ w ∈ u_ws RX0 TX0 4, w ∈ TT := by
  intro w hw
  exact List.mem_filter.mpr ⟨(show ∀ w ∈ u_ws RX0 TX0 4, w ∈ lw_tbl by decide +kernel) w hw, (show ∀ w ∈ u_ws RX0 TX0 4, goodWord w = true by decide +kernel) w hw⟩
theorem kf_0 : jk_F clA TT 0 RX0 TX0 4 tyX0 := ⟨rfl, tyX0_ok, nmX0, wi_0⟩
theorem wi_1 : ∀ w ∈ u_ws RX1 TX1 9, w ∈ TT := by
  intro w hw
  exact List.mem_filter.mpr ⟨(show ∀ w ∈ u_ws RX1 TX1 9, w ∈ lw_tbl by decide +kernel) w hw, (show ∀ w ∈ u_ws RX1 TX1 9, goodWord w = true by decide +kernel) w hw⟩
theorem kf_1 : jk_F clA TT 1 RX1 TX1 9 tyX1 := ⟨rfl, tyX1_ok, nmX1, wi_1⟩
theorem wi_2 : ∀ w ∈ u_ws RX2 TX2 10, w ∈ TT := by
  intro w hw
  exact List.mem_filter.mpr ⟨(show ∀ w ∈ u_ws RX2 TX2 10, w ∈ lw_tbl by decide +kernel) w hw, (show ∀ w ∈ u_ws RX2 TX2 10, goodWord w = true by decide +kernel) w hw⟩
theorem kf_2 : jk_F clA TT 2 RX2 TX2 10 tyX2 := ⟨rfl, tyX2_ok, nmX2, wi_2⟩
theorem wi_3 : ∀ w ∈ u_ws RX3 TX3 8, w ∈ TT := by
  intro w hw
  exact List.mem_filter.mpr ⟨(show ∀ w ∈ u_ws RX3 TX3 8, w ∈ lw_tbl by decide +kernel) w hw, (show ∀ w ∈ u_ws RX3 TX3 8, goodWord w = true by decide +kernel) w hw⟩
theorem kf_3 : jk_F clA TT 3 RX3 TX3 8 tyX3 := ⟨rfl, tyX3_ok, nmX3, wi_3⟩
theorem wi_4 : ∀ w ∈ u_ws RX4 TX4 27, w ∈ TT := by
  intro w hw
  exact List.mem_filter.mpr ⟨(show ∀ w ∈ u_ws RX4 TX4 27, w ∈ lw_tbl by decide +kernel) w hw, (show ∀ w ∈ u_ws RX4 TX4 27, goodWord w = true by decide +kernel) w hw⟩
theorem kf_4 : jk_F clA TT 4 RX4 TX4 27 tyX4 := ⟨rfl, tyX4_ok, nmX4, wi_4⟩

-- THE TIE AT THE START
set_option maxRecDepth 8000 in
theorem rel0 : RelT cu0 mu0 := by
  refine ⟨0, by decide, by decide +kernel, ?_, ?_, ?_, ?_, ?_, ?_⟩
  · unfold RG bl
    refine ⟨?_, ?_, ?_, ?_, ?_, ?_, ?_, ?_, ?_⟩ <;> decide +kernel
  · unfold RM bl
    decide +kernel
  · unfold RT
    decide +kernel
  · have h : ∀ r, r < 2 → cu0 31 r = 0 ∧ cu0 30 r = -1 ∧ cu0 35 r = -1 ∧ cu0 0 2 = 0 := by decide +kernel
    have h2 : ∀ r, r < 2 → mu0 11 r = cu0 30 r ∧ mu0 13 r = cu0 31 r ∧ mu0 14 r = cu0 32 r ∧ mu0 12 r = cu0 35 r ∧ mu0 17 r = cu0 36 r ∧ mu0 18 r = cu0 37 r := by decide +kernel
    have h3 : ∀ r, r < 2 → cu0 33 r = 0 ∧ cu0 34 r = 0 ∧ cu0 36 r = 0 ∧ cu0 37 r = 0 := by decide +kernel
    intro r hr
    obtain ⟨a, b, c, d⟩ := h r hr
    obtain ⟨e, f, g, i⟩ := h3 r hr
    refine ⟨h2 r hr, fun q => ?_, fun _ => h3 r hr, ?_, Or.inl a, fun _ => b, fun q => absurd a q, Or.inl c, fun q => ?_⟩
    · rw [a] at q; exact absurd q (by decide)
    · rw [g, i]; decide
    · rw [d] at q; exact absurd q (by decide)
  · unfold RX bl
    decide +kernel
  · unfold RS
    decide +kernel

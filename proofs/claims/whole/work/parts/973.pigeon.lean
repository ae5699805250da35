/-! STAGE B: two of p + 1 are the same -/
theorem pigeon : ∀ (p : Nat) (g : Nat → Nat), (∀ i, i ≤ p → g i < p) → ∃ a b, a < b ∧ b ≤ p ∧ g a = g b
  | 0, g, h => absurd (h 0 (Nat.le_refl _)) (Nat.not_lt_zero _)
  | p + 1, g, h => by
    by_cases z : ∃ i, i ≤ p ∧ g i = g (p + 1)
    · obtain ⟨i, h1, h2⟩ := z; exact ⟨i, p + 1, by omega, Nat.le_refl _, h2⟩
    · have hl := h (p + 1) (Nat.le_refl _)
      obtain ⟨a, b, h1, h2, h3⟩ := pigeon p (fun i => if g i = p then g (p + 1) else g i) (fun i hi => by
        have h4 := h i (by omega)
        show (if g i = p then g (p + 1) else g i) < p
        by_cases y : g i = p
        · rw [if_pos y]
          have : g (p + 1) ≠ p := fun w => z ⟨i, hi, by omega⟩
          omega
        · rw [if_neg y]; omega)
      by_cases ya : g a = p <;> by_cases yb : g b = p
      · exact ⟨a, b, h1, by omega, by omega⟩
      · rw [if_pos ya, if_neg yb] at h3; exact absurd ⟨b, h2, h3.symm⟩ z
      · rw [if_neg ya, if_pos yb] at h3; exact absurd ⟨a, by omega, h3⟩ z
      · rw [if_neg ya, if_neg yb] at h3; exact ⟨a, b, h1, by omega, h3⟩

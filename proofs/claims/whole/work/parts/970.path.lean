/-! STAGE B: rings of lines: what is left is where a path upwards starts -/
theorem rKeep_iff {s : Nat → Nat → Int32} {p : Nat} {S : Nat → Bool} (hS : ∀ j, S j = true → j < p) {k : Nat} : rKeep s p S k = true ↔ S k = true ∧ ∃ j, S j = true ∧ rUp s k j = true := by
  unfold rKeep
  simp only [Bool.and_eq_true, decide_eq_true_eq, kAny_iff]
  constructor
  · rintro ⟨⟨_, h2⟩, j, _, _, h3, h4⟩; exact ⟨h2, j, h3, h4⟩
  · rintro ⟨h2, j, h3, h4⟩; exact ⟨⟨hS k h2, h2⟩, j, Nat.zero_le _, by have := hS j h3; omega, h3, h4⟩
theorem rRest_path {s : Nat → Nat → Int32} {p : Nat} : ∀ (m : Nat) (S : Nat → Bool) (k : Nat), (∀ j, S j = true → j < p) → (rRest s p m S k = true ↔ ∃ g : Nat → Nat, g 0 = k ∧ (∀ i, i ≤ m → S (g i) = true) ∧ ∀ i, i < m → rUp s (g i) (g (i + 1)) = true)
  | 0, S, k, hS => by
    constructor
    · intro h; exact ⟨fun _ => k, rfl, fun i _ => h, fun i hi => by omega⟩
    · rintro ⟨g, h1, h2, _⟩; have := h2 0 (Nat.le_refl _); rw [h1] at this; exact this
  | m + 1, S, k, hS => by
    have hS' : ∀ j, rKeep s p S j = true → j < p := fun j hj => hS j ((rKeep_iff hS).mp hj).1
    show rRest s p m (rKeep s p S) k = true ↔ _
    rw [rRest_path m (rKeep s p S) k hS']
    constructor
    · rintro ⟨g, h1, h2, h3⟩
      obtain ⟨_, j, hj, hu⟩ := (rKeep_iff hS).mp (h2 m (Nat.le_refl _))
      refine ⟨fun i => if i ≤ m then g i else j, by simp [h1], fun i hi => ?_, fun i hi => ?_⟩
      · by_cases z : i ≤ m
        · simp only [z, ↓reduceIte]; exact ((rKeep_iff hS).mp (h2 i z)).1
        · simp only [z, ↓reduceIte]; exact hj
      · by_cases z : i + 1 ≤ m
        · have : i ≤ m := by omega
          simp only [z, this, ↓reduceIte]; exact h3 i (by omega)
        · have : i = m := by omega
          subst this
          simp only [Nat.le_refl, z, ↓reduceIte]; exact hu
    · rintro ⟨g, h1, h2, h3⟩
      exact ⟨g, h1, fun i hi => (rKeep_iff hS).mpr ⟨h2 i (by omega), g (i + 1), h2 (i + 1) (by omega), h3 i (by omega)⟩, fun i hi => h3 i (by omega)⟩

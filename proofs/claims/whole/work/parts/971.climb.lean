/-! STAGE B: a climb that does not end is a path upwards -/
theorem kCb_none {s : Nat → Nat → Int32} {p : Nat} {S : Nat → Bool} : ∀ m, kCb s p S m none = none
  | 0 => rfl
  | m + 1 => kCb_none m
theorem kLi_some {s : Nat → Nat → Int32} {p : Nat} {S : Nat → Bool} {v : Int32} {j : Nat} (h : kLi s p S v = some j) : j < p ∧ S j = true ∧ s 49 j = v := by
  obtain ⟨_, h2, h3⟩ := kFind_some h
  simp only [Bool.and_eq_true, decide_eq_true_eq] at h3
  exact ⟨by omega, h3.1, h3.2⟩
theorem kCb_path {s : Nat → Nat → Int32} {p : Nat} {S : Nat → Bool} (hne : ∀ k, k < p → s 49 k ≠ s 50 k) : ∀ (m k : Nat), k < p → S k = true → kCb s p S m (some k) ≠ none → ∃ g : Nat → Nat, g 0 = k ∧ (∀ i, i ≤ m → S (g i) = true) ∧ ∀ i, i < m → rUp s (g i) (g (i + 1)) = true
  | 0, k, hk, hS, _ => ⟨fun _ => k, rfl, fun i _ => hS, fun i hi => by omega⟩
  | m + 1, k, hk, hS, h => by
    have e : kCb s p S (m + 1) (some k) = kCb s p S m (kLi s p S (s 50 k)) := rfl
    rw [e] at h
    cases hl : kLi s p S (s 50 k) with
    | none => rw [hl, kCb_none] at h; exact absurd rfl h
    | some j =>
      rw [hl] at h
      obtain ⟨j1, j2, j3⟩ := kLi_some hl
      obtain ⟨g, g1, g2, g3⟩ := kCb_path hne m j j1 j2 h
      have hkj : k ≠ j := fun z => hne k hk (by rw [← j3, z])
      refine ⟨fun i => if i = 0 then k else g (i - 1), by simp, fun i hi => ?_, fun i hi => ?_⟩
      · by_cases z : i = 0
        · simp only [z, ↓reduceIte]; exact hS
        · simp only [z, ↓reduceIte]; exact g2 (i - 1) (by omega)
      · by_cases z : i = 0
        · subst z
          simp only [↓reduceIte, Nat.zero_add, Nat.one_ne_zero, Nat.sub_self, g1]
          unfold rUp; exact decide_eq_true ⟨hkj, j3.symm⟩
        · have z2 : ¬ i + 1 = 0 := by omega
          simp only [z, z2, ↓reduceIte, Nat.add_sub_cancel]
          have := g3 (i - 1) (by omega)
          rw [show i - 1 + 1 = i by omega] at this; exact this

/-! STAGE B: what is good can be -/
theorem good_can {s : Nat → Nat → Int32} {p : Nat} {S : Nat → Bool} (hS : ∀ j, S j = true → j < p) (hg : ∀ k, S k = true → kGd s p S k = true) : rCan s p S = true := by
  have G : ∀ k, S k = true → kLi s p S (s 49 k) = some k ∧ (∀ u, kLi s p S (s 50 k) = some u → ¬ s 51 k < s 51 u ∧ s 52 k ≤ s 52 u) ∧ kCb s p S (p + 1) (some k) = none := fun k hk => by
    have h := hg k hk
    unfold kGd at h
    simp only [Bool.and_eq_true, decide_eq_true_eq, Option.isNone_iff_eq_none] at h
    refine ⟨h.1, fun u hu => ?_, h.2.2⟩
    have h2 := h.2.1
    rw [hu] at h2
    simpa using h2
  have up : ∀ k j, S k = true → S j = true → rUp s k j = true → kLi s p S (s 50 k) = some j := fun k j hk hj hu => by
    simp only [rUp, decide_eq_true_eq] at hu
    rw [hu.2]; exact (G j hj).1
  have wi : ∀ k j, S k = true → S j = true → rUp s k j = true → rWi s k j = true := fun k j hk hj hu => by
    obtain ⟨w1, w2⟩ := (G k hk).2.1 j (up k j hk hj hu)
    exact decide_eq_true ⟨Int32.not_lt.mp w1, w2⟩
  have cl : ∀ k j, S k = true → S j = true → rCl s k j = false := fun k j hk hj => by
    by_cases e : k = j
    · unfold rCl; simp [e]
    · have nm : ¬ s 49 k = s 49 j := fun z => by
        have a := (G k hk).1
        rw [z, (G j hj).1] at a; cases a; exact e rfl
      have u1 : (rUp s k j && !rWi s k j) = false := by
        cases z : rUp s k j with
        | false => rfl
        | true => rw [wi k j hk hj z]; rfl
      have u2 : (rUp s j k && !rWi s j k) = false := by
        cases z : rUp s j k with
        | false => rfl
        | true => rw [wi j k hj hk z]; rfl
      unfold rCl; rw [u1, u2]; simp [nm]
  have ring : ∀ k, rRest s p p S k = false := fun k => by
    cases z : rRest s p p S k with
    | false => rfl
    | true =>
      exfalso
      obtain ⟨g, g1, g2, g3⟩ := (rRest_path p S k hS).mp z
      obtain ⟨a, b, h1, h2, h3⟩ := pigeon p g (fun i hi => hS _ (g2 i hi))
      have inf : ∀ n i, i ≤ b → kCb s p S n (some (g i)) ≠ none := by
        intro n
        induction n with
        | zero => intro i _ h; cases h
        | succ n ih =>
          intro i hi
          show kCb s p S n (kLi s p S (s 50 (g i))) ≠ none
          by_cases y : i < b
          · rw [up (g i) (g (i + 1)) (g2 i (by omega)) (g2 (i + 1) (by omega)) (g3 i (by omega))]; exact ih (i + 1) (by omega)
          · have : i = b := by omega
            subst this
            rw [← h3, up (g a) (g (a + 1)) (g2 a (by omega)) (g2 (a + 1) (by omega)) (g3 a (by omega))]; exact ih (a + 1) (by omega)
      have := (G (g 0) (g2 0 (Nat.zero_le _))).2.2
      exact inf (p + 1) 0 (Nat.zero_le _) this
  unfold rCan
  have n1 : kAny (fun k => S k && kAny (fun j => S j && rCl s k j) p 0) p 0 = false := by
    rw [Bool.eq_false_iff]; intro h
    obtain ⟨k, _, _, h1⟩ := kAny_iff.mp h
    simp only [Bool.and_eq_true] at h1
    obtain ⟨j, _, _, h2⟩ := kAny_iff.mp h1.2
    simp only [Bool.and_eq_true] at h2
    rw [cl k j h1.1 h2.1] at h2; exact absurd h2.2 (by decide)
  have n2 : kAny (rRest s p p S) p 0 = false := by
    rw [Bool.eq_false_iff]; intro h
    obtain ⟨k, _, _, h1⟩ := kAny_iff.mp h
    rw [ring k] at h1; cases h1
  rw [n1, n2]; rfl

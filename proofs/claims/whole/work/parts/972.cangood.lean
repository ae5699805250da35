/-! STAGE B: what can be is good -/
theorem can_good {s : Nat → Nat → Int32} {p : Nat} {S : Nat → Bool} (hne : ∀ k, k < p → s 49 k ≠ s 50 k) (hS : ∀ j, S j = true → j < p) (h : rCan s p S = true) : kAny (fun k => S k && !kGd s p S k) p 0 = false := by
  unfold rCan at h
  simp only [Bool.and_eq_true, Bool.not_eq_true'] at h
  obtain ⟨h1, h2⟩ := h
  have Acl : ∀ k j, S k = true → S j = true → rCl s k j = false := fun k j hk hj => by
    cases z : rCl s k j with
    | false => rfl
    | true =>
      have : kAny (fun k => S k && kAny (fun j => S j && rCl s k j) p 0) p 0 = true := kAny_iff.mpr ⟨k, Nat.zero_le _, by have := hS k hk; omega, by
        rw [hk, Bool.true_and]
        exact kAny_iff.mpr ⟨j, Nat.zero_le _, by have := hS j hj; omega, by rw [hj, z]; rfl⟩⟩
      rw [h1] at this; cases this
  rw [Bool.eq_false_iff]
  intro hk
  obtain ⟨k, _, hkp, hb⟩ := kAny_iff.mp hk
  simp only [Bool.and_eq_true, Bool.not_eq_true'] at hb
  obtain ⟨hSk, hbad⟩ := hb
  have kp : k < p := hS k hSk
  have good : kGd s p S k = true := by
    unfold kGd
    have n1 : kLi s p S (s 49 k) = some k := by
      cases hl : kLi s p S (s 49 k) with
      | none =>
        have := kFind_none.mp hl k (by omega) (by omega)
        simp [hSk] at this
      | some j =>
        obtain ⟨j1, j2, j3⟩ := kLi_some hl
        by_cases e : j = k
        · rw [e]
        · have c := Acl k j hSk j2
          unfold rCl at c
          simp [Ne.symm e, j3] at c
    have n3 : (kCb s p S (p + 1) (some k)).isNone = true := by
      cases hc : kCb s p S (p + 1) (some k) with
      | none => rfl
      | some j =>
        obtain ⟨g, g1, g2, g3⟩ := kCb_path hne (p + 1) k kp hSk (by rw [hc]; intro z; cases z)
        have := (rRest_path (s := s) (p := p) p S k hS).mpr ⟨g, g1, fun i hi => g2 i (by omega), fun i hi => g3 i (by omega)⟩
        have : kAny (rRest s p p S) p 0 = true := kAny_iff.mpr ⟨k, Nat.zero_le _, by omega, this⟩
        rw [h2] at this; cases this
    rw [n1, n3]
    simp only [decide_true, Bool.true_and, Bool.and_true]
    cases hl : kLi s p S (s 50 k) with
    | none => rfl
    | some u =>
      obtain ⟨u1, u2, u3⟩ := kLi_some hl
      have hku : k ≠ u := fun z => hne k kp (by rw [← u3, z])
      have c := Acl k u hSk u2
      have up : rUp s k u = true := decide_eq_true ⟨hku, u3.symm⟩
      have wi : rWi s k u = true := by
        cases w : rWi s k u with
        | true => rfl
        | false =>
          unfold rCl at c
          rw [up, w] at c
          simp [hku] at c
      simp only [rWi, decide_eq_true_eq] at wi
      have w1 : ¬ s 51 k < s 51 u := Int32.not_lt.mpr wi.1
      simp [w1, wi.2]
  rw [good] at hbad; cases hbad

/-! STAGE B: how many lines a mask has, the rest of a mask -/
def kS (p m : Nat) : Nat → Bool := fun j => decide (j < p) && m.testBit j
theorem kS_eq {p m : Nat} (h : m < 2 ^ p) : kS p m = m.testBit := by
  funext j
  unfold kS
  by_cases z : j < p
  · simp [z]
  · rw [Nat.testBit_lt_two_pow (Nat.lt_of_lt_of_le h (Nat.pow_le_pow_right (by decide) (by omega)))]; simp
set_option maxRecDepth 100000 in
theorem kOn_r : ∀ m : Fin 4096, kOn (nI m.val) = nI (rOnes 12 m.val) := by decide +kernel
set_option maxRecDepth 100000 in
theorem nI_cmp12 : ∀ m : Fin 4096, nI 4095 &&& (nI m.val ^^^ (-1)) = nI (4095 - m.val) := by decide +kernel
theorem nI_cmp {p m : Nat} (hp : p ≤ 12) (h : m < 2 ^ p) : nI (2 ^ p - 1) &&& (nI m ^^^ (-1)) = nI (2 ^ p - 1 - m) := by
  have h4 : 2 ^ p ≤ 2 ^ 12 := Nat.pow_le_pow_right (by decide) hp
  have c := nI_cmp12 ⟨m, by omega⟩
  simp only at c
  have e1 : (2 ^ p - 1) &&& 4095 = 2 ^ p - 1 := by
    have := Nat.and_two_pow_sub_one_eq_mod (2 ^ p - 1) 12
    rw [show 2 ^ 12 - 1 = 4095 by decide] at this
    rw [this]; exact Nat.mod_eq_of_lt (by omega)
  have e2 : (2 ^ p - 1) &&& (4095 - m) = 2 ^ p - 1 - m := by
    apply Nat.eq_of_testBit_eq
    intro j
    have t1 := Nat.testBit_two_pow_sub_succ (n := 12) (x := m) (by omega) j
    have t2 := Nat.testBit_two_pow_sub_succ (n := p) (x := m) h j
    rw [show 2 ^ 12 - (m + 1) = 4095 - m by omega] at t1
    rw [show 2 ^ p - (m + 1) = 2 ^ p - 1 - m by omega] at t2
    rw [Nat.testBit_and, Nat.testBit_two_pow_sub_one, t1, t2]
    by_cases z : j < p
    · have : j < 12 := by omega
      simp [z, this]
    · simp [z]
  have e3 : nI (2 ^ p - 1) = nI (2 ^ p - 1) &&& nI 4095 := by rw [nI_and (by omega) (by decide), e1]
  rw [e3, Int32.and_assoc, c, nI_and (by omega) (by omega), e2]
theorem rOnes_up {m p : Nat} (h : m < 2 ^ p) : ∀ k, rOnes (p + k) m = rOnes p m
  | 0 => rfl
  | k + 1 => by
    show (if m.testBit (p + k) then 1 else 0) + rOnes (p + k) m = _
    rw [rOnes_up h k, Nat.testBit_lt_two_pow (Nat.lt_of_lt_of_le h (Nat.pow_le_pow_right (by decide) (by omega)))]
    simp
theorem rOnes_le (m : Nat) : ∀ p, rOnes p m ≤ p
  | 0 => Nat.le_refl _
  | p + 1 => by
    have := rOnes_le m p
    unfold rOnes; split <;> omega
theorem rOnes_0 : ∀ p, rOnes p 0 = 0
  | 0 => rfl
  | p + 1 => by unfold rOnes; rw [rOnes_0 p]; simp
theorem rOnes_cmp {p m : Nat} (h : m < 2 ^ p) : ∀ k, k ≤ p → rOnes k (2 ^ p - 1 - m) + rOnes k m = k
  | 0, _ => rfl
  | k + 1, hk => by
    have I := rOnes_cmp h k (by omega)
    have e : (2 ^ p - 1 - m).testBit k = !m.testBit k := by
      rw [show 2 ^ p - 1 - m = 2 ^ p - (m + 1) by omega, Nat.testBit_two_pow_sub_succ h]
      have : decide (k < p) = true := decide_eq_true (by omega)
      rw [this]; rfl
    unfold rOnes; rw [e]
    cases m.testBit k <;> simp <;> omega
theorem kOn_p {p m : Nat} (hp : p ≤ 12) (h : m < 2 ^ p) : kOn (nI m) = nI (rOnes p m) := by
  have h4 : 2 ^ p ≤ 2 ^ 12 := Nat.pow_le_pow_right (by decide) hp
  have := kOn_r ⟨m, by omega⟩
  simp only at this
  rw [this]
  have e := rOnes_up h (12 - p)
  rw [show p + (12 - p) = 12 by omega] at e
  rw [e]
theorem kBc_p {p m : Nat} (hp : p ≤ 12) (h : m < 2 ^ p) : kBc (nI m) = nI (rOnes p m) := by
  have h4 : 2 ^ p ≤ 2 ^ 12 := Nat.pow_le_pow_right (by decide) hp
  rw [kBc_eq ⟨nI_pos' (by omega), by rw [show (4095 : Int32) = nI 4095 by decide, ix_le (by omega) (by decide)]; omega⟩, kOn_p hp h]
theorem kMk_S {p m : Nat} (hp : p ≤ 12) (h : m < 2 ^ p) : kMk (nI m) m.testBit := by
  rw [← kS_eq h]; exact (kMk_p hp).mp ⟨m, h, rfl, fun j _ => rfl⟩
theorem bit_p {p m : Nat} (h : m < 2 ^ p) : ∀ j, m.testBit j = true → j < p := fun j hj => by
  rcases Nat.lt_or_ge j p with z | z
  · exact z
  · rw [Nat.testBit_lt_two_pow (Nat.lt_of_lt_of_le h (Nat.pow_le_pow_right (by decide) z))] at hj; cases hj
theorem can_eq {s : Nat → Nat → Int32} {p : Nat} {S : Nat → Bool} (hne : ∀ k, k < p → s 49 k ≠ s 50 k) (hS : ∀ j, S j = true → j < p) : (!kAny (fun k => S k && !kGd s p S k) p 0) = rCan s p S := by
  cases hc : rCan s p S with
  | true => rw [can_good hne hS hc]; rfl
  | false =>
    cases hk : kAny (fun k => S k && !kGd s p S k) p 0 with
    | true => rfl
    | false =>
      have := good_can (s := s) (p := p) hS (fun k hk2 => by
        cases z : kGd s p S k with
        | true => rfl
        | false =>
          have : kAny (fun k => S k && !kGd s p S k) p 0 = true := kAny_iff.mpr ⟨k, Nat.zero_le _, by have := hS k hk2; omega, by show (S k && !kGd s p S k) = true; rw [hk2, z]; rfl⟩
          rw [hk] at this; cases this)
      rw [hc] at this; cases this
theorem rCan_0 {s : Nat → Nat → Int32} {p : Nat} : rCan s p (Nat.testBit 0) = true := good_can (fun j h => by simp at h) (fun k h => by simp at h)
theorem nI_less {a b : Nat} (h : b ≤ a) : nI a - nI b = nI (a - b) := by
  have := nI_sb (a - b) b
  rwa [Nat.sub_add_cancel h] at this
/-! the reference's least number -/
def kMn (p : Nat) (C : Nat → Bool) : Nat → Nat → Nat → Nat
  | 0, _, few => few
  | m + 1, k, few => kMn p C m (k + 1) (if rOnes p k < few ∧ C k = true then rOnes p k else few)
theorem kMn_ge {p f : Nat} {C : Nat → Bool} : ∀ (m k few : Nat), f ≤ few → (∀ j, k ≤ j → j < k + m → C j = true → f ≤ rOnes p j) → f ≤ kMn p C m k few
  | 0, _, _, h, _ => h
  | m + 1, k, few, h, H => by
    refine kMn_ge m (k + 1) _ ?_ fun j a b => H j (by omega) (by omega)
    split
    · rename_i z; exact H k (by omega) (by omega) z.2
    · exact h
theorem kMn_le {p : Nat} {C : Nat → Bool} : ∀ (m k few : Nat), kMn p C m k few ≤ few ∧ ∀ j, k ≤ j → j < k + m → C j = true → kMn p C m k few ≤ rOnes p j
  | 0, _, _ => ⟨Nat.le_refl _, fun j a b => by omega⟩
  | m + 1, k, few => by
    have hX : (if rOnes p k < few ∧ C k = true then rOnes p k else few) ≤ few ∧ (C k = true → (if rOnes p k < few ∧ C k = true then rOnes p k else few) ≤ rOnes p k) := by
      by_cases y : rOnes p k < few ∧ C k = true
      · rw [if_pos y]; exact ⟨by omega, fun _ => Nat.le_refl _⟩
      · rw [if_neg y]
        refine ⟨Nat.le_refl _, fun c => ?_⟩
        rcases Nat.lt_or_ge (rOnes p k) few with w | w
        · exact absurd ⟨w, c⟩ y
        · exact w
    have e : kMn p C (m + 1) k few = kMn p C m (k + 1) (if rOnes p k < few ∧ C k = true then rOnes p k else few) := rfl
    rw [e]
    generalize (if rOnes p k < few ∧ C k = true then rOnes p k else few) = X at hX ⊢
    obtain ⟨h1, h2⟩ := kMn_le (p := p) (C := C) m (k + 1) X
    refine ⟨by omega, fun j a b c => ?_⟩
    by_cases z : j = k
    · subst z
      have := hX.2 c
      omega
    · exact h2 j (by omega) (by omega) c
theorem kMn_few {s : Nat → Nat → Int32} {p f : Nat} (h : rFew s p f) (hp : p ≤ 12) : kMn p (fun k => rCan s p (2 ^ p - 1 - k).testBit) (2 ^ p) 0 99 = f := by
  obtain ⟨⟨z, z1, z2, z3⟩, h2⟩ := h
  have hz := rOnes_cmp z1 p (Nat.le_refl _)
  apply Nat.le_antisymm
  · have := (kMn_le (p := p) (C := fun k => rCan s p (2 ^ p - 1 - k).testBit) (2 ^ p) 0 99).2 (2 ^ p - 1 - z) (by omega) (by omega) (by
      show rCan s p (2 ^ p - 1 - (2 ^ p - 1 - z)).testBit = true
      rw [show 2 ^ p - 1 - (2 ^ p - 1 - z) = z by omega]; exact z2)
    omega
  · refine kMn_ge _ _ _ (by omega) fun j _ hj hc => ?_
    have c1 := rOnes_cmp (p := p) (m := j) (by omega) p (Nat.le_refl _)
    have := h2 (2 ^ p - 1 - j) (by omega) hc
    omega
/-! the numbering -/
def kDo (Q : Nat → Bool) (a : Int32) : Nat → Nat → Int32 → Int32
  | 0, _, pl => if a = -1 then pl else -6
  | m + 1, k, pl => if Q k = true then (if pl = a then nI k else kDo Q a m (k + 1) (pl + 1)) else kDo Q a m (k + 1) pl
def kDq (s : Nat → Nat → Int32) (p f : Nat) : Nat → Bool := fun k => decide (rOnes p k = f) && rCan s p (2 ^ p - 1 - k).testBit

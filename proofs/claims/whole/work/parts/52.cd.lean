/-! STAGE B: what the class keeps of holdings, acts and notices, in the numbers of the reference -/
def kP (A : Nat → Nat) (n k : Nat) : Nat := if k < n then A k else 0
def kR (A : Nat → Nat) (v : Int32) : Nat := if v < 0 then 0 else A v.toNatClampNeg
def kfd : Nat → Nat := fun j => match j with
  | 2 => 3
  | 3 => 4
  | 4 => 5
  | 5 => 7
  | 6 => 6
  | 7 => 8
  | 8 => 9
  | 9 => 10
  | 10 => 11
  | 11 => 12
  | _ => 99
/-- a number of a holding, or below 0 -/
def kV (n : Nat) (v : Int32) : Prop := v < 0 ∨ ∃ k, k < n ∧ v = nI k
def kAd (B x : Nat) (A : Nat → Nat) (n c : Nat) (t : Nat → Nat) : Prop := (∀ h, h < n → B + 62 ≤ A h ∧ A h < x ∧ t (A h) = c) ∧ ∀ a b, a < n → b < n → A a = A b → a = b
def kH1 (A : Nat → Nat) (n : Nat) (e : Nat → Nat → Int32) (i : Nat → Nat → Int32) (r : Nat → Nat → Nat) (h : Nat) : Prop :=
  i (A h) 0 = nI h ∧ (∀ j, 2 ≤ j → j ≤ 11 → i (A h) (kfd j) = e j h) ∧ r (A h) 1 = kP A n (h + 1) ∧ r (A h) 2 = kR A (e 1 h) ∧ r (A h) 13 = kR A (e 12 h)
def kA1 (AA AT : Nat → Nat) (e : Nat → Nat → Int32) (l : Nat → Nat) (i : Nat → Nat → Int32) (r : Nat → Nat → Nat) (a : Nat) : Prop :=
  i (AA a) 0 = e 18 a ∧ i (AA a) 1 = e 19 a ∧ r (AA a) 2 = AT a ∧ r (AA a) 3 = (if a = 0 then 0 else AA (a - 1)) ∧ nI (l (AT a)) = e 17 a ∧ l (AT a) ≤ 48 ∧ ∀ k, k < l (AT a) → i (AT a) k = e 16 (48 * a + k)
def kN1 (A AN : Nat → Nat) (nn : Nat) (e : Nat → Nat → Int32) (i : Nat → Nat → Int32) (r : Nat → Nat → Nat) (k : Nat) : Prop :=
  i (AN k) 0 = nI k ∧ r (AN k) 1 = kR A (e 25 k) ∧ i (AN k) 2 = e 26 k ∧ i (AN k) 3 = e 27 k ∧ i (AN k) 4 = e 28 k ∧ i (AN k) 5 = e 29 k ∧ r (AN k) 6 = kP AN nn (k + 1)
def kCD (B : Nat) (A AA AT AN : Nat → Nat) (n na nn : Nat) (e : Nat → Nat → Int32) (t l : Nat → Nat) (i : Nat → Nat → Int32) (r : Nat → Nat → Nat) (x : Nat) : Prop :=
  (n ≤ 40 ∧ na ≤ 12 ∧ nn ≤ 24 ∧ 0 < B ∧ B + 62 ≤ x) ∧ (kAd B x A n 4 t ∧ kAd B x AA na 1 t ∧ kAd B x AT na 101 t ∧ kAd B x AN nn 7 t) ∧ (∀ h, h < n → kV n (e 1 h) ∧ kV n (e 12 h)) ∧ (∀ k, k < nn → kV n (e 25 k)) ∧
  (∀ h, h < n → kH1 A n e i r h) ∧ (∀ a, a < na → kA1 AA AT e l i r a) ∧ (∀ k, k < nn → kN1 A AN nn e i r k)
section
variable {n na nn : Nat} {A AA AT AN : Nat → Nat} {B x : Nat} {e : Nat → Nat → Int32} {t l u : Nat → Nat} {i c s : Nat → Nat → Int32} {r : Nat → Nat → Nat} {q g w : Nat → Nat → Int64}
theorem kP_lt {k : Nat} (h : k < n) : kP A n k = A k := if_pos h
theorem kP_ge {k : Nat} (h : n ≤ k) : kP A n k = 0 := if_neg (Nat.not_lt.mpr h)
theorem kR_I {k : Nat} (h : k < 2147483648) : kR A (nI k) = A k := by unfold kR; rw [if_neg (nI_pos h), ix_nat h]
theorem kR_n {v : Int32} (h : v < 0) : kR A v = 0 := if_pos h
theorem kR_m1 : kR A (-1) = 0 := kR_n (by decide)
theorem kR_m6 : kR A (-6) = 0 := kR_n (by decide)
theorem kV_I {k : Nat} (h : k < n) : kV n (nI k) := .inr ⟨k, h, rfl⟩
theorem kV_m1 : kV n (-1) := .inl (by decide)
theorem kV_m6 : kV n (-6) := .inl (by decide)
theorem kV_up {m : Nat} {v : Int32} (h : kV n v) (hm : n ≤ m) : kV m v := by
  rcases h with h | ⟨k, h1, h2⟩
  · exact .inl h
  · exact .inr ⟨k, by omega, h2⟩
theorem kCD.n40 (H : kCD B A AA AT AN n na nn e t l i r x) : n ≤ 40 := H.1.1
theorem kCD.na12 (H : kCD B A AA AT AN n na nn e t l i r x) : na ≤ 12 := H.1.2.1
theorem kCD.nn24 (H : kCD B A AA AT AN n na nn e t l i r x) : nn ≤ 24 := H.1.2.2.1
theorem kCD.B0 (H : kCD B A AA AT AN n na nn e t l i r x) : 0 < B := H.1.2.2.2.1
theorem kCD.x62 (H : kCD B A AA AT AN n na nn e t l i r x) : B + 62 ≤ x := H.1.2.2.2.2
theorem kCD.AH (H : kCD B A AA AT AN n na nn e t l i r x) {h : Nat} (hh : h < n) : B + 62 ≤ A h := (H.2.1.1.1 h hh).1
theorem kCD.AHx (H : kCD B A AA AT AN n na nn e t l i r x) {h : Nat} (hh : h < n) : A h < x := (H.2.1.1.1 h hh).2.1
theorem kCD.tH (H : kCD B A AA AT AN n na nn e t l i r x) {h : Nat} (hh : h < n) : t (A h) = 4 := (H.2.1.1.1 h hh).2.2
theorem kCD.aN (H : kCD B A AA AT AN n na nn e t l i r x) {k : Nat} (hh : k < nn) : B + 62 ≤ AN k ∧ AN k < x ∧ t (AN k) = 7 := H.2.1.2.2.2.1 k hh
theorem kCD.aA (H : kCD B A AA AT AN n na nn e t l i r x) {k : Nat} (hh : k < na) : B + 62 ≤ AA k ∧ AA k < x ∧ t (AA k) = 1 := H.2.1.2.1.1 k hh
theorem kCD.aT (H : kCD B A AA AT AN n na nn e t l i r x) {k : Nat} (hh : k < na) : B + 62 ≤ AT k ∧ AT k < x ∧ t (AT k) = 101 := H.2.1.2.2.1.1 k hh
theorem kCD.inj (H : kCD B A AA AT AN n na nn e t l i r x) {a b : Nat} (ha : a < n) (hb : b < n) : (A a = A b) = (a = b) := propext ⟨H.2.1.1.2 a b ha hb, fun h => h ▸ rfl⟩
theorem kCD.injN (H : kCD B A AA AT AN n na nn e t l i r x) {a b : Nat} (ha : a < nn) (hb : b < nn) : (AN a = AN b) = (a = b) := propext ⟨H.2.1.2.2.2.2 a b ha hb, fun h => h ▸ rfl⟩
theorem kCD.H0 (H : kCD B A AA AT AN n na nn e t l i r x) {h : Nat} (hh : h < n) : (A h = 0) = False := eq_false (by have := H.AH hh; omega)
theorem kCD.N0 (H : kCD B A AA AT AN n na nn e t l i r x) {h : Nat} (hh : h < nn) : (AN h = 0) = False := eq_false (by have := (H.aN hh).1; omega)
theorem kCD.A0 (H : kCD B A AA AT AN n na nn e t l i r x) {h : Nat} (hh : h < na) : (AA h = 0) = False := eq_false (by have := (H.aA hh).1; omega)
theorem kCD.V1 (H : kCD B A AA AT AN n na nn e t l i r x) {h : Nat} (hh : h < n) : kV n (e 1 h) := (H.2.2.1 h hh).1
theorem kCD.V12 (H : kCD B A AA AT AN n na nn e t l i r x) {h : Nat} (hh : h < n) : kV n (e 12 h) := (H.2.2.1 h hh).2
theorem kCD.V25 (H : kCD B A AA AT AN n na nn e t l i r x) {k : Nat} (hh : k < nn) : kV n (e 25 k) := H.2.2.2.1 k hh
/-- references as numbers -/
theorem kCD.R0 (H : kCD B A AA AT AN n na nn e t l i r x) {v : Int32} (h : kV n v) : (kR A v = 0) = (v < 0) := by
  rcases h with h | ⟨k, hk, rfl⟩
  · rw [kR_n h, eq_true h]; simp
  · have := H.n40
    rw [kR_I (by omega), H.H0 hk, ix_neg (by omega)]
theorem kCD.RH (H : kCD B A AA AT AN n na nn e t l i r x) {v : Int32} (h : kV n v) {k : Nat} (hk : k < n) : (kR A v = A k) = (v = nI k) := by
  have := H.n40
  rcases h with h | ⟨j, hj, rfl⟩
  · have e1 : (0 = A k) = False := eq_false (fun g => by have := H.AH hk; omega)
    have e2 : (v = nI k) = False := eq_false (fun g => by rw [g] at h; exact nI_pos (by omega) h)
    rw [kR_n h, e1, e2]
  · rw [kR_I (by omega), H.inj hj hk, ix_eq (by omega) (by omega)]
/-- a holding's cell, all of it -/
theorem kCD.atT (H : kCD B A AA AT AN n na nn e t l i r x) {h : Nat} (hh : h < n) : kT B t (A h) = 4 ∧ (A h = 0) = False := ⟨(kT_o (H.AH hh)).trans (H.tH hh), H.H0 hh⟩
theorem kCD.atI (H : kCD B A AA AT AN n na nn e t l i r x) {h : Nat} (hh : h < n) : kI B i c s (A h) 0 = nI h ∧ kI B i c s (A h) 3 = e 2 h ∧ kI B i c s (A h) 4 = e 3 h ∧ kI B i c s (A h) 5 = e 4 h ∧ kI B i c s (A h) 7 = e 5 h ∧ kI B i c s (A h) 6 = e 6 h ∧ kI B i c s (A h) 8 = e 7 h ∧ kI B i c s (A h) 9 = e 8 h ∧ kI B i c s (A h) 10 = e 9 h ∧ kI B i c s (A h) 11 = e 10 h ∧ kI B i c s (A h) 12 = e 11 h := by
  have h0 := H.AH hh
  obtain ⟨h1, h2, h3, h4, h5⟩ := H.2.2.2.2.1 h hh
  exact ⟨(kI_o h0).trans h1, (kI_o h0).trans (h2 2 (by decide) (by decide)), (kI_o h0).trans (h2 3 (by decide) (by decide)), (kI_o h0).trans (h2 4 (by decide) (by decide)), (kI_o h0).trans (h2 5 (by decide) (by decide)), (kI_o h0).trans (h2 6 (by decide) (by decide)), (kI_o h0).trans (h2 7 (by decide) (by decide)), (kI_o h0).trans (h2 8 (by decide) (by decide)), (kI_o h0).trans (h2 9 (by decide) (by decide)), (kI_o h0).trans (h2 10 (by decide) (by decide)), (kI_o h0).trans (h2 11 (by decide) (by decide))⟩
theorem kCD.atW (H : kCD B A AA AT AN n na nn e t l i r x) {h : Nat} (hh : h < n) : kW B r u (A h) 1 = kP A n (h + 1) ∧ kW B r u (A h) 2 = kR A (e 1 h) ∧ kW B r u (A h) 13 = kR A (e 12 h) := by
  have h0 := H.AH hh
  obtain ⟨h1, h2, h3, h4, h5⟩ := H.2.2.2.2.1 h hh
  exact ⟨(kW_o h0).trans h3, (kW_o h0).trans h4, (kW_o h0).trans h5⟩
theorem kCD.atNT (H : kCD B A AA AT AN n na nn e t l i r x) {k : Nat} (hk : k < nn) : kT B t (AN k) = 7 ∧ (AN k = 0) = False := ⟨(kT_o (H.aN hk).1).trans (H.aN hk).2.2, H.N0 hk⟩
theorem kCD.atNI (H : kCD B A AA AT AN n na nn e t l i r x) {k : Nat} (hk : k < nn) : kI B i c s (AN k) 0 = nI k ∧ kI B i c s (AN k) 2 = e 26 k ∧ kI B i c s (AN k) 3 = e 27 k ∧ kI B i c s (AN k) 4 = e 28 k ∧ kI B i c s (AN k) 5 = e 29 k := by
  obtain ⟨h0, _, ht⟩ := H.aN hk
  obtain ⟨h1, h2, h3, h4, h5, h6, h7⟩ := H.2.2.2.2.2.2 k hk
  exact ⟨(kI_o h0).trans h1, (kI_o h0).trans h3, (kI_o h0).trans h4, (kI_o h0).trans h5, (kI_o h0).trans h6⟩
theorem kCD.atNW (H : kCD B A AA AT AN n na nn e t l i r x) {k : Nat} (hk : k < nn) : kW B r u (AN k) 1 = kR A (e 25 k) ∧ kW B r u (AN k) 6 = kP AN nn (k + 1) := by
  obtain ⟨h0, _, ht⟩ := H.aN hk
  obtain ⟨h1, h2, h3, h4, h5, h6, h7⟩ := H.2.2.2.2.2.2 k hk
  exact ⟨(kW_o h0).trans h2, (kW_o h0).trans h7⟩
theorem kCD.atAT (H : kCD B A AA AT AN n na nn e t l i r x) {a : Nat} (ha : a < na) : kT B t (AA a) = 1 ∧ (AA a = 0) = False ∧ kT B t (AT a) = 101 ∧ kL B l (AT a) = l (AT a) := ⟨(kT_o (H.aA ha).1).trans (H.aA ha).2.2, H.A0 ha, (kT_o (H.aT ha).1).trans (H.aT ha).2.2, kL_o (H.aT ha).1⟩
theorem kCD.atAI (H : kCD B A AA AT AN n na nn e t l i r x) {a : Nat} (ha : a < na) : kI B i c s (AA a) 0 = e 18 a ∧ kI B i c s (AA a) 1 = e 19 a := by
  obtain ⟨h0, _, ht⟩ := H.aA ha
  obtain ⟨h1, h2, h3, h4, h5, h6⟩ := H.2.2.2.2.2.1 a ha
  exact ⟨(kI_o h0).trans h1, (kI_o h0).trans h2⟩
theorem kCD.atAW (H : kCD B A AA AT AN n na nn e t l i r x) {a : Nat} (ha : a < na) : kW B r u (AA a) 2 = AT a ∧ kW B r u (AA a) 3 = (if a = 0 then 0 else AA (a - 1)) := by
  obtain ⟨h0, _, ht⟩ := H.aA ha
  obtain ⟨h1, h2, h3, h4, h5, h6⟩ := H.2.2.2.2.2.1 a ha
  exact ⟨(kW_o h0).trans h3, (kW_o h0).trans h4⟩
theorem kfd_inj {a b : Nat} (ha : 2 ≤ a ∧ a ≤ 11) (hb : 2 ≤ b ∧ b ≤ 11) (h : kfd a = kfd b) : a = b := by
  have h1 : ∀ a : Fin 12, ∀ b : Fin 12, 2 ≤ a.val → 2 ≤ b.val → kfd a.val = kfd b.val → a.val = b.val := by decide +kernel
  exact h1 ⟨a, by omega⟩ ⟨b, by omega⟩ ha.1 hb.1 h
theorem kfd_0 {a : Nat} (ha : 2 ≤ a ∧ a ≤ 11) : kfd a ≠ 0 ∧ kfd a ≠ 14 := by
  have h1 : ∀ a : Fin 12, 2 ≤ a.val → kfd a.val ≠ 0 ∧ kfd a.val ≠ 14 := by decide +kernel
  exact h1 ⟨a, by omega⟩ ha.1
/-- a number of a holding is written -/
theorem kCD.wi (H : kCD B A AA AT AN n na nn e t l i r x) {h : Nat} (hh : h < n) {j : Nat} (hj : 2 ≤ j ∧ j ≤ 11) (v : Int32) : kCD B A AA AT AN n na nn (mj_u2 e j h v) t l (mj_u2 i (A h) (kfd j) v) r x := by
  obtain ⟨p1, p2, p3, p4, p5, p6, p7⟩ := id H
  have j1 : ∀ k, (1 = j ∧ k = h) = False := fun k => eq_false (by omega)
  refine ⟨p1, p2, ?_, ?_, ?_, ?_, ?_⟩
  · intro k hk
    rw [mq_u2n (by omega), mq_u2n (by omega)]; exact p3 k hk
  · intro k hk
    rw [mq_u2n (by omega)]; exact p4 k hk
  · intro k hk
    obtain ⟨q1, q2, q3, q4, q5⟩ := p5 k hk
    refine ⟨?_, ?_, q3, ?_, ?_⟩
    · rw [mq_u2k (Ne.symm (kfd_0 hj).1)]; exact q1
    · intro j' h1 h2
      by_cases e1 : k = h
      · subst e1
        by_cases e2 : j' = j
        · subst e2; rw [mq_u2s, mq_u2s]
        · rw [mq_u2k (fun z => e2 (kfd_inj ⟨h1, h2⟩ hj z)), mq_u2n e2]; exact q2 j' h1 h2
      · rw [mq_u2n (fun z => e1 (by rwa [H.inj hk hh] at z)), mq_u2k e1]; exact q2 j' h1 h2
    · rw [mq_u2n (by omega)]; exact q4
    · rw [mq_u2n (by omega)]; exact q5
  · intro a ha
    have e1 : AA a ≠ A h := fun z => by have h1 := H.tH hh; have h2 := (H.aA ha).2.2; rw [z] at h2; omega
    have e2 : AT a ≠ A h := fun z => by have h1 := H.tH hh; have h2 := (H.aT ha).2.2; rw [z] at h2; omega
    obtain ⟨q1, q2, q3, q4, q5, q6, q7⟩ := p6 a ha
    refine ⟨?_, ?_, q3, q4, ?_, q6, ?_⟩
    · rw [mq_u2n e1, mq_u2n (by omega)]; exact q1
    · rw [mq_u2n e1, mq_u2n (by omega)]; exact q2
    · rw [mq_u2n (by omega)]; exact q5
    · intro k hk
      rw [mq_u2n e2, mq_u2n (by omega)]; exact q7 k hk
  · intro k hk
    have e1 : AN k ≠ A h := fun z => by have h1 := H.tH hh; have h2 := (H.aN hk).2.2; rw [z] at h2; omega
    obtain ⟨q1, q2, q3, q4, q5, q6, q7⟩ := p7 k hk
    refine ⟨?_, ?_, ?_, ?_, ?_, ?_, q7⟩
    · rw [mq_u2n e1]; exact q1
    · rw [mq_u2n (by omega)]; exact q2
    · rw [mq_u2n e1, mq_u2n (by omega)]; exact q3
    · rw [mq_u2n e1, mq_u2n (by omega)]; exact q4
    · rw [mq_u2n e1, mq_u2n (by omega)]; exact q5
    · rw [mq_u2n e1, mq_u2n (by omega)]; exact q6
/-- a mark of a holding that nothing tells of is written -/
theorem kCD.w14 (H : kCD B A AA AT AN n na nn e t l i r x) {h : Nat} (hh : h < n) (v : Int32) : kCD B A AA AT AN n na nn e t l (mj_u2 i (A h) 14 v) r x := by
  obtain ⟨p1, p2, p3, p4, p5, p6, p7⟩ := id H
  refine ⟨p1, p2, p3, p4, ?_, ?_, ?_⟩
  · intro k hk
    obtain ⟨q1, q2, q3, q4, q5⟩ := p5 k hk
    refine ⟨?_, ?_, q3, q4, q5⟩
    · rw [mq_u2k (by decide)]; exact q1
    · intro j' h1 h2
      rw [mq_u2k (kfd_0 ⟨h1, h2⟩).2]; exact q2 j' h1 h2
  · intro a ha
    have e1 : AA a ≠ A h := fun z => by have h1 := H.tH hh; have h2 := (H.aA ha).2.2; rw [z] at h2; omega
    have e2 : AT a ≠ A h := fun z => by have h1 := H.tH hh; have h2 := (H.aT ha).2.2; rw [z] at h2; omega
    obtain ⟨q1, q2, q3, q4, q5, q6, q7⟩ := p6 a ha
    refine ⟨?_, ?_, q3, q4, q5, q6, ?_⟩
    · rw [mq_u2n e1]; exact q1
    · rw [mq_u2n e1]; exact q2
    · intro k hk
      rw [mq_u2n e2]; exact q7 k hk
  · intro k hk
    have e1 : AN k ≠ A h := fun z => by have h1 := H.tH hh; have h2 := (H.aN hk).2.2; rw [z] at h2; omega
    obtain ⟨q1, q2, q3, q4, q5, q6, q7⟩ := p7 k hk
    refine ⟨?_, q2, ?_, ?_, ?_, ?_, q7⟩ <;> rw [mq_u2n e1] <;> assumption
/-- a reference of a holding is written: what it is out of -/
theorem kCD.w1 (H : kCD B A AA AT AN n na nn e t l i r x) {h : Nat} (hh : h < n) {v : Int32} (hv : kV n v) : kCD B A AA AT AN n na nn (mj_u2 e 1 h v) t l i (mj_u2 r (A h) 2 (kR A v)) x := by
  obtain ⟨p1, p2, p3, p4, p5, p6, p7⟩ := id H
  refine ⟨p1, p2, ?_, ?_, ?_, ?_, ?_⟩
  · intro k hk
    refine ⟨?_, by rw [mq_u2n (by omega)]; exact (p3 k hk).2⟩
    by_cases e1 : k = h
    · subst e1; rw [mq_u2s]; exact hv
    · rw [mq_u2k e1]; exact (p3 k hk).1
  · intro k hk
    rw [mq_u2n (by omega)]; exact p4 k hk
  · intro k hk
    obtain ⟨q1, q2, q3, q4, q5⟩ := p5 k hk
    refine ⟨q1, ?_, ?_, ?_, ?_⟩
    · intro j' h1 h2
      rw [mq_u2n (by omega)]; exact q2 j' h1 h2
    · rw [mq_u2k (by decide)]; exact q3
    · by_cases e1 : k = h
      · subst e1; rw [mq_u2s, mq_u2s]
      · rw [mq_u2n (fun z => e1 (by rwa [H.inj hk hh] at z)), mq_u2k e1]; exact q4
    · rw [mq_u2k (by decide), mq_u2n (by omega)]; exact q5
  · intro a ha
    have e1 : AA a ≠ A h := fun z => by have h1 := H.tH hh; have h2 := (H.aA ha).2.2; rw [z] at h2; omega
    obtain ⟨q1, q2, q3, q4, q5, q6, q7⟩ := p6 a ha
    refine ⟨?_, ?_, ?_, ?_, ?_, q6, ?_⟩
    · rw [mq_u2n (by omega)]; exact q1
    · rw [mq_u2n (by omega)]; exact q2
    · rw [mq_u2n e1]; exact q3
    · rw [mq_u2n e1]; exact q4
    · rw [mq_u2n (by omega)]; exact q5
    · intro k hk
      rw [mq_u2n (by omega)]; exact q7 k hk
  · intro k hk
    have e1 : AN k ≠ A h := fun z => by have h1 := H.tH hh; have h2 := (H.aN hk).2.2; rw [z] at h2; omega
    obtain ⟨q1, q2, q3, q4, q5, q6, q7⟩ := p7 k hk
    refine ⟨q1, ?_, ?_, ?_, ?_, ?_, ?_⟩
    · rw [mq_u2n e1, mq_u2n (by omega)]; exact q2
    · rw [mq_u2n (by omega)]; exact q3
    · rw [mq_u2n (by omega)]; exact q4
    · rw [mq_u2n (by omega)]; exact q5
    · rw [mq_u2n (by omega)]; exact q6
    · rw [mq_u2n e1]; exact q7
/-- with what it fell -/
theorem kCD.w12 (H : kCD B A AA AT AN n na nn e t l i r x) {h : Nat} (hh : h < n) {v : Int32} (hv : kV n v) : kCD B A AA AT AN n na nn (mj_u2 e 12 h v) t l i (mj_u2 r (A h) 13 (kR A v)) x := by
  obtain ⟨p1, p2, p3, p4, p5, p6, p7⟩ := id H
  refine ⟨p1, p2, ?_, ?_, ?_, ?_, ?_⟩
  · intro k hk
    refine ⟨by rw [mq_u2n (by omega)]; exact (p3 k hk).1, ?_⟩
    by_cases e1 : k = h
    · subst e1; rw [mq_u2s]; exact hv
    · rw [mq_u2k e1]; exact (p3 k hk).2
  · intro k hk
    rw [mq_u2n (by omega)]; exact p4 k hk
  · intro k hk
    obtain ⟨q1, q2, q3, q4, q5⟩ := p5 k hk
    refine ⟨q1, ?_, ?_, ?_, ?_⟩
    · intro j' h1 h2
      rw [mq_u2n (by omega)]; exact q2 j' h1 h2
    · rw [mq_u2k (by decide)]; exact q3
    · rw [mq_u2k (by decide), mq_u2n (by omega)]; exact q4
    · by_cases e1 : k = h
      · subst e1; rw [mq_u2s, mq_u2s]
      · rw [mq_u2n (fun z => e1 (by rwa [H.inj hk hh] at z)), mq_u2k e1]; exact q5
  · intro a ha
    have e1 : AA a ≠ A h := fun z => by have h1 := H.tH hh; have h2 := (H.aA ha).2.2; rw [z] at h2; omega
    obtain ⟨q1, q2, q3, q4, q5, q6, q7⟩ := p6 a ha
    refine ⟨?_, ?_, ?_, ?_, ?_, q6, ?_⟩
    · rw [mq_u2n (by omega)]; exact q1
    · rw [mq_u2n (by omega)]; exact q2
    · rw [mq_u2n e1]; exact q3
    · rw [mq_u2n e1]; exact q4
    · rw [mq_u2n (by omega)]; exact q5
    · intro k hk
      rw [mq_u2n (by omega)]; exact q7 k hk
  · intro k hk
    have e1 : AN k ≠ A h := fun z => by have h1 := H.tH hh; have h2 := (H.aN hk).2.2; rw [z] at h2; omega
    obtain ⟨q1, q2, q3, q4, q5, q6, q7⟩ := p7 k hk
    refine ⟨q1, ?_, ?_, ?_, ?_, ?_, ?_⟩
    · rw [mq_u2n e1, mq_u2n (by omega)]; exact q2
    · rw [mq_u2n (by omega)]; exact q3
    · rw [mq_u2n (by omega)]; exact q4
    · rw [mq_u2n (by omega)]; exact q5
    · rw [mq_u2n (by omega)]; exact q6
    · rw [mq_u2n e1]; exact q7
/-- a notice's standing (28), or the day of its withdrawal (29) -/
theorem kCD.wN (H : kCD B A AA AT AN n na nn e t l i r x) {k : Nat} (hk : k < nn) {j f : Nat} (hj : (j = 28 ∧ f = 4) ∨ (j = 29 ∧ f = 5)) (v : Int32) : kCD B A AA AT AN n na nn (mj_u2 e j k v) t l (mj_u2 i (AN k) f v) r x := by
  obtain ⟨p1, p2, p3, p4, p5, p6, p7⟩ := id H
  refine ⟨p1, p2, ?_, ?_, ?_, ?_, ?_⟩
  · intro h hh
    rw [mq_u2n (by omega), mq_u2n (by omega)]; exact p3 h hh
  · intro h hh
    rw [mq_u2n (by omega)]; exact p4 h hh
  · intro h hh
    have e1 : A h ≠ AN k := fun z => by have h1 := H.tH hh; have h2 := (H.aN hk).2.2; rw [← z] at h2; omega
    obtain ⟨q1, q2, q3, q4, q5⟩ := p5 h hh
    refine ⟨?_, ?_, q3, ?_, ?_⟩
    · rw [mq_u2n e1]; exact q1
    · intro j' h1 h2
      rw [mq_u2n e1, mq_u2n (by omega)]; exact q2 j' h1 h2
    · rw [mq_u2n (by omega)]; exact q4
    · rw [mq_u2n (by omega)]; exact q5
  · intro a ha
    have e1 : AA a ≠ AN k := fun z => by have h1 := (H.aA ha).2.2; have h2 := (H.aN hk).2.2; rw [← z] at h2; omega
    have e2 : AT a ≠ AN k := fun z => by have h1 := (H.aT ha).2.2; have h2 := (H.aN hk).2.2; rw [← z] at h2; omega
    obtain ⟨q1, q2, q3, q4, q5, q6, q7⟩ := p6 a ha
    refine ⟨?_, ?_, q3, q4, ?_, q6, ?_⟩
    · rw [mq_u2n e1, mq_u2n (by omega)]; exact q1
    · rw [mq_u2n e1, mq_u2n (by omega)]; exact q2
    · rw [mq_u2n (by omega)]; exact q5
    · intro k hk
      rw [mq_u2n e2, mq_u2n (by omega)]; exact q7 k hk
  · intro k' hk'
    obtain ⟨q1, q2, q3, q4, q5, q6, q7⟩ := p7 k' hk'
    by_cases e0 : k' = k
    · subst e0
      rcases hj with ⟨rfl, rfl⟩ | ⟨rfl, rfl⟩
      · refine ⟨?_, ?_, ?_, ?_, ?_, ?_, q7⟩
        · rw [mq_u2k (by decide)]; exact q1
        · rw [mq_u2n (by decide)]; exact q2
        · rw [mq_u2k (by decide), mq_u2n (by decide)]; exact q3
        · rw [mq_u2k (by decide), mq_u2n (by decide)]; exact q4
        · rw [mq_u2s, mq_u2s]
        · rw [mq_u2k (by decide), mq_u2n (by decide)]; exact q6
      · refine ⟨?_, ?_, ?_, ?_, ?_, ?_, q7⟩
        · rw [mq_u2k (by decide)]; exact q1
        · rw [mq_u2n (by decide)]; exact q2
        · rw [mq_u2k (by decide), mq_u2n (by decide)]; exact q3
        · rw [mq_u2k (by decide), mq_u2n (by decide)]; exact q4
        · rw [mq_u2k (by decide), mq_u2n (by decide)]; exact q5
        · rw [mq_u2s, mq_u2s]
    · have e1 : AN k' ≠ AN k := fun z => e0 (by rwa [H.injN hk' hk] at z)
      refine ⟨?_, ?_, ?_, ?_, ?_, ?_, q7⟩
      · rw [mq_u2n e1]; exact q1
      · rw [mq_u2k e0]; exact q2
      · rw [mq_u2n e1, mq_u2k e0]; exact q3
      · rw [mq_u2n e1, mq_u2k e0]; exact q4
      · rw [mq_u2n e1, mq_u2k e0]; exact q5
      · rw [mq_u2n e1, mq_u2k e0]; exact q6
/-- the same numbers below the bounds -/
theorem kCD.to {e' : Nat → Nat → Int32} (H : kCD B A AA AT AN n na nn e t l i r x) (h1 : ∀ j, 1 ≤ j → j ≤ 12 → ∀ h, h < n → e' j h = e j h) (h2 : ∀ j, 17 ≤ j → j ≤ 19 → ∀ h, h < na → e' j h = e j h) (h3 : ∀ h, h < 48 * na → e' 16 h = e 16 h) (h4 : ∀ j, 25 ≤ j → j ≤ 29 → ∀ h, h < nn → e' j h = e j h) : kCD B A AA AT AN n na nn e' t l i r x := by
  obtain ⟨p1, p2, p3, p4, p5, p6, p7⟩ := id H
  refine ⟨p1, p2, ?_, ?_, ?_, ?_, ?_⟩
  · intro k hk
    rw [h1 1 (by decide) (by decide) k hk, h1 12 (by decide) (by decide) k hk]; exact p3 k hk
  · intro k hk
    rw [h4 25 (by decide) (by decide) k hk]; exact p4 k hk
  · intro k hk
    obtain ⟨q1, q2, q3, q4, q5⟩ := p5 k hk
    exact ⟨q1, fun j a b => by rw [h1 j (by omega) (by omega) k hk]; exact q2 j a b, q3, by rw [h1 1 (by decide) (by decide) k hk]; exact q4, by rw [h1 12 (by decide) (by decide) k hk]; exact q5⟩
  · intro a ha
    obtain ⟨q1, q2, q3, q4, q5, q6, q7⟩ := p6 a ha
    exact ⟨by rw [h2 18 (by decide) (by decide) a ha]; exact q1, by rw [h2 19 (by decide) (by decide) a ha]; exact q2, q3, q4, by rw [h2 17 (by decide) (by decide) a ha]; exact q5, q6, fun k hk => by rw [h3 (48 * a + k) (by omega)]; exact q7 k hk⟩
  · intro k hk
    obtain ⟨q1, q2, q3, q4, q5, q6, q7⟩ := p7 k hk
    exact ⟨q1, by rw [h4 25 (by decide) (by decide) k hk]; exact q2, by rw [h4 26 (by decide) (by decide) k hk]; exact q3, by rw [h4 27 (by decide) (by decide) k hk]; exact q4, by rw [h4 28 (by decide) (by decide) k hk]; exact q5, by rw [h4 29 (by decide) (by decide) k hk]; exact q6, q7⟩
end

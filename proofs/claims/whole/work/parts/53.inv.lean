/-! STAGE B: what holds between two calls -/
def kun (s : Nat → Nat → Int32) (h : Nat) : Int32 := if s 6 h = 0 then s 4 h else s 5 h
/-- a text's walk, as the reference goes: what stands behind a sign -/
def gDig (c : Int32) : Bool := decide (48 ≤ c ∧ c ≤ 57)
def gSt (st : Nat) (c : Int32) (op : Nat) : Option Nat :=
  if st = 0 then (if c = 33 ∨ c = 40 then some 0 else if mj_fact c then some 1 else none)
  else if st = 1 then (if c = 60 ∨ c = 62 ∨ c = 61 then some 2 else none)
  else if st < 7 ∧ gDig c then some (st + 1)
  else if st = 2 then none
  else if c = 38 ∨ c = 124 then some 0 else if c = 41 ∧ 0 < op then some 8 else none
def gOp (c : Int32) (op : Nat) : Nat := if c = 40 then op + 1 else if c = 41 then op - 1 else op
/-- the fault's place -/
def gF (f : Nat → Int32) : Nat → Nat → Nat → Nat → Option Nat
  | 0, k, st, op => if 2 < st ∧ op = 0 then none else some k
  | m + 1, k, st, op => match gSt st (f k) op with
    | none => some k
    | some st' => gF f m (k + 1) st' (gOp (f k) op)
/-- sets of lines -/
def rWi (s : Nat → Nat → Int32) (a b : Nat) : Bool := decide (s 51 b ≤ s 51 a ∧ s 52 a ≤ s 52 b)
def rUp (s : Nat → Nat → Int32) (a b : Nat) : Bool := decide (a ≠ b ∧ s 50 a = s 49 b)
def rCl (s : Nat → Nat → Int32) (a b : Nat) : Bool := decide (a ≠ b) && (decide (s 49 a = s 49 b) || (rUp s a b && !rWi s a b) || (rUp s b a && !rWi s b a))
/-- those of a set with one above them in the set -/
def rKeep (s : Nat → Nat → Int32) (p : Nat) (S : Nat → Bool) : Nat → Bool := fun k => decide (k < p) && S k && kAny (fun j => S j && rUp s k j) p 0
def rRest (s : Nat → Nat → Int32) (p : Nat) : Nat → (Nat → Bool) → Nat → Bool
  | 0, S => S
  | f + 1, S => rRest s p f (rKeep s p S)
def rCan (s : Nat → Nat → Int32) (p : Nat) (S : Nat → Bool) : Bool := !kAny (fun k => S k && kAny (fun j => S j && rCl s k j) p 0) p 0 && !kAny (rRest s p p S) p 0
def rOnes : Nat → Nat → Nat
  | 0, _ => 0
  | p + 1, m => (if m.testBit p then 1 else 0) + rOnes p m
def rFew (s : Nat → Nat → Int32) (p f : Nat) : Prop := (∃ m, m < 2 ^ p ∧ rCan s p m.testBit = true ∧ f + rOnes p m = p) ∧ ∀ m, m < 2 ^ p → rCan s p m.testBit = true → f + rOnes p m ≤ p
/-! the groups -/
def kU (A AA AN : Nat → Nat) (n na nn : Nat) (u : Nat → Nat) : Prop := u 0 = kP A n 0 ∧ u 1 = (if n = 0 then 0 else A (n - 1)) ∧ u 2 = (if na = 0 then 0 else AA (na - 1)) ∧ u 3 = kP AN nn 0 ∧ u 4 = (if nn = 0 then 0 else AN (nn - 1))
/-- today, holdings' number, where persons live, weights -/
def kC1 (c s : Nat → Nat → Int32) (n : Nat) : Prop := c 1 0 = s 0 0 ∧ c 1 3 = nI n ∧ s 0 13 = nI n ∧ (∀ p, p < 10 → c 2 p = s 15 p ∧ (s 15 p = -6 ∨ ∃ f, f < 12 ∧ s 15 p = nI f)) ∧ (∀ f, f < 12 → c 3 f = s 14 f ∧ 1 ≤ s 14 f ∧ s 14 f ≤ 100)
/-- signs, acts' number, notices' number -/
def kC2 (c s : Nat → Nat → Int32) (na nn m : Nat) : Prop := m ≤ 48 ∧ c 4 2 = nI m ∧ s 17 12 = nI m ∧ (∀ k, k < m → c 5 k = s 16 (576 + k)) ∧ c 4 3 = nI na ∧ s 0 20 = nI na ∧ c 8 2 = nI nn ∧ s 0 30 = nI nn
/-- points, values -/
def kC3 (c s : Nat → Nat → Int32) (p : Nat) : Prop := p ≤ 10 ∧ c 9 3 = nI p ∧ s 0 35 = nI p ∧ (∀ k, k < p → c 11 k = s 33 k ∧ c 12 k = s 34 k ∧ 1 ≤ s 33 k ∧ s 33 k ≤ 200 ∧ 0 ≤ s 34 k ∧ s 34 k ≤ 10000) ∧ (∀ k, k + 1 < p → s 33 k < s 33 (k + 1)) ∧ c 9 4 = s 0 42 ∧ c 9 5 = s 0 43 ∧ 0 ≤ s 0 42 ∧ s 0 42 ≤ 500 ∧ 0 ≤ s 0 43 ∧ s 0 43 ≤ 100 ∧ (∀ f, f < 12 → c 10 f = s 32 f ∧ 0 ≤ s 32 f ∧ s 32 f ≤ 1000000)
/-- sales -/
def kC4 (c s : Nat → Nat → Int32) (p : Nat) : Prop := p ≤ 20 ∧ c 13 2 = nI p ∧ s 0 38 = nI p ∧ (∀ k, k < p → c 14 k = s 36 k ∧ c 15 k = s 37 k ∧ 0 ≤ s 36 k ∧ s 36 k ≤ 200 ∧ 0 ≤ s 37 k ∧ s 37 k ≤ 10000)
/-- lines -/
def kC5 (c s : Nat → Nat → Int32) (p : Nat) : Prop := p ≤ 12 ∧ c 16 6 = nI p ∧ s 0 53 = nI p ∧ (∀ k, k < p → c 17 k = s 49 k ∧ c 18 k = s 50 k ∧ c 19 k = s 51 k ∧ c 20 k = s 52 k ∧ s 49 k ≠ s 50 k) ∧ (∀ k, k < 12 → ∃ m, m < 2 ^ p ∧ c 21 k = nI m ∧ ∀ j, j < p → m.testBit j = (decide (k < p) && rCl s k j)) ∧ (∀ k, k < 12 → ∃ m, m < 2 ^ p ∧ c 22 k = nI m ∧ ∀ j, j < p → m.testBit j = (decide (k < p) && rUp s k j)) ∧ (c 16 7 = -6 ∨ ∃ f, f ≤ 12 ∧ c 16 7 = nI f ∧ rFew s p f)
/-- holdings: ranges -/
def kR1 (s : Nat → Nat → Int32) (n h : Nat) : Prop := (s 1 h = -1 ∨ ∃ k, k < n ∧ s 1 h = nI k) ∧ (1 ≤ s 2 h ∧ s 2 h ≤ 4095) ∧ (0 ≤ s 3 h ∧ s 3 h < s 4 h ∧ s 4 h ≤ 73000) ∧ (0 ≤ s 5 h ∧ s 5 h ≤ 73000) ∧ (0 ≤ s 6 h ∧ s 6 h ≤ 5) ∧ (0 ≤ s 7 h ∧ s 7 h ≤ 9) ∧ (0 ≤ s 8 h ∧ s 8 h ≤ 73000) ∧ (0 ≤ s 9 h ∧ s 9 h ≤ 100000) ∧ (0 ≤ s 10 h ∧ s 10 h ≤ 100) ∧ (s 11 h = -6 ∨ (0 ≤ s 11 h ∧ s 11 h ≤ 73000)) ∧ (s 12 h = -6 ∨ ∃ k, k < n ∧ s 12 h = nI k)
/-- holdings: one and what it is out of -/
def kR2 (s : Nat → Nat → Int32) (n h : Nat) : Prop :=
  (s 6 h ≠ 0 → s 6 h ≠ 4 → s 5 h ≤ s 0 0 ∧ s 3 h ≤ s 0 0) ∧ (s 12 h ≠ -6 → s 6 h = 4) ∧ (s 6 h = 4 → s 5 h ≤ s 0 0 ∨ s 5 h = s 3 h) ∧ (s 1 h = -1 → s 6 h = 0 ∧ s 4 h = 73000 ∧ s 3 h = 0) ∧
  ∀ k, k < n → s 1 h = nI k →
    s 4 h ≤ s 4 k ∧ (s 3 k ≤ s 3 h ∨ s 3 k ≤ s 0 0) ∧ (s 6 h = 0 → s 0 0 ≤ s 4 h → s 4 h ≤ kun s k) ∧ (s 6 h = 0 → s 0 0 < s 4 h → s 6 k = 0) ∧
    (s 6 h = 4 → (s 12 h = -6 → s 6 k = 5 ∨ (s 6 k = 4 ∧ s 12 k = -6)) ∧ (∀ m, m < n → s 12 h = nI m → (k = m ∧ s 6 k = 2) ∨ (s 6 k = 4 ∧ s 12 k = nI m)))
def kHo (s : Nat → Nat → Int32) (n : Nat) : Prop := (0 ≤ s 0 0 ∧ s 0 0 ≤ 73000) ∧ (∀ h, h < n → kR1 s n h) ∧ (∃ rk : Nat → Nat, ∀ h, h < n → rk h < n ∧ ∀ k, k < n → s 1 h = nI k → rk k < rk h) ∧ ∀ h, h < n → kR2 s n h
def kAc (s : Nat → Nat → Int32) (na : Nat) : Prop := ∀ a, a < na → (0 ≤ s 18 a ∧ s 18 a ≤ 3) ∧ (0 ≤ s 19 a ∧ s 19 a ≤ 73000) ∧ ∃ m, m ≤ 48 ∧ s 17 a = nI m ∧ gF (fun k => s 16 (48 * a + k)) m 0 0 0 = none
def kNo (s : Nat → Nat → Int32) (n nn : Nat) : Prop := (∀ k, k < nn → (∃ h, h < n ∧ s 25 k = nI h ∧ 0 ≤ s 1 h) ∧ (s 26 k = 0 ∨ s 26 k = 1) ∧ (0 ≤ s 27 k ∧ s 27 k ≤ 73000) ∧ (0 ≤ s 28 k ∧ s 28 k ≤ 5) ∧ (0 ≤ s 29 k ∧ s 29 k ≤ 73000)) ∧ ∀ k, nn ≤ k → s 29 k = 0
/-- all of it; N: how many holdings, acts, notices, signs, points, sales, lines -/
def kG (B : Nat) (A AA AT AN N : Nat → Nat) (c s : Nat → Nat → Int32) (t l : Nat → Nat) (i : Nat → Nat → Int32) (r : Nat → Nat → Nat) (u : Nat → Nat) (x : Nat) : Prop :=
  kCD B A AA AT AN (N 0) (N 1) (N 2) s t l i r x ∧ kU A AA AN (N 0) (N 1) (N 2) u ∧ kC1 c s (N 0) ∧ kC2 c s (N 1) (N 2) (N 3) ∧ kC3 c s (N 4) ∧ kC4 c s (N 5) ∧ kC5 c s (N 6) ∧ kHo s (N 0) ∧ kAc s (N 1) ∧ kNo s (N 0) (N 2)
def kJ (B : Nat) (M : mj_M) : Prop := ∃ (A AA AT AN N t l u : Nat → Nat) (i c s : Nat → Nat → Int32) (r : Nat → Nat → Nat) (q g w : Nat → Nat → Int64) (x : Nat), M = (kT B t, kL B l, kI B i c s, kW B r u, kI B q g w, x) ∧ kG B A AA AT AN N c s t l i r u x
theorem kJ.mk {B x : Nat} {t l u : Nat → Nat} {i c s : Nat → Nat → Int32} {r : Nat → Nat → Nat} {q g w : Nat → Nat → Int64} {A AA AT AN N : Nat → Nat} (h : kG B A AA AT AN N c s t l i r u x) : kJ B (kT B t, kL B l, kI B i c s, kW B r u, kI B q g w, x) := ⟨A, AA, AT, AN, N, t, l, u, i, c, s, r, q, g, w, x, rfl, h⟩
section
variable {c s c' s' : Nat → Nat → Int32} {n na nn p m : Nat}
theorem kC1.to (h : kC1 c s n) (a1 : c' 1 0 = c 1 0) (a2 : c' 1 3 = c 1 3) (a3 : c' 2 = c 2) (a4 : c' 3 = c 3) (b1 : s' 0 0 = s 0 0) (b2 : s' 0 13 = s 0 13) (b3 : s' 15 = s 15) (b4 : s' 14 = s 14) : kC1 c' s' n := by
  unfold kC1 at h ⊢; rw [a1, a2, a3, a4, b1, b2, b3, b4]; exact h
theorem kC2.to (h : kC2 c s na nn m) (a1 : c' 4 2 = c 4 2) (a2 : c' 4 3 = c 4 3) (a3 : c' 5 = c 5) (a4 : c' 8 2 = c 8 2) (b1 : s' 17 12 = s 17 12) (b2 : ∀ k, k < 48 → s' 16 (576 + k) = s 16 (576 + k)) (b3 : s' 0 20 = s 0 20) (b4 : s' 0 30 = s 0 30) : kC2 c' s' na nn m := by
  obtain ⟨h1, h2, h3, h4, h5⟩ := h
  unfold kC2; rw [a1, a2, a3, a4, b1, b3, b4]; exact ⟨h1, h2, h3, fun k hk => by rw [b2 k (by omega)]; exact h4 k hk, h5⟩
theorem kC3.to (h : kC3 c s p) (a1 : c' 9 = c 9) (a2 : c' 10 = c 10) (a3 : c' 11 = c 11) (a4 : c' 12 = c 12) (b1 : s' 0 35 = s 0 35) (b2 : s' 0 42 = s 0 42) (b3 : s' 0 43 = s 0 43) (b4 : s' 32 = s 32) (b5 : s' 33 = s 33) (b6 : s' 34 = s 34) : kC3 c' s' p := by
  unfold kC3 at h ⊢; rw [a1, a2, a3, a4, b1, b2, b3, b4, b5, b6]; exact h
theorem kC4.to (h : kC4 c s p) (a1 : c' 13 2 = c 13 2) (a2 : c' 14 = c 14) (a3 : c' 15 = c 15) (b1 : s' 0 38 = s 0 38) (b2 : s' 36 = s 36) (b3 : s' 37 = s 37) : kC4 c' s' p := by
  unfold kC4 at h ⊢; rw [a1, a2, a3, b1, b2, b3]; exact h
theorem rWi_to (b3 : s' 51 = s 51) (b4 : s' 52 = s 52) : rWi s' = rWi s := by funext a b; unfold rWi; rw [b3, b4]
theorem rUp_to (b1 : s' 49 = s 49) (b2 : s' 50 = s 50) : rUp s' = rUp s := by funext a b; unfold rUp; rw [b1, b2]
theorem rCl_to (b1 : s' 49 = s 49) (b2 : s' 50 = s 50) (b3 : s' 51 = s 51) (b4 : s' 52 = s 52) : rCl s' = rCl s := by funext a b; unfold rCl; rw [b1, rUp_to b1 b2, rWi_to b3 b4]
theorem rKeep_to (b1 : s' 49 = s 49) (b2 : s' 50 = s 50) : rKeep s' = rKeep s := by funext p S k; unfold rKeep; rw [rUp_to b1 b2]
theorem rRest_to (b1 : s' 49 = s 49) (b2 : s' 50 = s 50) (p : Nat) : ∀ (f : Nat) (S : Nat → Bool), rRest s' p f S = rRest s p f S
  | 0, _ => rfl
  | f + 1, S => by unfold rRest; rw [rKeep_to b1 b2, rRest_to b1 b2 p f]
theorem rCan_to (b1 : s' 49 = s 49) (b2 : s' 50 = s 50) (b3 : s' 51 = s 51) (b4 : s' 52 = s 52) : rCan s' = rCan s := by
  funext p S; unfold rCan; rw [rCl_to b1 b2 b3 b4, rRest_to b1 b2]
theorem rFew_to (b1 : s' 49 = s 49) (b2 : s' 50 = s 50) (b3 : s' 51 = s 51) (b4 : s' 52 = s 52) : rFew s' = rFew s := by
  funext p f; unfold rFew; rw [rCan_to b1 b2 b3 b4]
theorem kC5.to (h : kC5 c s p) (a1 : c' 16 6 = c 16 6) (a2 : c' 16 7 = c 16 7) (a3 : c' 17 = c 17) (a4 : c' 18 = c 18) (a5 : c' 19 = c 19) (a6 : c' 20 = c 20) (a7 : c' 21 = c 21) (a8 : c' 22 = c 22) (b0 : s' 0 53 = s 0 53) (b1 : s' 49 = s 49) (b2 : s' 50 = s 50) (b3 : s' 51 = s 51) (b4 : s' 52 = s 52) : kC5 c' s' p := by
  unfold kC5 at h ⊢; rw [a1, a2, a3, a4, a5, a6, a7, a8, b0, b1, b2, b3, b4, rCl_to b1 b2 b3 b4, rUp_to b1 b2, rFew_to b1 b2 b3 b4]; exact h
theorem kun_to (b4 : s' 4 = s 4) (b5 : s' 5 = s 5) (b6 : s' 6 = s 6) : kun s' = kun s := by funext h; unfold kun; rw [b4, b5, b6]
theorem kHo.to (h : kHo s n) (b0 : s' 0 0 = s 0 0) (b : ∀ j, 1 ≤ j → j ≤ 12 → s' j = s j) : kHo s' n := by
  unfold kHo kR1 kR2 at h ⊢; rw [b0, b 1 (by decide) (by decide), b 2 (by decide) (by decide), b 3 (by decide) (by decide), b 4 (by decide) (by decide), b 5 (by decide) (by decide), b 6 (by decide) (by decide), b 7 (by decide) (by decide), b 8 (by decide) (by decide), b 9 (by decide) (by decide), b 10 (by decide) (by decide), b 11 (by decide) (by decide), b 12 (by decide) (by decide), kun_to (b 4 (by decide) (by decide)) (b 5 (by decide) (by decide)) (b 6 (by decide) (by decide))]; exact h
theorem gF_to {f f' : Nat → Int32} : ∀ (m k st op : Nat), (∀ j, k ≤ j → j < k + m → f' j = f j) → gF f' m k st op = gF f m k st op
  | 0, _, _, _, _ => rfl
  | m + 1, k, st, op, h => by
    unfold gF
    rw [h k (Nat.le_refl _) (by omega)]
    cases gSt st (f k) op with
    | none => rfl
    | some st' => exact gF_to m (k + 1) st' _ fun j a b => h j (by omega) (by omega)
theorem kAc.to (h : kAc s na) (b1 : ∀ a, a < na → s' 17 a = s 17 a ∧ s' 18 a = s 18 a ∧ s' 19 a = s 19 a) (b2 : ∀ k, k < 48 * na → s' 16 k = s 16 k) : kAc s' na := by
  intro a ha
  obtain ⟨h1, h2, m, h3, h4, h5⟩ := h a ha
  obtain ⟨e1, e2, e3⟩ := b1 a ha
  refine ⟨by rw [e2]; exact h1, by rw [e3]; exact h2, m, h3, by rw [e1]; exact h4, ?_⟩
  rw [gF_to m 0 0 0 (f := fun k => s 16 (48 * a + k)) fun j _ hj => b2 _ (by omega)]; exact h5
theorem kNo.to (h : kNo s n nn) (b1 : ∀ h, h < n → 0 ≤ s 1 h → 0 ≤ s' 1 h) (b : ∀ j, 25 ≤ j → j ≤ 29 → s' j = s j) : kNo s' n nn := by
  unfold kNo at h ⊢
  rw [b 25 (by decide) (by decide), b 26 (by decide) (by decide), b 27 (by decide) (by decide), b 28 (by decide) (by decide), b 29 (by decide) (by decide)]
  refine ⟨fun k hk => ?_, h.2⟩
  obtain ⟨⟨j, h1, h2, h3⟩, h4⟩ := h.1 k hk
  exact ⟨⟨j, h1, h2, b1 j h1 h3⟩, h4⟩
end
/-- what is no one's: the class's reading, grammar, counts of joining; the reference's rows for reading, falling -/
theorem kG.scr {B x : Nat} {A AA AT AN N t l u : Nat → Nat} {i c s c' s' : Nat → Nat → Int32} {r : Nat → Nat → Nat} (h : kG B A AA AT AN N c s t l i r u x) (hc : ∀ j, j ≠ 6 → j ≠ 7 → j ≠ 23 → c' j = c j) (hs : ∀ j, j ≠ 0 → j ≠ 21 → j ≠ 22 → j ≠ 23 → j ≠ 31 → s' j = s j) (h0 : ∀ j, j ≠ 24 → j ≠ 45 → s' 0 j = s 0 j) : kG B A AA AT AN N c' s' t l i r u x := by
  obtain ⟨h1, h2, h3, h4, h5, h6, h7, h8, h9, h10⟩ := h
  have S : ∀ j, j ≠ 0 → j ≠ 21 → j ≠ 22 → j ≠ 23 → j ≠ 31 → ∀ k, s' j k = s j k := fun j a1 a2 a3 a4 a5 k => by rw [hs j a1 a2 a3 a4 a5]
  refine ⟨h1.to (fun j a b k _ => S j (by omega) (by omega) (by omega) (by omega) (by omega) k) (fun j a b k _ => S j (by omega) (by omega) (by omega) (by omega) (by omega) k) (fun k _ => S 16 (by omega) (by omega) (by omega) (by omega) (by omega) k) (fun j a b k _ => S j (by omega) (by omega) (by omega) (by omega) (by omega) k), h2, ?_, ?_, ?_, ?_, ?_, ?_, ?_, ?_⟩
  · exact h3.to (by rw [hc] <;> decide) (by rw [hc] <;> decide) (hc _ (by decide) (by decide) (by decide)) (hc _ (by decide) (by decide) (by decide)) (h0 _ (by decide) (by decide)) (h0 _ (by decide) (by decide)) (hs _ (by decide) (by decide) (by decide) (by decide) (by decide)) (hs _ (by decide) (by decide) (by decide) (by decide) (by decide))
  · exact h4.to (by rw [hc] <;> decide) (by rw [hc] <;> decide) (hc _ (by decide) (by decide) (by decide)) (by rw [hc] <;> decide) (by rw [hs] <;> decide) (fun k _ => by rw [hs] <;> decide) (h0 _ (by decide) (by decide)) (h0 _ (by decide) (by decide))
  · exact h5.to (hc _ (by decide) (by decide) (by decide)) (hc _ (by decide) (by decide) (by decide)) (hc _ (by decide) (by decide) (by decide)) (hc _ (by decide) (by decide) (by decide)) (h0 _ (by decide) (by decide)) (h0 _ (by decide) (by decide)) (h0 _ (by decide) (by decide)) (hs _ (by decide) (by decide) (by decide) (by decide) (by decide)) (hs _ (by decide) (by decide) (by decide) (by decide) (by decide)) (hs _ (by decide) (by decide) (by decide) (by decide) (by decide))
  · exact h6.to (by rw [hc] <;> decide) (hc _ (by decide) (by decide) (by decide)) (hc _ (by decide) (by decide) (by decide)) (h0 _ (by decide) (by decide)) (hs _ (by decide) (by decide) (by decide) (by decide) (by decide)) (hs _ (by decide) (by decide) (by decide) (by decide) (by decide))
  · exact h7.to (by rw [hc] <;> decide) (by rw [hc] <;> decide) (hc _ (by decide) (by decide) (by decide)) (hc _ (by decide) (by decide) (by decide)) (hc _ (by decide) (by decide) (by decide)) (hc _ (by decide) (by decide) (by decide)) (hc _ (by decide) (by decide) (by decide)) (hc _ (by decide) (by decide) (by decide)) (h0 _ (by decide) (by decide)) (hs _ (by decide) (by decide) (by decide) (by decide) (by decide)) (hs _ (by decide) (by decide) (by decide) (by decide) (by decide)) (hs _ (by decide) (by decide) (by decide) (by decide) (by decide)) (hs _ (by decide) (by decide) (by decide) (by decide) (by decide))
  · exact h8.to (h0 _ (by decide) (by decide)) (fun j a b => hs j (by omega) (by omega) (by omega) (by omega) (by omega))
  · exact h9.to (fun a _ => ⟨by rw [hs] <;> decide, by rw [hs] <;> decide, by rw [hs] <;> decide⟩) (fun k _ => by rw [hs] <;> decide)
  · exact h10.to (fun h _ => by rw [hs 1 (by decide) (by decide) (by decide) (by decide) (by decide)]; exact id) (fun j a b => hs j (by omega) (by omega) (by omega) (by omega) (by omega))

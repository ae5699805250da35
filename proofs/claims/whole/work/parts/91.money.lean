/-! STAGE B: bounds of money -/
theorem l_le {a b : Int64} : a ≤ b ↔ a.toInt ≤ b.toInt := Int64.le_iff_toInt_le
theorem l_lt {a b : Int64} : a < b ↔ a.toInt < b.toInt := Int64.lt_iff_toInt_lt
theorem l_eq {a b : Int64} : a = b ↔ a.toInt = b.toInt := ⟨fun h => h ▸ rfl, fun h => Int64.toInt_inj.mp h⟩
theorem l_of (a : Int32) : a.toInt64.toInt = a.toInt := Int32.toInt_toInt64 a
theorem l_add {a b : Int64} (h : -9000000000000000000 ≤ a.toInt + b.toInt ∧ a.toInt + b.toInt ≤ 9000000000000000000) : (a + b).toInt = a.toInt + b.toInt := by
  rw [Int64.toInt_add, Int.bmod_eq_of_le (by omega) (by omega)]
theorem l_sub {a b : Int64} (h : -9000000000000000000 ≤ a.toInt - b.toInt ∧ a.toInt - b.toInt ≤ 9000000000000000000) : (a - b).toInt = a.toInt - b.toInt := by
  rw [Int64.toInt_sub, Int.bmod_eq_of_le (by omega) (by omega)]
theorem l_mul {a b : Int64} {A C : Int} (ha : 0 ≤ a.toInt ∧ a.toInt ≤ A) (hb : 0 ≤ b.toInt ∧ b.toInt ≤ C) (h : A * C ≤ 9000000000000000000) : (a * b).toInt = a.toInt * b.toInt ∧ 0 ≤ a.toInt * b.toInt ∧ a.toInt * b.toInt ≤ A * C := by
  have h1 : 0 ≤ a.toInt * b.toInt := Int.mul_nonneg ha.1 hb.1
  have h2 : a.toInt * b.toInt ≤ A * C := Int.mul_le_mul ha.2 hb.2 hb.1 (Int.le_trans ha.1 ha.2)
  refine ⟨?_, h1, h2⟩
  rw [Int64.toInt_mul, Int.bmod_eq_of_le (by omega) (by omega)]
theorem l_div {a b : Int64} (ha : 0 ≤ a.toInt) (hb : 0 < b.toInt) : (a / b).toInt = a.toInt / b.toInt ∧ 0 ≤ a.toInt / b.toInt ∧ a.toInt / b.toInt ≤ a.toInt := by
  have h1 : 0 ≤ a.toInt / b.toInt := Int.ediv_nonneg ha (by omega)
  have h2 : a.toInt / b.toInt ≤ a.toInt := Int.ediv_le_self _ ha
  have h3 := a.toInt_lt
  refine ⟨?_, h1, h2⟩
  rw [Int64.toInt_div, Int.tdiv_eq_ediv_of_nonneg ha, Int.bmod_eq_of_le (by omega) (by omega)]
section
variable {s : Nat → Nat → Int32}
theorem kVa_b (hf : ∀ f, f < 12 → 0 ≤ s 32 f ∧ s 32 f ≤ 1000000) {v : Int32} : ∀ (m k : Nat) (a : Int64), k + m = 12 → 0 ≤ a.toInt → a.toInt ≤ 1000000 * k → 0 ≤ (kVa s v m k a).toInt ∧ (kVa s v m k a).toInt ≤ 12000000
  | 0, k, a, hk, h1, h2 => ⟨h1, by show a.toInt ≤ _; omega⟩
  | m + 1, k, a, hk, h1, h2 => by
    obtain ⟨b1, b2⟩ := hf k (by omega)
    have e0 : (0 : Int32).toInt = 0 := by decide
    have e2 : (1000000 : Int32).toInt = 1000000 := by decide
    rw [i_le] at b1 b2
    unfold kVa
    by_cases z : (v >>> (nI k &&& 31)) &&& 1 = 1
    · rw [if_pos z]
      have e : (a + (s 32 k).toInt64).toInt = a.toInt + (s 32 k).toInt := by rw [l_add (by rw [l_of]; omega), l_of]
      exact kVa_b hf m (k + 1) _ (by omega) (by rw [e]; omega) (by rw [e]; omega)
    · rw [if_neg z]; exact kVa_b hf m (k + 1) a (by omega) h1 (by omega)
theorem kTb_b {c : Nat → Nat → Int32} {p : Nat} (g5 : kC3 c s p) {y : Int32} : ∀ (m k : Nat) (pv v : Int32), k + m = p → ((pv = 0 ∧ k = 0) ∨ (0 < k ∧ pv = s 33 (k - 1))) → pv ≤ y → 0 ≤ v → v ≤ 10000 → 0 ≤ (kTb s y m k pv v).toInt ∧ (kTb s y m k pv v).toInt ≤ 10000
  | 0, k, pv, v, hk, hp, hy, h0, h1 => by
    have e0 : (0 : Int32).toInt = 0 := by decide
    have e2 : (10000 : Int32).toInt = 10000 := by decide
    rw [i_le] at h0 h1
    unfold kTb; omega
  | m + 1, k, pv, v, hk, hp, hy, h0, h1 => by
    obtain ⟨q1, q2, q3, q4, q5, _⟩ := id g5
    obtain ⟨_, _, b1, b2, b3, b4⟩ := q4 k (by omega)
    unfold kTb
    by_cases z : s 33 k < y
    · rw [if_pos z]
      exact kTb_b g5 m (k + 1) _ _ (by omega) (.inr ⟨by omega, by rw [Nat.add_sub_cancel]⟩) (Int32.le_of_lt z) b3 b4
    · rw [if_neg z]
      have e0 : (0 : Int32).toInt = 0 := by decide
      have e1 : (1 : Int32).toInt = 1 := by decide
      have e2 : (10000 : Int32).toInt = 10000 := by decide
      have e3 : (200 : Int32).toInt = 200 := by decide
      have hpv : 0 ≤ pv.toInt ∧ pv.toInt < (s 33 k).toInt := by
        rcases hp with ⟨rfl, _⟩ | ⟨z1, z2⟩
        · rw [i_le] at b1; omega
        · have u1 := q5 (k - 1) (by omega)
          rw [show k - 1 + 1 = k by omega] at u1
          have u2 := (q4 (k - 1) (by omega)).2.2.1
          rw [z2]; rw [i_lt] at u1; rw [i_le] at u2; omega
      have z' : y ≤ s 33 k := Int32.not_lt.mp z
      rw [i_le] at h0 h1 b1 b2 b3 b4 hy z'
      have d1 : (s 33 k - y).toInt = (s 33 k).toInt - y.toInt := by rw [Int32.toInt_sub, Int.bmod_eq_of_le (by omega) (by omega)]
      have d2 : (y - pv).toInt = y.toInt - pv.toInt := by rw [Int32.toInt_sub, Int.bmod_eq_of_le (by omega) (by omega)]
      have d3 : (s 33 k - pv).toInt = (s 33 k).toInt - pv.toInt := by rw [Int32.toInt_sub, Int.bmod_eq_of_le (by omega) (by omega)]
      have m1 : 0 ≤ v.toInt * ((s 33 k).toInt - y.toInt) := Int.mul_nonneg (by omega) (by omega)
      have m2 : v.toInt * ((s 33 k).toInt - y.toInt) ≤ 10000 * ((s 33 k).toInt - y.toInt) := Int.mul_le_mul_of_nonneg_right (by omega) (by omega)
      have m3 : 0 ≤ (s 34 k).toInt * (y.toInt - pv.toInt) := Int.mul_nonneg (by omega) (by omega)
      have m4 : (s 34 k).toInt * (y.toInt - pv.toInt) ≤ 10000 * (y.toInt - pv.toInt) := Int.mul_le_mul_of_nonneg_right (by omega) (by omega)
      have f1 : (v * (s 33 k - y)).toInt = v.toInt * ((s 33 k).toInt - y.toInt) := by rw [Int32.toInt_mul, d1, Int.bmod_eq_of_le (by omega) (by omega)]
      have f2 : (s 34 k * (y - pv)).toInt = (s 34 k).toInt * (y.toInt - pv.toInt) := by rw [Int32.toInt_mul, d2, Int.bmod_eq_of_le (by omega) (by omega)]
      have f3 : (v * (s 33 k - y) + s 34 k * (y - pv)).toInt = v.toInt * ((s 33 k).toInt - y.toInt) + (s 34 k).toInt * (y.toInt - pv.toInt) := by rw [Int32.toInt_add, f1, f2, Int.bmod_eq_of_le (by omega) (by omega)]
      have p0 : 0 < (s 33 k).toInt - pv.toInt := by omega
      have n0 : 0 ≤ (v.toInt * ((s 33 k).toInt - y.toInt) + (s 34 k).toInt * (y.toInt - pv.toInt)) / ((s 33 k).toInt - pv.toInt) := Int.ediv_nonneg (by omega) (by omega)
      have n1 : (v.toInt * ((s 33 k).toInt - y.toInt) + (s 34 k).toInt * (y.toInt - pv.toInt)) / ((s 33 k).toInt - pv.toInt) ≤ 10000 := by
        refine Int.ediv_le_of_le_mul p0 ?_
        omega
      rw [Int32.toInt_div, f3, d3, Int.tdiv_eq_ediv_of_nonneg (by omega), Int.bmod_eq_of_le (by omega) (by omega)]
      exact ⟨n0, n1⟩
theorem kTv_b {c : Nat → Nat → Int32} {p : Nat} (g5 : kC3 c s p) {y : Int32} (hy : 0 ≤ y) : 0 ≤ (kTv s p y).toInt ∧ (kTv s p y).toInt ≤ 10000 := by
  unfold kTv
  split
  · decide
  · exact kTb_b g5 p 0 0 0 (by omega) (.inl ⟨rfl, rfl⟩) hy (by decide) (by decide)
theorem kVa_c {c : Nat → Nat → Int32} {p : Nat} (g5 : kC3 c s p) {v : Int32} : 0 ≤ (kVa s v 12 0 0).toInt ∧ (kVa s v 12 0 0).toInt ≤ 12000000 :=
  kVa_b (fun f hf => (g5.2.2.2.2.2.2.2.2.2.2.2 f hf).2) 12 0 0 (by omega) (by decide) (by decide)
theorem kWo_b {c : Nat → Nat → Int32} {p : Nat} (g5 : kC3 c s p) {v y : Int32} (hy : 0 ≤ y) : 0 ≤ (kWo s p v y).toInt ∧ (kWo s p v y).toInt ≤ (kVa s v 12 0 0).toInt := by
  have h1 := kVa_c g5 (v := v)
  have h2 := kTv_b g5 hy
  have h3 := l_mul (b := (kTv s p y).toInt64) h1 (by rw [l_of]; exact h2) (by decide)
  rw [l_of] at h3
  have e4 : (10000 : Int64).toInt = 10000 := by decide
  have h4 := l_div (a := kVa s v 12 0 0 * (kTv s p y).toInt64) (b := 10000) (by rw [h3.1]; exact h3.2.1) (by decide)
  rw [h3.1, e4] at h4
  unfold kWo
  rw [h4.1]
  refine ⟨h4.2.1, ?_⟩
  refine Int.ediv_le_of_le_mul (by decide) ?_
  exact Int.mul_le_mul_of_nonneg_left h2.2 h1.1
theorem i_shl {a : Int32} (h : 0 ≤ a ∧ a ≤ 100000) {k : Nat} (hk : k ≤ 10) : 0 ≤ (a <<< (nI k &&& 31)).toInt ∧ (a <<< (nI k &&& 31)).toInt ≤ 102400000 := by
  obtain ⟨j, hj, rfl⟩ := r_of (n := 100000) (by decide) (by decide) h
  have key : nI j <<< (nI k &&& 31) = nI (j * 2 ^ k) := by
    apply Int32.toBitVec_inj.mp
    have h31 : ((nI k &&& 31 : Int32).toBitVec.smod 32) = BitVec.ofNat 32 k := by
      obtain rfl | rfl | rfl | rfl | rfl | rfl | rfl | rfl | rfl | rfl | rfl : k = 0 ∨ k = 1 ∨ k = 2 ∨ k = 3 ∨ k = 4 ∨ k = 5 ∨ k = 6 ∨ k = 7 ∨ k = 8 ∨ k = 9 ∨ k = 10 := by omega
      all_goals decide
    rw [Int32.toBitVec_shiftLeft, h31]
    apply BitVec.eq_of_toNat_eq
    have t1 : (nI j).toBitVec = BitVec.ofNat 32 j := rfl
    have t2 : (nI (j * 2 ^ k)).toBitVec = BitVec.ofNat 32 (j * 2 ^ k) := rfl
    rw [t1, t2]
    simp only [BitVec.shiftLeft_eq', BitVec.toNat_shiftLeft, BitVec.toNat_ofNat, Nat.shiftLeft_eq]
    rw [Nat.mod_eq_of_lt (show k < 2 ^ 32 by omega), Nat.mod_eq_of_lt (show j < 2 ^ 32 by omega)]
  have hb : j * 2 ^ k ≤ 102400000 := by
    have : 2 ^ k ≤ 2 ^ 10 := Nat.pow_le_pow_right (by decide) hk
    calc j * 2 ^ k ≤ 100000 * 2 ^ 10 := Nat.mul_le_mul hj this
      _ = 102400000 := by decide
  rw [key, nI_toInt (by omega)]; omega
theorem kRa_b {n h : Nat} (h1 : kR1 s n h) {d : Int32} (hd : d ≤ 73000) : 0 ≤ (kRa s h d).toInt ∧ (kRa s h d).toInt ≤ 102400000 := by
  obtain ⟨p1, p2, p3, p4, p5, p6, p7, p8, p9, p10, p11⟩ := h1
  unfold kRa
  by_cases hon : kon s h d = true
  · rw [if_pos hon]
    have hE : ∃ k, k ≤ 10 ∧ (if 0 < s 10 h then imn 10 ((d - s 3 h) / (s 10 h * 365)) else 0) = nI k := by
      by_cases z : 0 < s 10 h
      · rw [if_pos z]
        simp only [kon, decide_eq_true_eq] at hon
        have o1 := hon.1
        have e0 : (0 : Int32).toInt = 0 := by decide
        have e1 : (73000 : Int32).toInt = 73000 := by decide
        have e2 : (100 : Int32).toInt = 100 := by decide
        have e3 : (365 : Int32).toInt = 365 := by decide
        have e10 : (10 : Int32).toInt = 10 := by decide
        have a1 := i_le.mp p3.1
        have a2 := i_le.mp p9.2
        rw [i_le] at o1 hd; rw [i_lt] at z
        have d1 : (d - s 3 h).toInt = d.toInt - (s 3 h).toInt := by rw [Int32.toInt_sub, Int.bmod_eq_of_le (by omega) (by omega)]
        have d2 : (s 10 h * 365).toInt = (s 10 h).toInt * 365 := by rw [Int32.toInt_mul, e3, Int.bmod_eq_of_le (by omega) (by omega)]
        have n0 : 0 ≤ (d.toInt - (s 3 h).toInt) / ((s 10 h).toInt * 365) := Int.ediv_nonneg (by omega) (by omega)
        have n1 : (d.toInt - (s 3 h).toInt) / ((s 10 h).toInt * 365) ≤ d.toInt - (s 3 h).toInt := Int.ediv_le_self _ (by omega)
        have d3 : ((d - s 3 h) / (s 10 h * 365)).toInt = (d.toInt - (s 3 h).toInt) / ((s 10 h).toInt * 365) := by
          rw [Int32.toInt_div, d1, d2, Int.tdiv_eq_ediv_of_nonneg (by omega), Int.bmod_eq_of_le (by omega) (by omega)]
        have r : 0 ≤ imn 10 ((d - s 3 h) / (s 10 h * 365)) ∧ imn 10 ((d - s 3 h) / (s 10 h * 365)) ≤ 10 := by
          unfold imn
          by_cases y : (d - s 3 h) / (s 10 h * 365) < 10
          · rw [if_pos y]
            rw [i_lt, d3, e10] at y
            exact ⟨i_le.mpr (by rw [d3, e0]; exact n0), i_le.mpr (by rw [d3, e10]; omega)⟩
          · rw [if_neg y]; decide
        exact r_of (n := 10) (by decide) (by decide) r
      · rw [if_neg z]; exact ⟨0, by decide, rfl⟩
    obtain ⟨k, hk, hke⟩ := hE
    rw [hke]
    exact i_shl p8 hk
  · rw [if_neg hon]; decide
end

/-! STAGE B: what is owed: the closed form and the sum by days -/
def oT (a F S U b : Int) (j : Nat) : Int := max 0 ((if j = 10 then min b U else min (min b U) (F + j * S + S)) - max a (F + j * S))
def oE (F S b : Int) : Nat := (min 10 ((b - F) / S)).toNat
theorem oT_step {a F S U b : Int} {j : Nat} (hj : j ≤ 10) (hS : 0 < S) (hab : a ≤ b) : oT a F S U (b + 1) j - oT a F S U b j = if b < U ∧ F ≤ b ∧ oE F S b = j then 1 else 0 := by
  have key : (b < U ∧ F ≤ b ∧ oE F S b = j) ↔ (b < U ∧ F + j * S ≤ b ∧ (j = 10 ∨ b < F + j * S + S)) := by
    constructor
    · rintro ⟨h1, h2, h3⟩
      have q0 : 0 ≤ (b - F) / S := Int.ediv_nonneg (by omega) (by omega)
      have hq : (j : Int) ≤ (b - F) / S ∧ (j = 10 ∨ (b - F) / S < j + 1) := by unfold oE at h3; omega
      have e1 := (Int.le_ediv_iff_mul_le hS).mp hq.1
      refine ⟨h1, by omega, ?_⟩
      rcases hq.2 with z | z
      · exact .inl z
      · right
        have := (Int.ediv_lt_iff_lt_mul hS).mp z
        rw [Int.add_mul] at this; omega
    · rintro ⟨h1, h2, h3⟩
      have p0 : 0 ≤ (j : Int) * S := Int.mul_nonneg (by omega) (by omega)
      have q1 : (j : Int) ≤ (b - F) / S := (Int.le_ediv_iff_mul_le hS).mpr (by omega)
      refine ⟨h1, by omega, ?_⟩
      unfold oE
      rcases h3 with z | z
      · subst z; omega
      · have q2 : (b - F) / S < (j : Int) + 1 := (Int.ediv_lt_iff_lt_mul hS).mpr (by rw [Int.add_mul]; omega)
        omega
  rw [show (if b < U ∧ F ≤ b ∧ oE F S b = j then (1 : Int) else 0) = if (b < U ∧ F + j * S ≤ b ∧ (j = 10 ∨ b < F + j * S + S)) then 1 else 0 from by
    by_cases z : b < U ∧ F ≤ b ∧ oE F S b = j
    · rw [if_pos z, if_pos (key.mp z)]
    · rw [if_neg z, if_neg (fun y => z (key.mpr y))]]
  unfold oT
  generalize (j : Int) * S = P
  by_cases z : j = 10
  · rw [if_pos z, if_pos z]
    split <;> omega
  · rw [if_neg z, if_neg z]
    split <;> omega
theorem oT_0 {a F S U : Int} {j : Nat} : oT a F S U a j = 0 := by
  unfold oT
  generalize (j : Int) * S = P
  split <;> omega
def oS (W : Nat → Int) (a F S U b : Int) : Nat → Nat → Int
  | 0, _ => 0
  | m + 1, j => oT a F S U b j * W j + oS W a F S U b m (j + 1)
theorem oS_0 {W : Nat → Int} {a F S U : Int} : ∀ m j, oS W a F S U a m j = 0
  | 0, _ => rfl
  | m + 1, j => by unfold oS; rw [oT_0, oS_0 m (j + 1), Int.zero_mul]; rfl
theorem oS_step {W : Nat → Int} {a F S U b : Int} (hS : 0 < S) (hab : a ≤ b) : ∀ (m j : Nat), j + m ≤ 11 → oS W a F S U (b + 1) m j = oS W a F S U b m j + if b < U ∧ F ≤ b ∧ j ≤ oE F S b ∧ oE F S b < j + m then W (oE F S b) else 0
  | 0, j, h => by
    rw [if_neg (by omega)]; rfl
  | m + 1, j, h => by
    have I := oS_step (W := W) (F := F) (U := U) hS hab m (j + 1) (by omega)
    have T := oT_step (a := a) (F := F) (U := U) (b := b) (j := j) (by omega) hS hab
    unfold oS
    rw [I]
    have e : oT a F S U (b + 1) j = oT a F S U b j + if b < U ∧ F ≤ b ∧ oE F S b = j then 1 else 0 := by omega
    rw [e, Int.add_mul]
    by_cases z : b < U ∧ F ≤ b
    · by_cases y : oE F S b = j
      · rw [if_pos ⟨z.1, z.2, y⟩, if_neg (by omega), if_pos (by omega), y]; omega
      · rw [if_neg (fun w => y w.2.2)]
        by_cases w : j + 1 ≤ oE F S b ∧ oE F S b < j + 1 + m
        · rw [if_pos ⟨z.1, z.2, w⟩, if_pos (by omega)]; omega
        · rw [if_neg (fun v => w v.2.2), if_neg (by omega)]; omega
    · rw [if_neg (fun w => z ⟨w.1, w.2.1⟩), if_neg (fun w => z ⟨w.1, w.2.1⟩), if_neg (fun w => z ⟨w.1, w.2.1⟩)]; omega
/-- the sum by days -/
def kOr (s : Nat → Nat → Int32) (h : Nat) : Nat → Nat → Int64 → Int64
  | 0, _, v => v
  | m + 1, d, v => kOr s h m (d + 1) (v + (kRa s h (nI d)).toInt64)
section
variable {s : Nat → Nat → Int32} {n h : Nat}
/-- a sum whose steps are the days' rates -/
theorem kOr_eq (h1 : kR1 s n h) {C : Int → Int} {a : Nat} (hC : ∀ b : Nat, a ≤ b → b ≤ 73000 → C (b + 1) = C b + (kRa s h (nI b)).toInt) : ∀ (m d : Nat) (v : Int64), a ≤ d → d + m ≤ 73000 → 0 ≤ v.toInt → v.toInt ≤ 102400000 * d → (kOr s h m d v).toInt = v.toInt + C (d + m) - C d
  | 0, d, v, _, _, _, _ => by show v.toInt = _; simp
  | m + 1, d, v, ha, hd, h0, hv => by
    have b := kRa_b h1 (d := nI d) (by rw [show (73000 : Int32) = nI 73000 by decide, ix_le (by omega) (by decide)]; omega)
    have e : (v + (kRa s h (nI d)).toInt64).toInt = v.toInt + (kRa s h (nI d)).toInt := by rw [l_add (by rw [l_of]; omega), l_of]
    have I := kOr_eq h1 hC m (d + 1) (v + (kRa s h (nI d)).toInt64) (by omega) (by omega) (by rw [e]; omega) (by rw [e]; omega)
    unfold kOr
    rw [I, e]
    have := hC d ha (by omega)
    have c1 : ((d + 1 : Nat) : Int) = (d : Int) + 1 := by omega
    have c2 : ((d + 1 : Nat) : Int) + (m : Int) = (d : Int) + ((m + 1 : Nat) : Int) := by omega
    rw [c2, c1, this]; omega
def oW (s : Nat → Nat → Int32) (h j : Nat) : Int := (s 9 h <<< (nI j &&& 31)).toInt
theorem kRa_w (h1 : kR1 s n h) {b : Nat} (hb : b ≤ 73000) (hD : 0 < s 10 h) : (kRa s h (nI b)).toInt = if (b : Int) < (kun s h).toInt ∧ (s 3 h).toInt ≤ b then oW s h (oE (s 3 h).toInt ((s 10 h).toInt * 365) b) else 0 := by
  obtain ⟨p1, p2, p3, p4, p5, p6, p7, p8, p9, p10, p11⟩ := h1
  have eb : (nI b).toInt = b := nI_toInt (by omega)
  have hon : (kon s h (nI b) = true) ↔ ((b : Int) < (kun s h).toInt ∧ (s 3 h).toInt ≤ b) := by
    simp only [kon, decide_eq_true_eq]; rw [i_le, i_lt, eb]; omega
  unfold kRa
  by_cases z : kon s h (nI b) = true
  · rw [if_pos z, if_pos (hon.mp z), if_pos hD]
    obtain ⟨o2, o1⟩ := hon.mp z
    have e0 : (0 : Int32).toInt = 0 := by decide
    have e1 : (73000 : Int32).toInt = 73000 := by decide
    have e2 : (100 : Int32).toInt = 100 := by decide
    have e3 : (365 : Int32).toInt = 365 := by decide
    have e10 : (10 : Int32).toInt = 10 := by decide
    have a1 := i_le.mp p3.1
    have a2 := i_le.mp p9.2
    rw [i_lt] at hD
    have d1 : (nI b - s 3 h).toInt = b - (s 3 h).toInt := by rw [Int32.toInt_sub, eb, Int.bmod_eq_of_le (by omega) (by omega)]
    have d2 : (s 10 h * 365).toInt = (s 10 h).toInt * 365 := by rw [Int32.toInt_mul, e3, Int.bmod_eq_of_le (by omega) (by omega)]
    have n0 : 0 ≤ (b - (s 3 h).toInt) / ((s 10 h).toInt * 365) := Int.ediv_nonneg (by omega) (by omega)
    have n1 : (b - (s 3 h).toInt) / ((s 10 h).toInt * 365) ≤ b - (s 3 h).toInt := Int.ediv_le_self _ (by omega)
    have d3 : ((nI b - s 3 h) / (s 10 h * 365)).toInt = (b - (s 3 h).toInt) / ((s 10 h).toInt * 365) := by
      rw [Int32.toInt_div, d1, d2, Int.tdiv_eq_ediv_of_nonneg (by omega), Int.bmod_eq_of_le (by omega) (by omega)]
    have r : imn 10 ((nI b - s 3 h) / (s 10 h * 365)) = nI (oE (s 3 h).toInt ((s 10 h).toInt * 365) b) := by
      apply i_eq.mpr
      rw [nI_toInt (by unfold oE; omega)]
      unfold imn oE
      by_cases y : (nI b - s 3 h) / (s 10 h * 365) < 10
      · rw [if_pos y, d3]; rw [i_lt, d3, e10] at y; omega
      · rw [if_neg y, e10]; rw [i_lt, d3, e10] at y; omega
    rw [r]; rfl
  · rw [if_neg z, if_neg (fun y => z (hon.mpr y))]; decide
theorem kRa_0 (h1 : kR1 s n h) {b : Nat} (hb : b ≤ 73000) (hD : ¬ 0 < s 10 h) : (kRa s h (nI b)).toInt = if (b : Int) < (kun s h).toInt ∧ (s 3 h).toInt ≤ b then (s 9 h).toInt else 0 := by
  have eb : (nI b).toInt = b := nI_toInt (by omega)
  have hon : (kon s h (nI b) = true) ↔ ((b : Int) < (kun s h).toInt ∧ (s 3 h).toInt ≤ b) := by
    simp only [kon, decide_eq_true_eq]; rw [i_le, i_lt, eb]; omega
  have e : s 9 h <<< ((0 : Int32) &&& 31) = s 9 h := by
    apply Int32.toBitVec_inj.mp
    rw [Int32.toBitVec_shiftLeft, show (((0 : Int32) &&& 31).toBitVec.smod 32) = 0#32 by decide]
    simp
  unfold kRa
  by_cases z : kon s h (nI b) = true
  · rw [if_pos z, if_pos (hon.mp z), if_neg hD, e]
  · rw [if_neg z, if_neg (fun y => z (hon.mpr y))]; decide
/-- the sum by days, where the rent doubles -/
theorem kOr_w (h1 : kR1 s n h) (hD : 0 < s 10 h) {a b : Nat} (hab : a ≤ b) (hb : b ≤ 73000) : (kOr s h (b - a) a 0).toInt = oS (oW s h) a (s 3 h).toInt ((s 10 h).toInt * 365) (kun s h).toInt b 11 0 := by
  have hD' := hD
  rw [i_lt] at hD'
  have e0 : (0 : Int32).toInt = 0 := by decide
  have e00 : (0 : Int64).toInt = 0 := by decide
  have hS : 0 < (s 10 h).toInt * 365 := by omega
  have K := kOr_eq h1 (C := fun b => oS (oW s h) a (s 3 h).toInt ((s 10 h).toInt * 365) (kun s h).toInt b 11 0) (a := a) (fun b ha hb => by
    have S := oS_step (W := oW s h) (a := a) (F := (s 3 h).toInt) (S := (s 10 h).toInt * 365) (U := (kun s h).toInt) (b := b) hS (by omega) 11 0 (by omega)
    rw [kRa_w h1 hb hD]
    show oS _ _ _ _ _ ((b : Int) + 1) 11 0 = _
    rw [S]
    congr 1
    have l11 : oE (s 3 h).toInt ((s 10 h).toInt * 365) b < 0 + 11 := by unfold oE; omega
    by_cases z : (b : Int) < (kun s h).toInt ∧ (s 3 h).toInt ≤ b
    · rw [if_pos ⟨z.1, z.2, Nat.zero_le _, l11⟩, if_pos z]
    · rw [if_neg (fun y => z ⟨y.1, y.2.1⟩), if_neg z]) (b - a) a 0 (Nat.le_refl _) (by omega) (by rw [e00]; omega) (by rw [e00]; omega)
  rw [K, e00]
  show 0 + oS _ _ _ _ _ ((a : Int) + ((b - a : Nat) : Int)) 11 0 - oS _ _ _ _ _ (a : Int) 11 0 = _
  rw [oS_0, show (a : Int) + ((b - a : Nat) : Int) = b by omega]; omega
theorem kOr_0 (h1 : kR1 s n h) (hD : ¬ 0 < s 10 h) {a b : Nat} (hab : a ≤ b) (hb : b ≤ 73000) : (kOr s h (b - a) a 0).toInt = (s 9 h).toInt * max (0 : Int) (min (b : Int) (kun s h).toInt - max (a : Int) (s 3 h).toInt) := by
  have e00 : (0 : Int64).toInt = 0 := by decide
  have K := kOr_eq h1 (C := fun b => (s 9 h).toInt * max (0 : Int) (min b (kun s h).toInt - max (a : Int) (s 3 h).toInt)) (a := a) (fun b ha hb => by
    rw [kRa_0 h1 hb hD]
    show (s 9 h).toInt * max 0 (min ((b : Int) + 1) (kun s h).toInt - max (a : Int) (s 3 h).toInt) = _
    by_cases z : (b : Int) < (kun s h).toInt ∧ (s 3 h).toInt ≤ b
    · rw [if_pos z, show max 0 (min ((b : Int) + 1) (kun s h).toInt - max (a : Int) (s 3 h).toInt) = max 0 (min (b : Int) (kun s h).toInt - max (a : Int) (s 3 h).toInt) + 1 by omega, Int.mul_add, Int.mul_one]
    · rw [if_neg z, show max 0 (min ((b : Int) + 1) (kun s h).toInt - max (a : Int) (s 3 h).toInt) = max 0 (min (b : Int) (kun s h).toInt - max (a : Int) (s 3 h).toInt) by omega, Int.add_zero]) (b - a) a 0 (Nat.le_refl _) (by omega) (by rw [e00]; omega) (by rw [e00]; omega)
  rw [K, e00]
  show 0 + (s 9 h).toInt * max 0 (min ((a : Int) + ((b - a : Nat) : Int)) (kun s h).toInt - max (a : Int) (s 3 h).toInt) - (s 9 h).toInt * max 0 (min (a : Int) (kun s h).toInt - max (a : Int) (s 3 h).toInt) = _
  rw [show (a : Int) + ((b - a : Nat) : Int) = b by omega, show max 0 (min (a : Int) (kun s h).toInt - max (a : Int) (s 3 h).toInt) = 0 by omega, Int.mul_zero]; omega
end

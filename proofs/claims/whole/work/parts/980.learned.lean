/-! STAGE B: learned, doubt -/
theorem kUp {p : Nat} {n a b d e : Int64} (h : kLb p n a b d e) (hp : p ≤ 20) : (0 ≤ n.toInt ∧ n.toInt ≤ 20) ∧ (0 ≤ (kzL (n, a, b, d, e)).toInt ∧ (kzL (n, a, b, d, e)).toInt ≤ 32000000) ∧ (n * kzL (n, a, b, d, e)).toInt = n.toInt * (kzL (n, a, b, d, e)).toInt ∧ (0 < (kzL (n, a, b, d, e)).toInt → 0 < n.toInt ∧ 0 < (n * kzL (n, a, b, d, e)).toInt ∧ (n * kzL (n, a, b, d, e)).toInt ≤ 1000000000) ∧ ∀ yr : Int64, 0 ≤ yr.toInt → yr.toInt ≤ 200 →
    (-1000000000000 ≤ (kzA (n, a, b, d, e) + kzB (n, a, b, d, e) * yr).toInt ∧ (kzA (n, a, b, d, e) + kzB (n, a, b, d, e) * yr).toInt ≤ 1000000000000) ∧
    (-100000000000000 ≤ (b * kzL (n, a, b, d, e) + kzB (n, a, b, d, e) * (n * yr - a)).toInt ∧ (b * kzL (n, a, b, d, e) + kzB (n, a, b, d, e) * (n * yr - a)).toInt ≤ 100000000000000) ∧
    (b * kzL (n, a, b, d, e) + kzB (n, a, b, d, e) * (n * yr - a)).toInt = n.toInt * (kzA (n, a, b, d, e) + kzB (n, a, b, d, e) * yr).toInt ∧
    ∀ pr : Int64, 0 ≤ pr.toInt → pr.toInt ≤ 10000 →
      (-1000000000000 ≤ (pr * kzL (n, a, b, d, e) - kzA (n, a, b, d, e) - kzB (n, a, b, d, e) * yr).toInt ∧ (pr * kzL (n, a, b, d, e) - kzA (n, a, b, d, e) - kzB (n, a, b, d, e) * yr).toInt ≤ 1000000000000) ∧
      (-100000000000000 ≤ (pr * (n * kzL (n, a, b, d, e)) - (b * kzL (n, a, b, d, e) + kzB (n, a, b, d, e) * (n * yr - a))).toInt ∧ (pr * (n * kzL (n, a, b, d, e)) - (b * kzL (n, a, b, d, e) + kzB (n, a, b, d, e) * (n * yr - a))).toInt ≤ 100000000000000) ∧
      (pr * (n * kzL (n, a, b, d, e)) - (b * kzL (n, a, b, d, e) + kzB (n, a, b, d, e) * (n * yr - a))).toInt = n.toInt * (pr * kzL (n, a, b, d, e) - kzA (n, a, b, d, e) - kzB (n, a, b, d, e) * yr).toInt := by
  obtain ⟨⟨n0, n1⟩, ⟨a0, a1⟩, ⟨b0, b1⟩, ⟨d0, d1⟩, ⟨e0, e1⟩, _, hD⟩ := h
  have q1 := l_muS (a := n) (b := d) (A := 20) (C := 800000) (by omega) (by omega) (by decide)
  have q2 := l_muS (a := a) (b := a) (A := 4000) (C := 4000) (by omega) (by omega) (by decide)
  have q3 := l_muS (a := n) (b := e) (A := 20) (C := 40000000) (by omega) (by omega) (by decide)
  have q4 := l_muS (a := a) (b := b) (A := 4000) (C := 200000) (by omega) (by omega) (by decide)
  have q5 := l_muS (a := b) (b := d) (A := 200000) (C := 800000) (by omega) (by omega) (by decide)
  have q6 := l_muS (a := a) (b := e) (A := 4000) (C := 40000000) (by omega) (by omega) (by decide)
  have tL : (kzL (n, a, b, d, e)).toInt = n.toInt * d.toInt - a.toInt * a.toInt := by
    show (n * d - a * a).toInt = _
    rw [l_sub (by rw [q1.1, q2.1]; omega), q1.1, q2.1]
  have tB : (kzB (n, a, b, d, e)).toInt = n.toInt * e.toInt - a.toInt * b.toInt := by
    show (n * e - a * b).toInt = _
    rw [l_sub (by rw [q3.1, q4.1]; omega), q3.1, q4.1]
  have tA : (kzA (n, a, b, d, e)).toInt = b.toInt * d.toInt - a.toInt * e.toInt := by
    show (b * d - a * e).toInt = _
    rw [l_sub (by rw [q5.1, q6.1]; omega), q5.1, q6.1]
  have sa := sq_nn a.toInt
  have bL : 0 ≤ (kzL (n, a, b, d, e)).toInt ∧ (kzL (n, a, b, d, e)).toInt ≤ 32000000 := by rw [tL]; omega
  have q8 := l_muS (a := n) (b := kzL (n, a, b, d, e)) (A := 20) (C := 32000000) (by omega) (by omega) (by decide)
  refine ⟨by omega, bL, q8.1, fun hz => ?_, fun yr y0 y1 => ?_⟩
  · have np : 0 < n.toInt := by
      rcases Int.le_iff_lt_or_eq.mp n0 with z | z
      · exact z
      · exfalso
        rw [tL, ← z, Int.zero_mul] at hz
        omega
    have := Int.mul_pos np hz
    refine ⟨np, ?_, ?_⟩ <;> rw [q8.1] <;> omega
  · have bB : -1600000000 ≤ (kzB (n, a, b, d, e)).toInt ∧ (kzB (n, a, b, d, e)).toInt ≤ 1600000000 := by rw [tB]; omega
    have bA : -320000000000 ≤ (kzA (n, a, b, d, e)).toInt ∧ (kzA (n, a, b, d, e)).toInt ≤ 320000000000 := by rw [tA]; omega
    have q7 := l_muS (a := kzB (n, a, b, d, e)) (b := yr) (A := 1600000000) (C := 200) (by omega) (by omega) (by decide)
    have tU : (kzA (n, a, b, d, e) + kzB (n, a, b, d, e) * yr).toInt = (kzA (n, a, b, d, e)).toInt + (kzB (n, a, b, d, e)).toInt * yr.toInt := by
      rw [l_add (by rw [q7.1]; omega), q7.1]
    have q9 := l_muS (a := b) (b := kzL (n, a, b, d, e)) (A := 200000) (C := 32000000) (by omega) (by omega) (by decide)
    have q10 := l_muS (a := n) (b := yr) (A := 20) (C := 200) (by omega) (by omega) (by decide)
    have tY : (n * yr - a).toInt = n.toInt * yr.toInt - a.toInt := by
      rw [l_sub (by rw [q10.1]; omega), q10.1]
    have q11 := l_muS (a := kzB (n, a, b, d, e)) (b := n * yr - a) (A := 1600000000) (C := 8000) (by omega) (by rw [tY]; omega) (by decide)
    have tC : (b * kzL (n, a, b, d, e) + kzB (n, a, b, d, e) * (n * yr - a)).toInt = b.toInt * (kzL (n, a, b, d, e)).toInt + (kzB (n, a, b, d, e)).toInt * (n * yr - a).toInt := by
      rw [l_add (by rw [q9.1, q11.1]; omega), q9.1, q11.1]
    have id1 : b.toInt * (kzL (n, a, b, d, e)).toInt + (kzB (n, a, b, d, e)).toInt * (n * yr - a).toInt = n.toInt * ((kzA (n, a, b, d, e)).toInt + (kzB (n, a, b, d, e)).toInt * yr.toInt) := by
      rw [tY, tL, tB, tA]; grind
    refine ⟨by rw [tU]; omega, by rw [tC]; omega, by rw [tC, tU]; exact id1, fun pr p0 p1 => ?_⟩
    have q12 := l_muS (a := pr) (b := kzL (n, a, b, d, e)) (A := 10000) (C := 32000000) (by omega) (by omega) (by decide)
    have t1 : (pr * kzL (n, a, b, d, e) - kzA (n, a, b, d, e)).toInt = pr.toInt * (kzL (n, a, b, d, e)).toInt - (kzA (n, a, b, d, e)).toInt := by
      rw [l_sub (by rw [q12.1]; omega), q12.1]
    have t2 : (pr * kzL (n, a, b, d, e) - kzA (n, a, b, d, e) - kzB (n, a, b, d, e) * yr).toInt = pr.toInt * (kzL (n, a, b, d, e)).toInt - (kzA (n, a, b, d, e)).toInt - (kzB (n, a, b, d, e)).toInt * yr.toInt := by
      rw [l_sub (by rw [t1, q7.1]; omega), t1, q7.1]
    have q13 := l_muS (a := pr) (b := n * kzL (n, a, b, d, e)) (A := 10000) (C := 640000000) (by omega) (by rw [q8.1]; omega) (by decide)
    have t3 : (pr * (n * kzL (n, a, b, d, e)) - (b * kzL (n, a, b, d, e) + kzB (n, a, b, d, e) * (n * yr - a))).toInt = pr.toInt * (n * kzL (n, a, b, d, e)).toInt - (b * kzL (n, a, b, d, e) + kzB (n, a, b, d, e) * (n * yr - a)).toInt := by
      rw [l_sub (by rw [q13.1, tC]; omega), q13.1]
    refine ⟨by rw [t2]; omega, by rw [t3, tC]; omega, ?_⟩
    rw [t3, tC, id1, q8.1, t2]
    generalize (kzL (n, a, b, d, e)).toInt = L
    generalize (kzA (n, a, b, d, e)).toInt = A
    generalize (kzB (n, a, b, d, e)).toInt = C
    grind
/-! the greatest of several -/
def kFo (F : Nat → Int64) : Nat → Nat → Int64 → Int64
  | 0, _, a => a
  | m + 1, k, a => kFo F m (k + 1) (lmx a (lab (F k)))
theorem lab_t {u : Int64} (h : -9000000000000000000 < u.toInt ∧ u.toInt < 9000000000000000000) : (lab u).toInt = (u.toInt.natAbs : Int) := by
  rw [lab_N h, lN_t (by omega)]
theorem kFo_n {F' F : Nat → Int64} {n p : Nat} (hn : 0 < n) (h : ∀ k, k < p → (F' k).toInt = (n : Int) * (F k).toInt ∧ (-1000000000000 ≤ (F k).toInt ∧ (F k).toInt ≤ 1000000000000) ∧ (-100000000000000 ≤ (F' k).toInt ∧ (F' k).toInt ≤ 100000000000000)) : ∀ (m k : Nat) (a' a : Int64), k + m ≤ p → a'.toInt = (n : Int) * a.toInt → 0 ≤ a.toInt → a.toInt ≤ 1000000000000 → (kFo F' m k a').toInt = (n : Int) * (kFo F m k a).toInt ∧ 0 ≤ (kFo F m k a).toInt ∧ (kFo F m k a).toInt ≤ 1000000000000
  | 0, _, _, _, _, e, h0, h1 => ⟨e, h0, h1⟩
  | m + 1, k, a', a, hk, e, h0, h1 => by
    obtain ⟨e1, b1, b2⟩ := h k (by omega)
    have t1 := lab_t (u := F k) ⟨by omega, by omega⟩
    have t2 := lab_t (u := F' k) ⟨by omega, by omega⟩
    have t3 : ((F' k).toInt.natAbs : Int) = (n : Int) * ((F k).toInt.natAbs : Int) := by
      rw [e1, Int.natAbs_mul, Int.natAbs_natCast, Int.natCast_mul]
    have hn' : (0 : Int) < (n : Int) := by omega
    unfold kFo
    by_cases z : a < lab (F k)
    · have z2 : a' < lab (F' k) := by
        rw [l_lt, t1] at z
        rw [l_lt, t2, t3, e]
        exact Int.mul_lt_mul_of_pos_left z hn'
      have l1 : lmx a (lab (F k)) = lab (F k) := if_pos z
      have l2 : lmx a' (lab (F' k)) = lab (F' k) := if_pos z2
      rw [l1, l2]
      exact kFo_n hn h m (k + 1) _ _ (by omega) (by rw [t1, t2, t3]) (by rw [t1]; omega) (by rw [t1]; omega)
    · have z2 : ¬ a' < lab (F' k) := by
        rw [l_lt, t1] at z
        rw [l_lt, t2, t3, e]
        have := Int.mul_le_mul_of_nonneg_left (Int.not_lt.mp z) (Int.le_of_lt hn')
        omega
      have l1 : lmx a (lab (F k)) = a := if_neg z
      have l2 : lmx a' (lab (F' k)) = a' := if_neg z2
      rw [l1, l2]
      exact kFo_n hn h m (k + 1) _ _ (by omega) e h0 h1
section
variable {B x p : Nat} {t l u : Nat → Nat} {i c s : Nat → Nat → Int32} {r : Nat → Nat → Nat} {q g w : Nat → Nat → Int64}
theorem cl_far (g6 : kC4 c s p) {post : Int64 → mj_M → Prop} : ∀ (m k : Nat) (mo : Int64), k + m = p → (∃ fe, vb_X10_farthestOff_4 post fe (B + 13) mo (nI k) (kT B t, kL B l, kI B i c s, kW B r u, kI B q g w, x)) = post (kFo (fun k => (s 37 k).toInt64 * (g 13 3 * g 13 6) - (g 13 5 * g 13 6 + g 13 7 * (g 13 3 * (s 36 k).toInt64 - g 13 4))) m k mo) (kT B t, kL B l, kI B i c s, kW B r u, kI B q g w, x)
  | 0, k, mo, hk => by
    have kp : k = p := by omega
    subst kp
    rw [ex_succ rfl]
    simp only [vb_X10_farthestOff_4, mq_tag, mq_len, mq_i, mq_r, mq_l, mq_nx, mq_wi, mq_wr, mq_wl, true_and, and_true, and_false, false_and, and_self, ↓reduceIte, kT_0, kT_1, kT_2, kT_3, kT_4, kT_5, kT_6, kT_7, kT_8, kT_9, kT_10, kT_11, kT_12, kT_13, kT_14, kT_15, kT_16, kT_17, kT_18, kT_19, kT_20, kT_21, kT_22, kT_23, kL_2, kL_3, kL_5, kL_10, kL_11, kL_12, kL_14, kL_15, kL_17, kL_18, kL_19, kL_20, kL_21, kL_22, kL_23, kW_0_0, kW_0_1, kW_0_2, kW_0_3, kW_0_4, kW_0_5, kW_0_6, kW_0_7, kW_1_4, kW_1_5, kW_4_0, kW_4_1, kW_9_0, kW_9_1, kW_9_2, kW_13_0, kW_13_1, kW_16_0, kW_16_1, kW_16_2, kW_16_3, kW_16_4, kW_16_5, kW_1_1, kW_1_2, kW_4_4, kW_8_0, kW_8_1, kW_w1_1, kW_w1_2, kW_w4_4, kW_w8_0, kW_w8_1, kI_0, kI_w0, kI_1, kI_w1, kI_2, kI_w2, kI_3, kI_w3, kI_4, kI_w4, kI_5, kI_w5, kI_6, kI_w6, kI_7, kI_w7, kI_8, kI_w8, kI_9, kI_w9, kI_10, kI_w10, kI_11, kI_w11, kI_12, kI_w12, kI_13, kI_w13, kI_14, kI_w14, kI_15, kI_w15, kI_16, kI_w16, kI_17, kI_w17, kI_18, kI_w18, kI_19, kI_w19, kI_20, kI_w20, kI_21, kI_w21, kI_22, kI_w22, kI_23, kI_w23, g6.2.1, Int32.le_refl, ex_ite, exists_and_left, exists_const, exists_and_right, kFo]
  | m + 1, k, mo, hk => by
    obtain ⟨p20, q1, q2, q3⟩ := id g6
    have k1 : k < 2147483648 := by omega
    obtain ⟨c14, c15, _⟩ := q3 k (by omega)
    have I := fun mo => cl_far g6 (post := post) m (k + 1) mo (by omega)
    rw [ex_succ rfl]
    simp only [vb_X10_farthestOff_4, vc_X10_lower, vc_X10_upperAt, mq_tag, mq_len, mq_i, mq_r, mq_l, mq_nx, mq_wi, mq_wr, mq_wl, true_and, and_true, and_false, false_and, and_self, ↓reduceIte, kT_0, kT_1, kT_2, kT_3, kT_4, kT_5, kT_6, kT_7, kT_8, kT_9, kT_10, kT_11, kT_12, kT_13, kT_14, kT_15, kT_16, kT_17, kT_18, kT_19, kT_20, kT_21, kT_22, kT_23, kL_2, kL_3, kL_5, kL_10, kL_11, kL_12, kL_14, kL_15, kL_17, kL_18, kL_19, kL_20, kL_21, kL_22, kL_23, kW_0_0, kW_0_1, kW_0_2, kW_0_3, kW_0_4, kW_0_5, kW_0_6, kW_0_7, kW_1_4, kW_1_5, kW_4_0, kW_4_1, kW_9_0, kW_9_1, kW_9_2, kW_13_0, kW_13_1, kW_16_0, kW_16_1, kW_16_2, kW_16_3, kW_16_4, kW_16_5, kW_1_1, kW_1_2, kW_4_4, kW_8_0, kW_8_1, kW_w1_1, kW_w1_2, kW_w4_4, kW_w8_0, kW_w8_1, kI_0, kI_w0, kI_1, kI_w1, kI_2, kI_w2, kI_3, kI_w3, kI_4, kI_w4, kI_5, kI_w5, kI_6, kI_w6, kI_7, kI_w7, kI_8, kI_w8, kI_9, kI_w9, kI_10, kI_w10, kI_11, kI_w11, kI_12, kI_w12, kI_13, kI_w13, kI_14, kI_w14, kI_15, kI_w15, kI_16, kI_w16, kI_17, kI_w17, kI_18, kI_w18, kI_19, kI_w19, kI_20, kI_w20, kI_21, kI_w21, kI_22, kI_w22, kI_23, kI_w23, q1, ix_le (show p < 2147483648 by omega) k1, show ¬ p ≤ k by omega, ix_in k1, ix_nat k1, show k < 20 by omega, c14, c15, e_absl, e_maxl, nI_1, ex_ite, exists_and_left, exists_const, exists_and_right, I, kFo]
theorem ml_far (g6 : kC4 c s p) {pt : Int32} {post : Int64 → mj_M → Prop} : ∀ (m k : Nat) (mo : Int64), k + m = p → (∃ fe, vb_X12_doubt_31 post fe (B + 24) pt mo (nI k) (kT B t, kL B l, kI B i c s, kW B r u, kI B q g w, x)) = vc_X12_lowest (kFo (fun k => (s 37 k).toInt64 * w 0 41 - w 0 39 - w 0 40 * (s 36 k).toInt64) m k mo) (w 0 41) pt (kT B t, kL B l, kI B i c s, kW B r u, kI B q g w, x) (fun r3 M4 => post r3 M4)
  | 0, k, mo, hk => by
    have kp : k = p := by omega
    subst kp
    rw [ex_succ rfl]
    simp only [vb_X12_doubt_31, mq_tag, mq_len, mq_i, mq_r, mq_l, mq_nx, mq_wi, mq_wr, mq_wl, true_and, and_true, and_false, false_and, and_self, ↓reduceIte, kT_24, kT_25, kT_26, kT_27, kT_28, kT_29, kT_30, kT_31, kT_32, kT_33, kT_34, kT_35, kT_36, kT_37, kT_38, kT_39, kT_40, kT_41, kT_42, kT_43, kT_44, kT_45, kT_46, kT_47, kT_48, kT_49, kT_50, kT_51, kT_52, kT_53, kT_54, kT_55, kT_56, kT_57, kT_58, kT_59, kT_60, kT_61, kL_25, kL_26, kL_27, kL_28, kL_29, kL_30, kL_31, kL_32, kL_33, kL_34, kL_35, kL_36, kL_37, kL_38, kL_39, kL_40, kL_41, kL_42, kL_43, kL_44, kL_45, kL_46, kL_47, kL_48, kL_49, kL_50, kL_51, kL_52, kL_53, kL_54, kL_55, kL_56, kL_57, kL_58, kL_59, kL_60, kL_61, kW_24_1, kW_24_2, kW_24_3, kW_24_4, kW_24_5, kW_24_6, kW_24_7, kW_24_8, kW_24_9, kW_24_10, kW_24_11, kW_24_12, kW_24_14, kW_24_15, kW_24_16, kW_24_17, kW_24_18, kW_24_19, kW_24_21, kW_24_22, kW_24_23, kW_24_25, kW_24_26, kW_24_27, kW_24_28, kW_24_29, kW_24_31, kW_24_32, kW_24_33, kW_24_34, kW_24_36, kW_24_37, kW_24_44, kW_24_49, kW_24_50, kW_24_51, kW_24_52, kI_24, kI_w24, kI_25, kI_w25, kI_26, kI_w26, kI_27, kI_w27, kI_28, kI_w28, kI_29, kI_w29, kI_30, kI_w30, kI_31, kI_w31, kI_32, kI_w32, kI_33, kI_w33, kI_34, kI_w34, kI_35, kI_w35, kI_36, kI_w36, kI_37, kI_w37, kI_38, kI_w38, kI_39, kI_w39, kI_40, kI_w40, kI_41, kI_w41, kI_42, kI_w42, kI_43, kI_w43, kI_44, kI_w44, kI_45, kI_w45, kI_46, kI_w46, kI_47, kI_w47, kI_48, kI_w48, kI_49, kI_w49, kI_50, kI_w50, kI_51, kI_w51, kI_52, kI_w52, kI_53, kI_w53, kI_54, kI_w54, kI_55, kI_w55, kI_56, kI_w56, kI_57, kI_w57, kI_58, kI_w58, kI_59, kI_w59, kI_60, kI_w60, kI_61, kI_w61, g6.2.2.1, Int32.le_refl, ex_ite, exists_and_left, exists_const, exists_and_right, kFo]
  | m + 1, k, mo, hk => by
    obtain ⟨p20, q1, q2, q3⟩ := id g6
    have k1 : k < 2147483648 := by omega
    have I := fun mo => ml_far g6 (pt := pt) (post := post) m (k + 1) mo (by omega)
    have S : ∀ (U : Int64) (M : mj_M) (post : Int64 → mj_M → Prop), vc_X12_size U M post = post (lab U) M := fun U M post => by
      unfold vc_X12_size lab; simp only [ix_cmp3]; split <;> rfl
    rw [ex_succ rfl]
    simp only [vb_X12_doubt_31, mq_tag, mq_len, mq_i, mq_r, mq_l, mq_nx, mq_wi, mq_wr, mq_wl, true_and, and_true, and_false, false_and, and_self, ↓reduceIte, kT_24, kT_25, kT_26, kT_27, kT_28, kT_29, kT_30, kT_31, kT_32, kT_33, kT_34, kT_35, kT_36, kT_37, kT_38, kT_39, kT_40, kT_41, kT_42, kT_43, kT_44, kT_45, kT_46, kT_47, kT_48, kT_49, kT_50, kT_51, kT_52, kT_53, kT_54, kT_55, kT_56, kT_57, kT_58, kT_59, kT_60, kT_61, kL_25, kL_26, kL_27, kL_28, kL_29, kL_30, kL_31, kL_32, kL_33, kL_34, kL_35, kL_36, kL_37, kL_38, kL_39, kL_40, kL_41, kL_42, kL_43, kL_44, kL_45, kL_46, kL_47, kL_48, kL_49, kL_50, kL_51, kL_52, kL_53, kL_54, kL_55, kL_56, kL_57, kL_58, kL_59, kL_60, kL_61, kW_24_1, kW_24_2, kW_24_3, kW_24_4, kW_24_5, kW_24_6, kW_24_7, kW_24_8, kW_24_9, kW_24_10, kW_24_11, kW_24_12, kW_24_14, kW_24_15, kW_24_16, kW_24_17, kW_24_18, kW_24_19, kW_24_21, kW_24_22, kW_24_23, kW_24_25, kW_24_26, kW_24_27, kW_24_28, kW_24_29, kW_24_31, kW_24_32, kW_24_33, kW_24_34, kW_24_36, kW_24_37, kW_24_44, kW_24_49, kW_24_50, kW_24_51, kW_24_52, kI_24, kI_w24, kI_25, kI_w25, kI_26, kI_w26, kI_27, kI_w27, kI_28, kI_w28, kI_29, kI_w29, kI_30, kI_w30, kI_31, kI_w31, kI_32, kI_w32, kI_33, kI_w33, kI_34, kI_w34, kI_35, kI_w35, kI_36, kI_w36, kI_37, kI_w37, kI_38, kI_w38, kI_39, kI_w39, kI_40, kI_w40, kI_41, kI_w41, kI_42, kI_w42, kI_43, kI_w43, kI_44, kI_w44, kI_45, kI_w45, kI_46, kI_w46, kI_47, kI_w47, kI_48, kI_w48, kI_49, kI_w49, kI_50, kI_w50, kI_51, kI_w51, kI_52, kI_w52, kI_53, kI_w53, kI_54, kI_w54, kI_55, kI_w55, kI_56, kI_w56, kI_57, kI_w57, kI_58, kI_w58, kI_59, kI_w59, kI_60, kI_w60, kI_61, kI_w61, q2, ix_le (show p < 2147483648 by omega) k1, show ¬ p ≤ k by omega, ix_in k1, ix_nat k1, show k < 20 by omega, S, ix_cmp4, nI_1, ex_ite, exists_and_left, exists_const, exists_and_right, I, kFo]
    by_cases z : mo < lab ((s 37 k).toInt64 * w 0 41 - w 0 39 - w 0 40 * (s 36 k).toInt64)
    · rw [if_neg (Int64.not_le.mpr z), show lmx mo (lab ((s 37 k).toInt64 * w 0 41 - w 0 39 - w 0 40 * (s 36 k).toInt64)) = _ from if_pos z]
    · rw [if_pos (Int64.not_lt.mp z), show lmx mo (lab ((s 37 k).toInt64 * w 0 41 - w 0 39 - w 0 40 * (s 36 k).toInt64)) = _ from if_neg z]
end
section
variable {B : Nat} {M : mj_M} {K : Int64 → Int64 → mj_M → Prop}
theorem T_learned (h : kJ B M) (a b d : Int32) (hK : ∀ v M', kJ B M' → K v v M') : vc_X11_learned B a b d M (fun v M1 => mj_tag M1 (B + 24) = 13 ∧ vc_X12_learned (B + 24) a b d M1 (fun v' M2 => K v v' M2)) := by
  obtain ⟨A, AA, AT, AN, N, t, l, u, i, c, s, r, q, g, w, x, rfl, hG⟩ := h
  obtain ⟨g1, g2, g3, g4, g5, g6, g7, g8, g9, g10⟩ := id hG
  obtain ⟨p20, q1, q2, q3⟩ := id g6
  have L1 : (-1000000000000000 + (-1 : Int32).toInt64 : Int64) = -1000000000000001 := by decide +kernel
  have L2 : (-1000000000000000 + (-2 : Int32).toInt64 : Int64) = -1000000000000002 := by decide +kernel
  have L3 : (-1000000000000000 + (-3 : Int32).toInt64 : Int64) = -1000000000000003 := by decide +kernel
  by_cases hv : b = -1 ∨ (0 ≤ b ∧ b < nI (N 5))
  · have v1 : (b < -1) = False := by
      rcases hv with z | ⟨z, _⟩
      · rw [z]; exact eq_false (by decide)
      · exact eq_false (fun y => by
          rw [i_le] at z; rw [i_lt] at y
          have e0 : (0 : Int32).toInt = 0 := by decide
          have e1 : (-1 : Int32).toInt = -1 := by decide
          omega)
    have v2 : (b < nI (N 5)) = True := by
      rcases hv with z | ⟨_, z⟩
      · rw [z]; exact eq_true (by
          rw [i_lt, nI_toInt (by omega)]
          have e1 : (-1 : Int32).toInt = -1 := by decide
          omega)
      · exact eq_true z
    have V : ∀ (g w : Nat → Nat → Int64) (post : Int64 → mj_M → Prop), vc_X12_learned (B + 24) a b d (kT B t, kL B l, kI B i c s, kW B r u, kI B q g w, x) post = vb_X12_learned_25 post (B + 24) a b d (kT B t, kL B l, kI B i c s, kW B r u, kI B q g w, x) := fun g w post => by
      rcases Classical.propComplete (b = -1) with z | z
      · simp only [vc_X12_learned, z, ↓reduceIte]
      · have z2 : 0 ≤ b ∧ b < nI (N 5) := by
          rcases hv with y | y
          · exact (of_eq_false z y).elim
          · exact y
        simp only [vc_X12_learned, mq_tag, mq_len, mq_i, mq_r, mq_l, mq_nx, mq_wi, mq_wr, mq_wl, true_and, and_true, and_false, false_and, and_self, ↓reduceIte, kT_24, kT_25, kT_26, kT_27, kT_28, kT_29, kT_30, kT_31, kT_32, kT_33, kT_34, kT_35, kT_36, kT_37, kT_38, kT_39, kT_40, kT_41, kT_42, kT_43, kT_44, kT_45, kT_46, kT_47, kT_48, kT_49, kT_50, kT_51, kT_52, kT_53, kT_54, kT_55, kT_56, kT_57, kT_58, kT_59, kT_60, kT_61, kL_25, kL_26, kL_27, kL_28, kL_29, kL_30, kL_31, kL_32, kL_33, kL_34, kL_35, kL_36, kL_37, kL_38, kL_39, kL_40, kL_41, kL_42, kL_43, kL_44, kL_45, kL_46, kL_47, kL_48, kL_49, kL_50, kL_51, kL_52, kL_53, kL_54, kL_55, kL_56, kL_57, kL_58, kL_59, kL_60, kL_61, kW_24_1, kW_24_2, kW_24_3, kW_24_4, kW_24_5, kW_24_6, kW_24_7, kW_24_8, kW_24_9, kW_24_10, kW_24_11, kW_24_12, kW_24_14, kW_24_15, kW_24_16, kW_24_17, kW_24_18, kW_24_19, kW_24_21, kW_24_22, kW_24_23, kW_24_25, kW_24_26, kW_24_27, kW_24_28, kW_24_29, kW_24_31, kW_24_32, kW_24_33, kW_24_34, kW_24_36, kW_24_37, kW_24_44, kW_24_49, kW_24_50, kW_24_51, kW_24_52, kI_24, kI_w24, kI_25, kI_w25, kI_26, kI_w26, kI_27, kI_w27, kI_28, kI_w28, kI_29, kI_w29, kI_30, kI_w30, kI_31, kI_w31, kI_32, kI_w32, kI_33, kI_w33, kI_34, kI_w34, kI_35, kI_w35, kI_36, kI_w36, kI_37, kI_w37, kI_38, kI_w38, kI_39, kI_w39, kI_40, kI_w40, kI_41, kI_w41, kI_42, kI_w42, kI_43, kI_w43, kI_44, kI_w44, kI_45, kI_w45, kI_46, kI_w46, kI_47, kI_w47, kI_48, kI_w48, kI_49, kI_w49, kI_50, kI_w50, kI_51, kI_w51, kI_52, kI_w52, kI_53, kI_w53, kI_54, kI_w54, kI_55, kI_w55, kI_56, kI_w56, kI_57, kI_w57, kI_58, kI_w58, kI_59, kI_w59, kI_60, kI_w60, kI_61, kI_w61, z, q2, m_in0n, i_pred (v := b) (show N 5 < 2147483648 by omega), z2, and_self, decide_true]
    by_cases hy : 0 ≤ a ∧ a ≤ 200
    · by_cases hd : 0 ≤ d ∧ d ≤ 1
      · have CC : ∀ post : Int64 → mj_M → Prop, vc_X11_learned B a b d (kT B t, kL B l, kI B i c s, kW B r u, kI B q g w, x) post = vb_X11_learned_43 post B a b d (kT B t, kL B l, kI B i c s, kW B r u, kI B q g w, x) := fun post => by
          rcases i_01 hd with rfl | rfl <;> simp only [vc_X11_learned, mq_tag, mq_len, mq_i, mq_r, mq_l, mq_nx, mq_wi, mq_wr, mq_wl, true_and, and_true, and_false, false_and, and_self, ↓reduceIte, kT_0, kT_1, kT_2, kT_3, kT_4, kT_5, kT_6, kT_7, kT_8, kT_9, kT_10, kT_11, kT_12, kT_13, kT_14, kT_15, kT_16, kT_17, kT_18, kT_19, kT_20, kT_21, kT_22, kT_23, kL_2, kL_3, kL_5, kL_10, kL_11, kL_12, kL_14, kL_15, kL_17, kL_18, kL_19, kL_20, kL_21, kL_22, kL_23, kW_0_0, kW_0_1, kW_0_2, kW_0_3, kW_0_4, kW_0_5, kW_0_6, kW_0_7, kW_1_4, kW_1_5, kW_4_0, kW_4_1, kW_9_0, kW_9_1, kW_9_2, kW_13_0, kW_13_1, kW_16_0, kW_16_1, kW_16_2, kW_16_3, kW_16_4, kW_16_5, kW_1_1, kW_1_2, kW_4_4, kW_8_0, kW_8_1, kW_w1_1, kW_w1_2, kW_w4_4, kW_w8_0, kW_w8_1, kI_0, kI_w0, kI_1, kI_w1, kI_2, kI_w2, kI_3, kI_w3, kI_4, kI_w4, kI_5, kI_w5, kI_6, kI_w6, kI_7, kI_w7, kI_8, kI_w8, kI_9, kI_w9, kI_10, kI_w10, kI_11, kI_w11, kI_12, kI_w12, kI_13, kI_w13, kI_14, kI_w14, kI_15, kI_w15, kI_16, kI_w16, kI_17, kI_w17, kI_18, kI_w18, kI_19, kI_w19, kI_20, kI_w20, kI_21, kI_w21, kI_22, kI_w22, kI_23, kI_w23, v1, v2, q1, c_isYears, hy, and_self, decide_true, show ¬ (1 : Int32) = 0 by decide]
        rw [CC]
        simp only [vb_X11_learned_43, mq_tag, mq_len, mq_i, mq_r, mq_l, mq_nx, mq_wi, mq_wr, mq_wl, true_and, and_true, and_false, false_and, and_self, ↓reduceIte, kT_0, kT_1, kT_2, kT_3, kT_4, kT_5, kT_6, kT_7, kT_8, kT_9, kT_10, kT_11, kT_12, kT_13, kT_14, kT_15, kT_16, kT_17, kT_18, kT_19, kT_20, kT_21, kT_22, kT_23, kL_2, kL_3, kL_5, kL_10, kL_11, kL_12, kL_14, kL_15, kL_17, kL_18, kL_19, kL_20, kL_21, kL_22, kL_23, kW_0_0, kW_0_1, kW_0_2, kW_0_3, kW_0_4, kW_0_5, kW_0_6, kW_0_7, kW_1_4, kW_1_5, kW_4_0, kW_4_1, kW_9_0, kW_9_1, kW_9_2, kW_13_0, kW_13_1, kW_16_0, kW_16_1, kW_16_2, kW_16_3, kW_16_4, kW_16_5, kW_1_1, kW_1_2, kW_4_4, kW_8_0, kW_8_1, kW_w1_1, kW_w1_2, kW_w4_4, kW_w8_0, kW_w8_1, kI_0, kI_w0, kI_1, kI_w1, kI_2, kI_w2, kI_3, kI_w3, kI_4, kI_w4, kI_5, kI_w5, kI_6, kI_w6, kI_7, kI_w7, kI_8, kI_w8, kI_9, kI_w9, kI_10, kI_w10, kI_11, kI_w11, kI_12, kI_w12, kI_13, kI_w13, kI_14, kI_w14, kI_15, kI_w15, kI_16, kI_w16, kI_17, kI_w17, kI_18, kI_w18, kI_19, kI_w19, kI_20, kI_w20, kI_21, kI_w21, kI_22, kI_w22, kI_23, kI_w23]
        refine c_learn g6 ?_
        intro g' h3 h4 h5 h6 h7
        have ML := fun post => m_line (B := B) (t := t) (l := l) (u := u) (i := i) (c := c) (r := r) (q := q) (g := g') (w := w) (x := x) g6 (wo := b) (post := post)
        have KB := kLn_b g6 (wo := b) (N 5) 0 0 0 0 0 0 (by omega) kLb_0
        generalize kLn s b (N 5) 0 0 0 0 0 0 = v at h3 h4 h5 h6 h7 ML KB ⊢
        obtain ⟨n1, n2, n3, n4, n5⟩ := v
        dsimp only at h3 h4 h5 KB
        obtain ⟨u1, u2, u3, u4, u5⟩ := kUp KB p20
        have e0 : (0 : Int64).toInt = 0 := by decide
        by_cases z : kzL (n1, n2, n3, n4, n5) = 0
        · have nz : ¬ 0 < kzL (n1, n2, n3, n4, n5) := by rw [z]; decide
          simp only [z, not_true_eq_false, decide_false, Bool.false_eq_true, ↓reduceIte, vc_X11_lost, L3]
          refine ⟨kT_24, ?_⟩
          simp only [V, vb_X12_learned_25, mq_tag, mq_len, mq_i, mq_r, mq_l, mq_nx, mq_wi, mq_wr, mq_wl, true_and, and_true, and_false, false_and, and_self, ↓reduceIte, kT_24, kT_25, kT_26, kT_27, kT_28, kT_29, kT_30, kT_31, kT_32, kT_33, kT_34, kT_35, kT_36, kT_37, kT_38, kT_39, kT_40, kT_41, kT_42, kT_43, kT_44, kT_45, kT_46, kT_47, kT_48, kT_49, kT_50, kT_51, kT_52, kT_53, kT_54, kT_55, kT_56, kT_57, kT_58, kT_59, kT_60, kT_61, kL_25, kL_26, kL_27, kL_28, kL_29, kL_30, kL_31, kL_32, kL_33, kL_34, kL_35, kL_36, kL_37, kL_38, kL_39, kL_40, kL_41, kL_42, kL_43, kL_44, kL_45, kL_46, kL_47, kL_48, kL_49, kL_50, kL_51, kL_52, kL_53, kL_54, kL_55, kL_56, kL_57, kL_58, kL_59, kL_60, kL_61, kW_24_1, kW_24_2, kW_24_3, kW_24_4, kW_24_5, kW_24_6, kW_24_7, kW_24_8, kW_24_9, kW_24_10, kW_24_11, kW_24_12, kW_24_14, kW_24_15, kW_24_16, kW_24_17, kW_24_18, kW_24_19, kW_24_21, kW_24_22, kW_24_23, kW_24_25, kW_24_26, kW_24_27, kW_24_28, kW_24_29, kW_24_31, kW_24_32, kW_24_33, kW_24_34, kW_24_36, kW_24_37, kW_24_44, kW_24_49, kW_24_50, kW_24_51, kW_24_52, kI_24, kI_w24, kI_25, kI_w25, kI_26, kI_w26, kI_27, kI_w27, kI_28, kI_w28, kI_29, kI_w29, kI_30, kI_w30, kI_31, kI_w31, kI_32, kI_w32, kI_33, kI_w33, kI_34, kI_w34, kI_35, kI_w35, kI_36, kI_w36, kI_37, kI_w37, kI_38, kI_w38, kI_39, kI_w39, kI_40, kI_w40, kI_41, kI_w41, kI_42, kI_w42, kI_43, kI_w43, kI_44, kI_w44, kI_45, kI_w45, kI_46, kI_w46, kI_47, kI_w47, kI_48, kI_w48, kI_49, kI_w49, kI_50, kI_w50, kI_51, kI_w51, kI_52, kI_w52, kI_53, kI_w53, kI_54, kI_w54, kI_55, kI_w55, kI_56, kI_w56, kI_57, kI_w57, kI_58, kI_w58, kI_59, kI_w59, kI_60, kI_w60, kI_61, kI_w61, m_in0200, hy, m_in01, hd, and_self, decide_true, ML, nz, decide_false, Bool.false_eq_true]
          exact hK _ _ (kJ.mk hG)
        · have zp : 0 < (kzL (n1, n2, n3, n4, n5)).toInt := by rw [l_eq, e0] at z; omega
          have zl : 0 < kzL (n1, n2, n3, n4, n5) := by rw [l_lt, e0]; exact zp
          obtain ⟨o1, o2, o3⟩ := u4 zp
          have y0 : 0 ≤ a.toInt64.toInt ∧ a.toInt64.toInt ≤ 200 := by
            have y1 := i_le.mp hy.1
            have y2 := i_le.mp hy.2
            have l0 : (0 : Int32).toInt = 0 := by decide
            have l2 : (200 : Int32).toInt = 200 := by decide
            rw [l_of]; omega
          obtain ⟨w1, w2, w3, _⟩ := u5 a.toInt64 y0.1 y0.2
          simp only [z, not_false_eq_true, decide_true, ↓reduceIte, vc_X10_upperAt, mq_tag, mq_len, mq_i, mq_r, mq_l, mq_nx, mq_wi, mq_wr, mq_wl, true_and, and_true, and_false, false_and, and_self, ↓reduceIte, kT_0, kT_1, kT_2, kT_3, kT_4, kT_5, kT_6, kT_7, kT_8, kT_9, kT_10, kT_11, kT_12, kT_13, kT_14, kT_15, kT_16, kT_17, kT_18, kT_19, kT_20, kT_21, kT_22, kT_23, kL_2, kL_3, kL_5, kL_10, kL_11, kL_12, kL_14, kL_15, kL_17, kL_18, kL_19, kL_20, kL_21, kL_22, kL_23, kW_0_0, kW_0_1, kW_0_2, kW_0_3, kW_0_4, kW_0_5, kW_0_6, kW_0_7, kW_1_4, kW_1_5, kW_4_0, kW_4_1, kW_9_0, kW_9_1, kW_9_2, kW_13_0, kW_13_1, kW_16_0, kW_16_1, kW_16_2, kW_16_3, kW_16_4, kW_16_5, kW_1_1, kW_1_2, kW_4_4, kW_8_0, kW_8_1, kW_w1_1, kW_w1_2, kW_w4_4, kW_w8_0, kW_w8_1, kI_0, kI_w0, kI_1, kI_w1, kI_2, kI_w2, kI_3, kI_w3, kI_4, kI_w4, kI_5, kI_w5, kI_6, kI_w6, kI_7, kI_w7, kI_8, kI_w8, kI_9, kI_w9, kI_10, kI_w10, kI_11, kI_w11, kI_12, kI_w12, kI_13, kI_w13, kI_14, kI_w14, kI_15, kI_w15, kI_16, kI_w16, kI_17, kI_w17, kI_18, kI_w18, kI_19, kI_w19, kI_20, kI_w20, kI_21, kI_w21, kI_22, kI_w22, kI_23, kI_w23, h3, h4, h5, h6, h7]
          rw [c_low w2 (by rw [h3, h6]; exact ⟨o2, o3⟩)]
          refine ⟨kT_24, ?_⟩
          simp only [V, vb_X12_learned_25, mq_tag, mq_len, mq_i, mq_r, mq_l, mq_nx, mq_wi, mq_wr, mq_wl, true_and, and_true, and_false, false_and, and_self, ↓reduceIte, kT_24, kT_25, kT_26, kT_27, kT_28, kT_29, kT_30, kT_31, kT_32, kT_33, kT_34, kT_35, kT_36, kT_37, kT_38, kT_39, kT_40, kT_41, kT_42, kT_43, kT_44, kT_45, kT_46, kT_47, kT_48, kT_49, kT_50, kT_51, kT_52, kT_53, kT_54, kT_55, kT_56, kT_57, kT_58, kT_59, kT_60, kT_61, kL_25, kL_26, kL_27, kL_28, kL_29, kL_30, kL_31, kL_32, kL_33, kL_34, kL_35, kL_36, kL_37, kL_38, kL_39, kL_40, kL_41, kL_42, kL_43, kL_44, kL_45, kL_46, kL_47, kL_48, kL_49, kL_50, kL_51, kL_52, kL_53, kL_54, kL_55, kL_56, kL_57, kL_58, kL_59, kL_60, kL_61, kW_24_1, kW_24_2, kW_24_3, kW_24_4, kW_24_5, kW_24_6, kW_24_7, kW_24_8, kW_24_9, kW_24_10, kW_24_11, kW_24_12, kW_24_14, kW_24_15, kW_24_16, kW_24_17, kW_24_18, kW_24_19, kW_24_21, kW_24_22, kW_24_23, kW_24_25, kW_24_26, kW_24_27, kW_24_28, kW_24_29, kW_24_31, kW_24_32, kW_24_33, kW_24_34, kW_24_36, kW_24_37, kW_24_44, kW_24_49, kW_24_50, kW_24_51, kW_24_52, kI_24, kI_w24, kI_25, kI_w25, kI_26, kI_w26, kI_27, kI_w27, kI_28, kI_w28, kI_29, kI_w29, kI_30, kI_w30, kI_31, kI_w31, kI_32, kI_w32, kI_33, kI_w33, kI_34, kI_w34, kI_35, kI_w35, kI_36, kI_w36, kI_37, kI_w37, kI_38, kI_w38, kI_39, kI_w39, kI_40, kI_w40, kI_41, kI_w41, kI_42, kI_w42, kI_43, kI_w43, kI_44, kI_w44, kI_45, kI_w45, kI_46, kI_w46, kI_47, kI_w47, kI_48, kI_w48, kI_49, kI_w49, kI_50, kI_w50, kI_51, kI_w51, kI_52, kI_w52, kI_53, kI_w53, kI_54, kI_w54, kI_55, kI_w55, kI_56, kI_w56, kI_57, kI_w57, kI_58, kI_w58, kI_59, kI_w59, kI_60, kI_w60, kI_61, kI_w61, m_in0200, hy, m_in01, hd, and_self, decide_true, ML, zl, mq_u2k, mq_u2s, ne_eq, Nat.reduceEqDiff, not_false_eq_true]
          rw [m_low (by omega) (by omega), h3, h6]
          rw [low_eq (n := n1.toInt.toNat) (by omega) (by rw [Int.toNat_of_nonneg (by omega)]; exact w3) (by rw [Int.toNat_of_nonneg (by omega)]; exact u3) w2 (by omega) ⟨o2, o3⟩ (by omega) d]
          exact hK _ _ (kJ.mk hG)
      · have d0 : ¬ d = 0 := fun z => hd (by rw [z]; decide)
        have d1 : ¬ d = 1 := fun z => hd (by rw [z]; decide)
        simp only [vc_X11_learned, vb_X11_learned_37, vc_X11_lost, mq_tag, mq_len, mq_i, mq_r, mq_l, mq_nx, mq_wi, mq_wr, mq_wl, true_and, and_true, and_false, false_and, and_self, ↓reduceIte, kT_0, kT_1, kT_2, kT_3, kT_4, kT_5, kT_6, kT_7, kT_8, kT_9, kT_10, kT_11, kT_12, kT_13, kT_14, kT_15, kT_16, kT_17, kT_18, kT_19, kT_20, kT_21, kT_22, kT_23, kL_2, kL_3, kL_5, kL_10, kL_11, kL_12, kL_14, kL_15, kL_17, kL_18, kL_19, kL_20, kL_21, kL_22, kL_23, kW_0_0, kW_0_1, kW_0_2, kW_0_3, kW_0_4, kW_0_5, kW_0_6, kW_0_7, kW_1_4, kW_1_5, kW_4_0, kW_4_1, kW_9_0, kW_9_1, kW_9_2, kW_13_0, kW_13_1, kW_16_0, kW_16_1, kW_16_2, kW_16_3, kW_16_4, kW_16_5, kW_1_1, kW_1_2, kW_4_4, kW_8_0, kW_8_1, kW_w1_1, kW_w1_2, kW_w4_4, kW_w8_0, kW_w8_1, kI_0, kI_w0, kI_1, kI_w1, kI_2, kI_w2, kI_3, kI_w3, kI_4, kI_w4, kI_5, kI_w5, kI_6, kI_w6, kI_7, kI_w7, kI_8, kI_w8, kI_9, kI_w9, kI_10, kI_w10, kI_11, kI_w11, kI_12, kI_w12, kI_13, kI_w13, kI_14, kI_w14, kI_15, kI_w15, kI_16, kI_w16, kI_17, kI_w17, kI_18, kI_w18, kI_19, kI_w19, kI_20, kI_w20, kI_21, kI_w21, kI_22, kI_w22, kI_23, kI_w23, v1, v2, q1, c_isYears, hy, and_self, decide_true, d0, d1, L2]
        refine ⟨kT_24, ?_⟩
        simp only [V, vb_X12_learned_25, mq_tag, mq_len, mq_i, mq_r, mq_l, mq_nx, mq_wi, mq_wr, mq_wl, true_and, and_true, and_false, false_and, and_self, ↓reduceIte, kT_24, kT_25, kT_26, kT_27, kT_28, kT_29, kT_30, kT_31, kT_32, kT_33, kT_34, kT_35, kT_36, kT_37, kT_38, kT_39, kT_40, kT_41, kT_42, kT_43, kT_44, kT_45, kT_46, kT_47, kT_48, kT_49, kT_50, kT_51, kT_52, kT_53, kT_54, kT_55, kT_56, kT_57, kT_58, kT_59, kT_60, kT_61, kL_25, kL_26, kL_27, kL_28, kL_29, kL_30, kL_31, kL_32, kL_33, kL_34, kL_35, kL_36, kL_37, kL_38, kL_39, kL_40, kL_41, kL_42, kL_43, kL_44, kL_45, kL_46, kL_47, kL_48, kL_49, kL_50, kL_51, kL_52, kL_53, kL_54, kL_55, kL_56, kL_57, kL_58, kL_59, kL_60, kL_61, kW_24_1, kW_24_2, kW_24_3, kW_24_4, kW_24_5, kW_24_6, kW_24_7, kW_24_8, kW_24_9, kW_24_10, kW_24_11, kW_24_12, kW_24_14, kW_24_15, kW_24_16, kW_24_17, kW_24_18, kW_24_19, kW_24_21, kW_24_22, kW_24_23, kW_24_25, kW_24_26, kW_24_27, kW_24_28, kW_24_29, kW_24_31, kW_24_32, kW_24_33, kW_24_34, kW_24_36, kW_24_37, kW_24_44, kW_24_49, kW_24_50, kW_24_51, kW_24_52, kI_24, kI_w24, kI_25, kI_w25, kI_26, kI_w26, kI_27, kI_w27, kI_28, kI_w28, kI_29, kI_w29, kI_30, kI_w30, kI_31, kI_w31, kI_32, kI_w32, kI_33, kI_w33, kI_34, kI_w34, kI_35, kI_w35, kI_36, kI_w36, kI_37, kI_w37, kI_38, kI_w38, kI_39, kI_w39, kI_40, kI_w40, kI_41, kI_w41, kI_42, kI_w42, kI_43, kI_w43, kI_44, kI_w44, kI_45, kI_w45, kI_46, kI_w46, kI_47, kI_w47, kI_48, kI_w48, kI_49, kI_w49, kI_50, kI_w50, kI_51, kI_w51, kI_52, kI_w52, kI_53, kI_w53, kI_54, kI_w54, kI_55, kI_w55, kI_56, kI_w56, kI_57, kI_w57, kI_58, kI_w58, kI_59, kI_w59, kI_60, kI_w60, kI_61, kI_w61, m_in0200, hy, m_in01, hd, and_self, decide_true, true_or, or_true, false_or, or_false, not_true_eq_false, not_false_eq_true, true_and, and_true, false_and, and_false, and_self, decide_true, decide_false, ↓reduceIte, Bool.true_and, Bool.false_and, Bool.and_true, Bool.and_false, Bool.not_true, Bool.not_false, Bool.false_eq_true, Bool.true_or, Bool.or_true, Bool.false_or, Bool.or_false, reduceCtorEq, Bool.and_self, Bool.or_self, ne_eq]
        exact hK _ _ (kJ.mk hG)
    · simp only [vc_X11_learned, vb_X11_learned_37, vc_X11_lost, mq_tag, mq_len, mq_i, mq_r, mq_l, mq_nx, mq_wi, mq_wr, mq_wl, true_and, and_true, and_false, false_and, and_self, ↓reduceIte, kT_0, kT_1, kT_2, kT_3, kT_4, kT_5, kT_6, kT_7, kT_8, kT_9, kT_10, kT_11, kT_12, kT_13, kT_14, kT_15, kT_16, kT_17, kT_18, kT_19, kT_20, kT_21, kT_22, kT_23, kL_2, kL_3, kL_5, kL_10, kL_11, kL_12, kL_14, kL_15, kL_17, kL_18, kL_19, kL_20, kL_21, kL_22, kL_23, kW_0_0, kW_0_1, kW_0_2, kW_0_3, kW_0_4, kW_0_5, kW_0_6, kW_0_7, kW_1_4, kW_1_5, kW_4_0, kW_4_1, kW_9_0, kW_9_1, kW_9_2, kW_13_0, kW_13_1, kW_16_0, kW_16_1, kW_16_2, kW_16_3, kW_16_4, kW_16_5, kW_1_1, kW_1_2, kW_4_4, kW_8_0, kW_8_1, kW_w1_1, kW_w1_2, kW_w4_4, kW_w8_0, kW_w8_1, kI_0, kI_w0, kI_1, kI_w1, kI_2, kI_w2, kI_3, kI_w3, kI_4, kI_w4, kI_5, kI_w5, kI_6, kI_w6, kI_7, kI_w7, kI_8, kI_w8, kI_9, kI_w9, kI_10, kI_w10, kI_11, kI_w11, kI_12, kI_w12, kI_13, kI_w13, kI_14, kI_w14, kI_15, kI_w15, kI_16, kI_w16, kI_17, kI_w17, kI_18, kI_w18, kI_19, kI_w19, kI_20, kI_w20, kI_21, kI_w21, kI_22, kI_w22, kI_23, kI_w23, v1, v2, q1, c_isYears, hy, decide_false, Bool.false_eq_true, L2]
      refine ⟨kT_24, ?_⟩
      simp only [V, vb_X12_learned_25, mq_tag, mq_len, mq_i, mq_r, mq_l, mq_nx, mq_wi, mq_wr, mq_wl, true_and, and_true, and_false, false_and, and_self, ↓reduceIte, kT_24, kT_25, kT_26, kT_27, kT_28, kT_29, kT_30, kT_31, kT_32, kT_33, kT_34, kT_35, kT_36, kT_37, kT_38, kT_39, kT_40, kT_41, kT_42, kT_43, kT_44, kT_45, kT_46, kT_47, kT_48, kT_49, kT_50, kT_51, kT_52, kT_53, kT_54, kT_55, kT_56, kT_57, kT_58, kT_59, kT_60, kT_61, kL_25, kL_26, kL_27, kL_28, kL_29, kL_30, kL_31, kL_32, kL_33, kL_34, kL_35, kL_36, kL_37, kL_38, kL_39, kL_40, kL_41, kL_42, kL_43, kL_44, kL_45, kL_46, kL_47, kL_48, kL_49, kL_50, kL_51, kL_52, kL_53, kL_54, kL_55, kL_56, kL_57, kL_58, kL_59, kL_60, kL_61, kW_24_1, kW_24_2, kW_24_3, kW_24_4, kW_24_5, kW_24_6, kW_24_7, kW_24_8, kW_24_9, kW_24_10, kW_24_11, kW_24_12, kW_24_14, kW_24_15, kW_24_16, kW_24_17, kW_24_18, kW_24_19, kW_24_21, kW_24_22, kW_24_23, kW_24_25, kW_24_26, kW_24_27, kW_24_28, kW_24_29, kW_24_31, kW_24_32, kW_24_33, kW_24_34, kW_24_36, kW_24_37, kW_24_44, kW_24_49, kW_24_50, kW_24_51, kW_24_52, kI_24, kI_w24, kI_25, kI_w25, kI_26, kI_w26, kI_27, kI_w27, kI_28, kI_w28, kI_29, kI_w29, kI_30, kI_w30, kI_31, kI_w31, kI_32, kI_w32, kI_33, kI_w33, kI_34, kI_w34, kI_35, kI_w35, kI_36, kI_w36, kI_37, kI_w37, kI_38, kI_w38, kI_39, kI_w39, kI_40, kI_w40, kI_41, kI_w41, kI_42, kI_w42, kI_43, kI_w43, kI_44, kI_w44, kI_45, kI_w45, kI_46, kI_w46, kI_47, kI_w47, kI_48, kI_w48, kI_49, kI_w49, kI_50, kI_w50, kI_51, kI_w51, kI_52, kI_w52, kI_53, kI_w53, kI_54, kI_w54, kI_55, kI_w55, kI_56, kI_w56, kI_57, kI_w57, kI_58, kI_w58, kI_59, kI_w59, kI_60, kI_w60, kI_61, kI_w61, m_in0200, hy, true_or, or_true, false_or, or_false, not_true_eq_false, not_false_eq_true, true_and, and_true, false_and, and_false, and_self, decide_true, decide_false, ↓reduceIte, Bool.true_and, Bool.false_and, Bool.and_true, Bool.and_false, Bool.not_true, Bool.not_false, Bool.false_eq_true, Bool.true_or, Bool.or_true, Bool.false_or, Bool.or_false, reduceCtorEq, Bool.and_self, Bool.or_self, ne_eq]
      exact hK _ _ (kJ.mk hG)
  · have n1 : ¬ b = -1 := fun z => hv (.inl z)
    have n2 : ¬ (0 ≤ b ∧ b < nI (N 5)) := fun z => hv (.inr z)
    have C : ∀ post : Int64 → mj_M → Prop, vc_X11_learned B a b d (kT B t, kL B l, kI B i c s, kW B r u, kI B q g w, x) post = post (-1000000000000001) (kT B t, kL B l, kI B i c s, kW B r u, kI B q g w, x) := fun post => by
      rcases Classical.propComplete (b < -1) with z | z
      · simp only [vc_X11_learned, vb_X11_learned_16, vc_X11_lost, z, ↓reduceIte, L1]
      · have z2 : ¬ b < nI (N 5) := fun y => n2 ⟨by
          have z' := of_eq_false z
          rw [i_lt] at z'; rw [i_eq] at n1; rw [i_le]
          have e0 : (0 : Int32).toInt = 0 := by decide
          have e1 : (-1 : Int32).toInt = -1 := by decide
          omega, y⟩
        simp only [vc_X11_learned, vb_X11_learned_16, vc_X11_lost, mq_tag, mq_len, mq_i, mq_r, mq_l, mq_nx, mq_wi, mq_wr, mq_wl, true_and, and_true, and_false, false_and, and_self, ↓reduceIte, kT_0, kT_1, kT_2, kT_3, kT_4, kT_5, kT_6, kT_7, kT_8, kT_9, kT_10, kT_11, kT_12, kT_13, kT_14, kT_15, kT_16, kT_17, kT_18, kT_19, kT_20, kT_21, kT_22, kT_23, kL_2, kL_3, kL_5, kL_10, kL_11, kL_12, kL_14, kL_15, kL_17, kL_18, kL_19, kL_20, kL_21, kL_22, kL_23, kW_0_0, kW_0_1, kW_0_2, kW_0_3, kW_0_4, kW_0_5, kW_0_6, kW_0_7, kW_1_4, kW_1_5, kW_4_0, kW_4_1, kW_9_0, kW_9_1, kW_9_2, kW_13_0, kW_13_1, kW_16_0, kW_16_1, kW_16_2, kW_16_3, kW_16_4, kW_16_5, kW_1_1, kW_1_2, kW_4_4, kW_8_0, kW_8_1, kW_w1_1, kW_w1_2, kW_w4_4, kW_w8_0, kW_w8_1, kI_0, kI_w0, kI_1, kI_w1, kI_2, kI_w2, kI_3, kI_w3, kI_4, kI_w4, kI_5, kI_w5, kI_6, kI_w6, kI_7, kI_w7, kI_8, kI_w8, kI_9, kI_w9, kI_10, kI_w10, kI_11, kI_w11, kI_12, kI_w12, kI_13, kI_w13, kI_14, kI_w14, kI_15, kI_w15, kI_16, kI_w16, kI_17, kI_w17, kI_18, kI_w18, kI_19, kI_w19, kI_20, kI_w20, kI_21, kI_w21, kI_22, kI_w22, kI_23, kI_w23, z, q1, z2, L1]
    rw [C]
    refine ⟨kT_24, ?_⟩
    simp only [vc_X12_learned, mq_tag, mq_len, mq_i, mq_r, mq_l, mq_nx, mq_wi, mq_wr, mq_wl, true_and, and_true, and_false, false_and, and_self, ↓reduceIte, kT_24, kT_25, kT_26, kT_27, kT_28, kT_29, kT_30, kT_31, kT_32, kT_33, kT_34, kT_35, kT_36, kT_37, kT_38, kT_39, kT_40, kT_41, kT_42, kT_43, kT_44, kT_45, kT_46, kT_47, kT_48, kT_49, kT_50, kT_51, kT_52, kT_53, kT_54, kT_55, kT_56, kT_57, kT_58, kT_59, kT_60, kT_61, kL_25, kL_26, kL_27, kL_28, kL_29, kL_30, kL_31, kL_32, kL_33, kL_34, kL_35, kL_36, kL_37, kL_38, kL_39, kL_40, kL_41, kL_42, kL_43, kL_44, kL_45, kL_46, kL_47, kL_48, kL_49, kL_50, kL_51, kL_52, kL_53, kL_54, kL_55, kL_56, kL_57, kL_58, kL_59, kL_60, kL_61, kW_24_1, kW_24_2, kW_24_3, kW_24_4, kW_24_5, kW_24_6, kW_24_7, kW_24_8, kW_24_9, kW_24_10, kW_24_11, kW_24_12, kW_24_14, kW_24_15, kW_24_16, kW_24_17, kW_24_18, kW_24_19, kW_24_21, kW_24_22, kW_24_23, kW_24_25, kW_24_26, kW_24_27, kW_24_28, kW_24_29, kW_24_31, kW_24_32, kW_24_33, kW_24_34, kW_24_36, kW_24_37, kW_24_44, kW_24_49, kW_24_50, kW_24_51, kW_24_52, kI_24, kI_w24, kI_25, kI_w25, kI_26, kI_w26, kI_27, kI_w27, kI_28, kI_w28, kI_29, kI_w29, kI_30, kI_w30, kI_31, kI_w31, kI_32, kI_w32, kI_33, kI_w33, kI_34, kI_w34, kI_35, kI_w35, kI_36, kI_w36, kI_37, kI_w37, kI_38, kI_w38, kI_39, kI_w39, kI_40, kI_w40, kI_41, kI_w41, kI_42, kI_w42, kI_43, kI_w43, kI_44, kI_w44, kI_45, kI_w45, kI_46, kI_w46, kI_47, kI_w47, kI_48, kI_w48, kI_49, kI_w49, kI_50, kI_w50, kI_51, kI_w51, kI_52, kI_w52, kI_53, kI_w53, kI_54, kI_w54, kI_55, kI_w55, kI_56, kI_w56, kI_57, kI_w57, kI_58, kI_w58, kI_59, kI_w59, kI_60, kI_w60, kI_61, kI_w61, n1, q2, m_in0n, i_pred (v := b) (show N 5 < 2147483648 by omega), n2, decide_false, Bool.false_eq_true]
    exact hK _ _ (kJ.mk hG)
theorem T_doubt (h : kJ B M) (d : Int32) (hK : ∀ v M', kJ B M' → K v v M') : vc_X11_doubt B d M (fun v M1 => mj_tag M1 (B + 24) = 13 ∧ vc_X12_doubt (B + 24) d M1 (fun v' M2 => K v v' M2)) := by
  obtain ⟨A, AA, AT, AN, N, t, l, u, i, c, s, r, q, g, w, x, rfl, hG⟩ := h
  obtain ⟨g1, g2, g3, g4, g5, g6, g7, g8, g9, g10⟩ := id hG
  obtain ⟨p20, q1, q2, q3⟩ := id g6
  have L2 : (-1000000000000000 + (-2 : Int32).toInt64 : Int64) = -1000000000000002 := by decide +kernel
  have L3 : (-1000000000000000 + (-3 : Int32).toInt64 : Int64) = -1000000000000003 := by decide +kernel
  by_cases hd : 0 ≤ d ∧ d ≤ 1
  · have CC : ∀ post : Int64 → mj_M → Prop, vc_X11_doubt B d (kT B t, kL B l, kI B i c s, kW B r u, kI B q g w, x) post = vb_X11_doubt_15 post B d (kT B t, kL B l, kI B i c s, kW B r u, kI B q g w, x) := fun post => by
      rcases i_01 hd with rfl | rfl <;> simp only [vc_X11_doubt, ↓reduceIte, show ¬ (1 : Int32) = 0 by decide]
    rw [CC]
    simp only [vb_X11_doubt_15, mq_tag, mq_len, mq_i, mq_r, mq_l, mq_nx, mq_wi, mq_wr, mq_wl, true_and, and_true, and_false, false_and, and_self, ↓reduceIte, kT_0, kT_1, kT_2, kT_3, kT_4, kT_5, kT_6, kT_7, kT_8, kT_9, kT_10, kT_11, kT_12, kT_13, kT_14, kT_15, kT_16, kT_17, kT_18, kT_19, kT_20, kT_21, kT_22, kT_23, kL_2, kL_3, kL_5, kL_10, kL_11, kL_12, kL_14, kL_15, kL_17, kL_18, kL_19, kL_20, kL_21, kL_22, kL_23, kW_0_0, kW_0_1, kW_0_2, kW_0_3, kW_0_4, kW_0_5, kW_0_6, kW_0_7, kW_1_4, kW_1_5, kW_4_0, kW_4_1, kW_9_0, kW_9_1, kW_9_2, kW_13_0, kW_13_1, kW_16_0, kW_16_1, kW_16_2, kW_16_3, kW_16_4, kW_16_5, kW_1_1, kW_1_2, kW_4_4, kW_8_0, kW_8_1, kW_w1_1, kW_w1_2, kW_w4_4, kW_w8_0, kW_w8_1, kI_0, kI_w0, kI_1, kI_w1, kI_2, kI_w2, kI_3, kI_w3, kI_4, kI_w4, kI_5, kI_w5, kI_6, kI_w6, kI_7, kI_w7, kI_8, kI_w8, kI_9, kI_w9, kI_10, kI_w10, kI_11, kI_w11, kI_12, kI_w12, kI_13, kI_w13, kI_14, kI_w14, kI_15, kI_w15, kI_16, kI_w16, kI_17, kI_w17, kI_18, kI_w18, kI_19, kI_w19, kI_20, kI_w20, kI_21, kI_w21, kI_22, kI_w22, kI_23, kI_w23]
    refine c_learn g6 ?_
    intro g' h3 h4 h5 h6 h7
    have ML := fun post => m_line (B := B) (t := t) (l := l) (u := u) (i := i) (c := c) (r := r) (q := q) (g := g') (w := w) (x := x) g6 (wo := -1) (post := post)
    have KB := kLn_b g6 (wo := -6) (N 5) 0 0 0 0 0 0 (by omega) kLb_0
    rw [kLn_wo (wo := -1) (wo' := -6) (N 5) 0 0 0 0 0 0 (fun j hj => by rw [ix_m1 (by omega), ix_m6 (by omega)])] at ML
    generalize kLn s (-6) (N 5) 0 0 0 0 0 0 = v at h3 h4 h5 h6 h7 ML KB ⊢
    obtain ⟨n1, n2, n3, n4, n5⟩ := v
    dsimp only at h3 h4 h5 KB
    obtain ⟨u1, u2, u3, u4, u5⟩ := kUp KB p20
    have e0 : (0 : Int64).toInt = 0 := by decide
    by_cases z : kzL (n1, n2, n3, n4, n5) = 0
    · have nz : ¬ 0 < kzL (n1, n2, n3, n4, n5) := by rw [z]; decide
      simp only [z, not_true_eq_false, decide_false, Bool.false_eq_true, ↓reduceIte, vc_X11_lost, L3]
      refine ⟨kT_24, ?_⟩
      simp only [vc_X12_doubt, mq_tag, mq_len, mq_i, mq_r, mq_l, mq_nx, mq_wi, mq_wr, mq_wl, true_and, and_true, and_false, false_and, and_self, ↓reduceIte, kT_24, kT_25, kT_26, kT_27, kT_28, kT_29, kT_30, kT_31, kT_32, kT_33, kT_34, kT_35, kT_36, kT_37, kT_38, kT_39, kT_40, kT_41, kT_42, kT_43, kT_44, kT_45, kT_46, kT_47, kT_48, kT_49, kT_50, kT_51, kT_52, kT_53, kT_54, kT_55, kT_56, kT_57, kT_58, kT_59, kT_60, kT_61, kL_25, kL_26, kL_27, kL_28, kL_29, kL_30, kL_31, kL_32, kL_33, kL_34, kL_35, kL_36, kL_37, kL_38, kL_39, kL_40, kL_41, kL_42, kL_43, kL_44, kL_45, kL_46, kL_47, kL_48, kL_49, kL_50, kL_51, kL_52, kL_53, kL_54, kL_55, kL_56, kL_57, kL_58, kL_59, kL_60, kL_61, kW_24_1, kW_24_2, kW_24_3, kW_24_4, kW_24_5, kW_24_6, kW_24_7, kW_24_8, kW_24_9, kW_24_10, kW_24_11, kW_24_12, kW_24_14, kW_24_15, kW_24_16, kW_24_17, kW_24_18, kW_24_19, kW_24_21, kW_24_22, kW_24_23, kW_24_25, kW_24_26, kW_24_27, kW_24_28, kW_24_29, kW_24_31, kW_24_32, kW_24_33, kW_24_34, kW_24_36, kW_24_37, kW_24_44, kW_24_49, kW_24_50, kW_24_51, kW_24_52, kI_24, kI_w24, kI_25, kI_w25, kI_26, kI_w26, kI_27, kI_w27, kI_28, kI_w28, kI_29, kI_w29, kI_30, kI_w30, kI_31, kI_w31, kI_32, kI_w32, kI_33, kI_w33, kI_34, kI_w34, kI_35, kI_w35, kI_36, kI_w36, kI_37, kI_w37, kI_38, kI_w38, kI_39, kI_w39, kI_40, kI_w40, kI_41, kI_w41, kI_42, kI_w42, kI_43, kI_w43, kI_44, kI_w44, kI_45, kI_w45, kI_46, kI_w46, kI_47, kI_w47, kI_48, kI_w48, kI_49, kI_w49, kI_50, kI_w50, kI_51, kI_w51, kI_52, kI_w52, kI_53, kI_w53, kI_54, kI_w54, kI_55, kI_w55, kI_56, kI_w56, kI_57, kI_w57, kI_58, kI_w58, kI_59, kI_w59, kI_60, kI_w60, kI_61, kI_w61, m_in01, hd, and_self, decide_true, ML, nz, decide_false, Bool.false_eq_true]
      exact hK _ _ (kJ.mk hG)
    · have zp : 0 < (kzL (n1, n2, n3, n4, n5)).toInt := by rw [l_eq, e0] at z; omega
      have zl : 0 < kzL (n1, n2, n3, n4, n5) := by rw [l_lt, e0]; exact zp
      obtain ⟨o1, o2, o3⟩ := u4 zp
      have F1 := fun post => cl_far (B := B) (t := t) (l := l) (u := u) (i := i) (r := r) (q := q) (g := g') (w := w) (x := x) g6 (post := post) (N 5) 0 0 (by omega)
      have F2 := fun post => ml_far (B := B) (t := t) (l := l) (u := u) (i := i) (c := c) (r := r) (q := q) (g := g') (w := mj_u2 (mj_u2 (mj_u2 w 0 41 (kzL (n1, n2, n3, n4, n5))) 0 40 (kzB (n1, n2, n3, n4, n5))) 0 39 (kzA (n1, n2, n3, n4, n5))) (x := x) g6 (pt := d) (post := post) (N 5) 0 0 (by omega)
      rw [nI_0] at F1 F2
      simp only [h3, h4, h5, h6, h7] at F1
      simp only [mq_u2k, mq_u2s, ne_eq, Nat.reduceEqDiff, not_false_eq_true] at F2
      have R := kFo_n (F' := fun k => (s 37 k).toInt64 * (n1 * kzL (n1, n2, n3, n4, n5)) - (n3 * kzL (n1, n2, n3, n4, n5) + kzB (n1, n2, n3, n4, n5) * (n1 * (s 36 k).toInt64 - n2))) (F := fun k => (s 37 k).toInt64 * kzL (n1, n2, n3, n4, n5) - kzA (n1, n2, n3, n4, n5) - kzB (n1, n2, n3, n4, n5) * (s 36 k).toInt64) (n := n1.toInt.toNat) (p := N 5) (by omega) (fun k hk => by
        obtain ⟨_, _, r1, r2, r3, r4⟩ := q3 k hk
        have l0 : (0 : Int32).toInt = 0 := by decide
        have l2 : (200 : Int32).toInt = 200 := by decide
        have l4 : (10000 : Int32).toInt = 10000 := by decide
        rw [i_le] at r1 r2 r3 r4
        obtain ⟨_, _, _, w4⟩ := u5 (s 36 k).toInt64 (by rw [l_of]; omega) (by rw [l_of]; omega)
        obtain ⟨w5, w6, w7⟩ := w4 (s 37 k).toInt64 (by rw [l_of]; omega) (by rw [l_of]; omega)
        exact ⟨by rw [Int.toNat_of_nonneg (by omega)]; exact w7, w5, w6⟩) (N 5) 0 0 0 (by omega) (by rw [e0]; omega) (by rw [e0]; omega) (by rw [e0]; omega)
      rw [Int.toNat_of_nonneg (by omega)] at R
      obtain ⟨r1, r2, r3⟩ := R
      have r4 : n1.toInt * (kFo (fun k => (s 37 k).toInt64 * kzL (n1, n2, n3, n4, n5) - kzA (n1, n2, n3, n4, n5) - kzB (n1, n2, n3, n4, n5) * (s 36 k).toInt64) (N 5) 0 0).toInt ≤ 20 * 1000000000000 := Int.mul_le_mul u1.2 r3 r2 (by decide)
      have r5 := Int.mul_nonneg u1.1 r2
      simp only [z, not_false_eq_true, decide_true, ↓reduceIte, vc_X10_farthestOff, mq_tag, mq_len, mq_i, mq_r, mq_l, mq_nx, mq_wi, mq_wr, mq_wl, true_and, and_true, and_false, false_and, and_self, ↓reduceIte, kT_0, kT_1, kT_2, kT_3, kT_4, kT_5, kT_6, kT_7, kT_8, kT_9, kT_10, kT_11, kT_12, kT_13, kT_14, kT_15, kT_16, kT_17, kT_18, kT_19, kT_20, kT_21, kT_22, kT_23, kL_2, kL_3, kL_5, kL_10, kL_11, kL_12, kL_14, kL_15, kL_17, kL_18, kL_19, kL_20, kL_21, kL_22, kL_23, kW_0_0, kW_0_1, kW_0_2, kW_0_3, kW_0_4, kW_0_5, kW_0_6, kW_0_7, kW_1_4, kW_1_5, kW_4_0, kW_4_1, kW_9_0, kW_9_1, kW_9_2, kW_13_0, kW_13_1, kW_16_0, kW_16_1, kW_16_2, kW_16_3, kW_16_4, kW_16_5, kW_1_1, kW_1_2, kW_4_4, kW_8_0, kW_8_1, kW_w1_1, kW_w1_2, kW_w4_4, kW_w8_0, kW_w8_1, kI_0, kI_w0, kI_1, kI_w1, kI_2, kI_w2, kI_3, kI_w3, kI_4, kI_w4, kI_5, kI_w5, kI_6, kI_w6, kI_7, kI_w7, kI_8, kI_w8, kI_9, kI_w9, kI_10, kI_w10, kI_11, kI_w11, kI_12, kI_w12, kI_13, kI_w13, kI_14, kI_w14, kI_15, kI_w15, kI_16, kI_w16, kI_17, kI_w17, kI_18, kI_w18, kI_19, kI_w19, kI_20, kI_w20, kI_21, kI_w21, kI_22, kI_w22, kI_23, kI_w23, F1]
      rw [c_low (by rw [r1]; omega) (by rw [h3, h6]; exact ⟨o2, o3⟩)]
      refine ⟨kT_24, ?_⟩
      simp only [vc_X12_doubt, mq_tag, mq_len, mq_i, mq_r, mq_l, mq_nx, mq_wi, mq_wr, mq_wl, true_and, and_true, and_false, false_and, and_self, ↓reduceIte, kT_24, kT_25, kT_26, kT_27, kT_28, kT_29, kT_30, kT_31, kT_32, kT_33, kT_34, kT_35, kT_36, kT_37, kT_38, kT_39, kT_40, kT_41, kT_42, kT_43, kT_44, kT_45, kT_46, kT_47, kT_48, kT_49, kT_50, kT_51, kT_52, kT_53, kT_54, kT_55, kT_56, kT_57, kT_58, kT_59, kT_60, kT_61, kL_25, kL_26, kL_27, kL_28, kL_29, kL_30, kL_31, kL_32, kL_33, kL_34, kL_35, kL_36, kL_37, kL_38, kL_39, kL_40, kL_41, kL_42, kL_43, kL_44, kL_45, kL_46, kL_47, kL_48, kL_49, kL_50, kL_51, kL_52, kL_53, kL_54, kL_55, kL_56, kL_57, kL_58, kL_59, kL_60, kL_61, kW_24_1, kW_24_2, kW_24_3, kW_24_4, kW_24_5, kW_24_6, kW_24_7, kW_24_8, kW_24_9, kW_24_10, kW_24_11, kW_24_12, kW_24_14, kW_24_15, kW_24_16, kW_24_17, kW_24_18, kW_24_19, kW_24_21, kW_24_22, kW_24_23, kW_24_25, kW_24_26, kW_24_27, kW_24_28, kW_24_29, kW_24_31, kW_24_32, kW_24_33, kW_24_34, kW_24_36, kW_24_37, kW_24_44, kW_24_49, kW_24_50, kW_24_51, kW_24_52, kI_24, kI_w24, kI_25, kI_w25, kI_26, kI_w26, kI_27, kI_w27, kI_28, kI_w28, kI_29, kI_w29, kI_30, kI_w30, kI_31, kI_w31, kI_32, kI_w32, kI_33, kI_w33, kI_34, kI_w34, kI_35, kI_w35, kI_36, kI_w36, kI_37, kI_w37, kI_38, kI_w38, kI_39, kI_w39, kI_40, kI_w40, kI_41, kI_w41, kI_42, kI_w42, kI_43, kI_w43, kI_44, kI_w44, kI_45, kI_w45, kI_46, kI_w46, kI_47, kI_w47, kI_48, kI_w48, kI_49, kI_w49, kI_50, kI_w50, kI_51, kI_w51, kI_52, kI_w52, kI_53, kI_w53, kI_54, kI_w54, kI_55, kI_w55, kI_56, kI_w56, kI_57, kI_w57, kI_58, kI_w58, kI_59, kI_w59, kI_60, kI_w60, kI_61, kI_w61, m_in01, hd, and_self, decide_true, ML, zl, F2]
      rw [m_low (by omega) (by omega), h3, h6]
      rw [low_eq (n := n1.toInt.toNat) (by omega) (by rw [Int.toNat_of_nonneg (by omega)]; exact r1) (by rw [Int.toNat_of_nonneg (by omega)]; exact u3) (by rw [r1]; omega) (by omega) ⟨o2, o3⟩ (by omega) d]
      exact hK _ _ (kJ.mk hG)
  · have d0 : ¬ d = 0 := fun z => hd (by rw [z]; decide)
    have d1 : ¬ d = 1 := fun z => hd (by rw [z]; decide)
    simp only [vc_X11_doubt, vc_X11_lost, d0, d1, ↓reduceIte, L2]
    refine ⟨kT_24, ?_⟩
    simp only [vc_X12_doubt, mq_tag, mq_len, mq_i, mq_r, mq_l, mq_nx, mq_wi, mq_wr, mq_wl, true_and, and_true, and_false, false_and, and_self, ↓reduceIte, kT_24, kT_25, kT_26, kT_27, kT_28, kT_29, kT_30, kT_31, kT_32, kT_33, kT_34, kT_35, kT_36, kT_37, kT_38, kT_39, kT_40, kT_41, kT_42, kT_43, kT_44, kT_45, kT_46, kT_47, kT_48, kT_49, kT_50, kT_51, kT_52, kT_53, kT_54, kT_55, kT_56, kT_57, kT_58, kT_59, kT_60, kT_61, kL_25, kL_26, kL_27, kL_28, kL_29, kL_30, kL_31, kL_32, kL_33, kL_34, kL_35, kL_36, kL_37, kL_38, kL_39, kL_40, kL_41, kL_42, kL_43, kL_44, kL_45, kL_46, kL_47, kL_48, kL_49, kL_50, kL_51, kL_52, kL_53, kL_54, kL_55, kL_56, kL_57, kL_58, kL_59, kL_60, kL_61, kW_24_1, kW_24_2, kW_24_3, kW_24_4, kW_24_5, kW_24_6, kW_24_7, kW_24_8, kW_24_9, kW_24_10, kW_24_11, kW_24_12, kW_24_14, kW_24_15, kW_24_16, kW_24_17, kW_24_18, kW_24_19, kW_24_21, kW_24_22, kW_24_23, kW_24_25, kW_24_26, kW_24_27, kW_24_28, kW_24_29, kW_24_31, kW_24_32, kW_24_33, kW_24_34, kW_24_36, kW_24_37, kW_24_44, kW_24_49, kW_24_50, kW_24_51, kW_24_52, kI_24, kI_w24, kI_25, kI_w25, kI_26, kI_w26, kI_27, kI_w27, kI_28, kI_w28, kI_29, kI_w29, kI_30, kI_w30, kI_31, kI_w31, kI_32, kI_w32, kI_33, kI_w33, kI_34, kI_w34, kI_35, kI_w35, kI_36, kI_w36, kI_37, kI_w37, kI_38, kI_w38, kI_39, kI_w39, kI_40, kI_w40, kI_41, kI_w41, kI_42, kI_w42, kI_43, kI_w43, kI_44, kI_w44, kI_45, kI_w45, kI_46, kI_w46, kI_47, kI_w47, kI_48, kI_w48, kI_49, kI_w49, kI_50, kI_w50, kI_51, kI_w51, kI_52, kI_w52, kI_53, kI_w53, kI_54, kI_w54, kI_55, kI_w55, kI_56, kI_w56, kI_57, kI_w57, kI_58, kI_w58, kI_59, kI_w59, kI_60, kI_w60, kI_61, kI_w61, m_in01, hd, true_or, or_true, false_or, or_false, not_true_eq_false, not_false_eq_true, true_and, and_true, false_and, and_false, and_self, decide_true, decide_false, ↓reduceIte, Bool.true_and, Bool.false_and, Bool.and_true, Bool.and_false, Bool.not_true, Bool.not_false, Bool.false_eq_true, Bool.true_or, Bool.or_true, Bool.false_or, Bool.or_false, reduceCtorEq, Bool.and_self, Bool.or_self, ne_eq]
    exact hK _ _ (kJ.mk hG)
end

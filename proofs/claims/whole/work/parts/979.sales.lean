/-! STAGE B: the line of the sales -/
def kLn (s : Nat → Nat → Int32) (wo : Int32) : Nat → Nat → Int64 → Int64 → Int64 → Int64 → Int64 → Int64 × Int64 × Int64 × Int64 × Int64
  | 0, _, n, a, b, d, e => (n, a, b, d, e)
  | m + 1, k, n, a, b, d, e => if nI k = wo then kLn s wo m (k + 1) n a b d e else kLn s wo m (k + 1) (n + 1) (a + (s 36 k).toInt64) (b + (s 37 k).toInt64) (d + (s 36 k).toInt64 * (s 36 k).toInt64) (e + (s 36 k).toInt64 * (s 37 k).toInt64)
def kzL (v : Int64 × Int64 × Int64 × Int64 × Int64) : Int64 := v.1 * v.2.2.2.1 - v.2.1 * v.2.1
def kzB (v : Int64 × Int64 × Int64 × Int64 × Int64) : Int64 := v.1 * v.2.2.2.2 - v.2.1 * v.2.2.1
def kzA (v : Int64 × Int64 × Int64 × Int64 × Int64) : Int64 := v.2.2.1 * v.2.2.2.1 - v.2.1 * v.2.2.2.2
theorem kLn_wo {s : Nat → Nat → Int32} {wo wo' : Int32} : ∀ (m k : Nat) (n a b d e : Int64), (∀ j, j < k + m → (nI j = wo) = (nI j = wo')) → kLn s wo m k n a b d e = kLn s wo' m k n a b d e
  | 0, _, _, _, _, _, _, _ => rfl
  | m + 1, k, n, a, b, d, e, h => by
    unfold kLn
    simp only [h k (by omega), kLn_wo m (k + 1) _ _ _ _ _ fun j hj => h j (by omega)]
section
variable {B x p : Nat} {t l u : Nat → Nat} {i c s : Nat → Nat → Int32} {r : Nat → Nat → Nat} {q g w : Nat → Nat → Int64}
theorem cl_learn (g6 : kC4 c s p) {wo : Int32} {post : Bool → mj_M → Prop} : ∀ (m k : Nat) (n a b d e : Int64) (g : Nat → Nat → Int64), k + m = p → g 13 3 = n → g 13 4 = a → g 13 5 = b → (∀ g' : Nat → Nat → Int64, g' 13 3 = (kLn s wo m k n a b d e).1 → g' 13 4 = (kLn s wo m k n a b d e).2.1 → g' 13 5 = (kLn s wo m k n a b d e).2.2.1 → g' 13 6 = kzL (kLn s wo m k n a b d e) → g' 13 7 = kzB (kLn s wo m k n a b d e) → post (decide (¬ kzL (kLn s wo m k n a b d e) = 0)) (kT B t, kL B l, kI B i c s, kW B r u, kI B q g' w, x)) → ∃ fe, vb_X10_learn_23 post fe (B + 13) wo d e (nI k) (kT B t, kL B l, kI B i c s, kW B r u, kI B q g w, x)
  | 0, k, n, a, b, d, e, g, hk, h3, h4, h5, hp => by
    have kp : k = p := by omega
    subst kp
    refine ⟨1, ?_⟩
    have Z := hp (mj_u2 (mj_u2 g 13 6 (n * d - a * a)) 13 7 (n * e - a * b)) (by simp only [mq_u2n, mq_u2k, ne_eq, Nat.reduceEqDiff, not_false_eq_true]; exact h3) (by simp only [mq_u2k, ne_eq, Nat.reduceEqDiff, not_false_eq_true]; exact h4) (by simp only [mq_u2k, ne_eq, Nat.reduceEqDiff, not_false_eq_true]; exact h5) (by simp only [mq_u2k, ne_eq, Nat.reduceEqDiff, not_false_eq_true, mq_u2s]; rfl) mq_u2s
    simp only [vb_X10_learn_23, mq_tag, mq_len, mq_i, mq_r, mq_l, mq_nx, mq_wi, mq_wr, mq_wl, true_and, and_true, and_false, false_and, and_self, ↓reduceIte, kT_0, kT_1, kT_2, kT_3, kT_4, kT_5, kT_6, kT_7, kT_8, kT_9, kT_10, kT_11, kT_12, kT_13, kT_14, kT_15, kT_16, kT_17, kT_18, kT_19, kT_20, kT_21, kT_22, kT_23, kL_2, kL_3, kL_5, kL_10, kL_11, kL_12, kL_14, kL_15, kL_17, kL_18, kL_19, kL_20, kL_21, kL_22, kL_23, kW_0_0, kW_0_1, kW_0_2, kW_0_3, kW_0_4, kW_0_5, kW_0_6, kW_0_7, kW_1_4, kW_1_5, kW_4_0, kW_4_1, kW_9_0, kW_9_1, kW_9_2, kW_13_0, kW_13_1, kW_16_0, kW_16_1, kW_16_2, kW_16_3, kW_16_4, kW_16_5, kW_1_1, kW_1_2, kW_4_4, kW_8_0, kW_8_1, kW_w1_1, kW_w1_2, kW_w4_4, kW_w8_0, kW_w8_1, kI_0, kI_w0, kI_1, kI_w1, kI_2, kI_w2, kI_3, kI_w3, kI_4, kI_w4, kI_5, kI_w5, kI_6, kI_w6, kI_7, kI_w7, kI_8, kI_w8, kI_9, kI_w9, kI_10, kI_w10, kI_11, kI_w11, kI_12, kI_w12, kI_13, kI_w13, kI_14, kI_w14, kI_15, kI_w15, kI_16, kI_w16, kI_17, kI_w17, kI_18, kI_w18, kI_19, kI_w19, kI_20, kI_w20, kI_21, kI_w21, kI_22, kI_w22, kI_23, kI_w23, g6.2.1, Int32.le_refl, ix_cmp0, mq_u2k, mq_u2s, ne_eq, Nat.reduceEqDiff, not_false_eq_true, h3, h4, h5]
    have e1 : kzL (kLn s wo 0 k n a b d e) = n * d - a * a := rfl
    rw [e1] at Z
    by_cases z : n * d - a * a = 0
    · rw [if_pos z]; rw [decide_eq_false (fun y => y z)] at Z; exact Z
    · rw [if_neg z]; rw [decide_eq_true z] at Z; exact Z
  | m + 1, k, n, a, b, d, e, g, hk, h3, h4, h5, hp => by
    obtain ⟨p20, q1, q2, q3⟩ := id g6
    have k1 : k < 2147483648 := by omega
    obtain ⟨c14, c15, _⟩ := q3 k (by omega)
    unfold kLn at hp
    by_cases z : nI k = wo
    · simp only [z, ↓reduceIte] at hp
      obtain ⟨fe, h⟩ := cl_learn g6 (wo := wo) (post := post) m (k + 1) n a b d e g (by omega) h3 h4 h5 hp
      refine ⟨fe + 1, ?_⟩
      simp only [vb_X10_learn_23, mq_tag, mq_len, mq_i, mq_r, mq_l, mq_nx, mq_wi, mq_wr, mq_wl, true_and, and_true, and_false, false_and, and_self, ↓reduceIte, kT_0, kT_1, kT_2, kT_3, kT_4, kT_5, kT_6, kT_7, kT_8, kT_9, kT_10, kT_11, kT_12, kT_13, kT_14, kT_15, kT_16, kT_17, kT_18, kT_19, kT_20, kT_21, kT_22, kT_23, kL_2, kL_3, kL_5, kL_10, kL_11, kL_12, kL_14, kL_15, kL_17, kL_18, kL_19, kL_20, kL_21, kL_22, kL_23, kW_0_0, kW_0_1, kW_0_2, kW_0_3, kW_0_4, kW_0_5, kW_0_6, kW_0_7, kW_1_4, kW_1_5, kW_4_0, kW_4_1, kW_9_0, kW_9_1, kW_9_2, kW_13_0, kW_13_1, kW_16_0, kW_16_1, kW_16_2, kW_16_3, kW_16_4, kW_16_5, kW_1_1, kW_1_2, kW_4_4, kW_8_0, kW_8_1, kW_w1_1, kW_w1_2, kW_w4_4, kW_w8_0, kW_w8_1, kI_0, kI_w0, kI_1, kI_w1, kI_2, kI_w2, kI_3, kI_w3, kI_4, kI_w4, kI_5, kI_w5, kI_6, kI_w6, kI_7, kI_w7, kI_8, kI_w8, kI_9, kI_w9, kI_10, kI_w10, kI_11, kI_w11, kI_12, kI_w12, kI_13, kI_w13, kI_14, kI_w14, kI_15, kI_w15, kI_16, kI_w16, kI_17, kI_w17, kI_18, kI_w18, kI_19, kI_w19, kI_20, kI_w20, kI_21, kI_w21, kI_22, kI_w22, kI_23, kI_w23, q1, ix_le (show p < 2147483648 by omega) k1, show ¬ p ≤ k by omega, nI_1]
      rw [if_pos z]; exact h
    · simp only [z, ↓reduceIte] at hp
      obtain ⟨fe, h⟩ := cl_learn g6 (wo := wo) (post := post) m (k + 1) (n + 1) (a + (s 36 k).toInt64) (b + (s 37 k).toInt64) (d + (s 36 k).toInt64 * (s 36 k).toInt64) (e + (s 36 k).toInt64 * (s 37 k).toInt64) (mj_u2 (mj_u2 (mj_u2 g 13 3 (n + 1)) 13 4 (a + (s 36 k).toInt64)) 13 5 (b + (s 37 k).toInt64)) (by omega) (by simp only [mq_u2k, ne_eq, Nat.reduceEqDiff, not_false_eq_true, mq_u2s]) (by simp only [mq_u2k, ne_eq, Nat.reduceEqDiff, not_false_eq_true, mq_u2s]) mq_u2s hp
      refine ⟨fe + 1, ?_⟩
      simp only [vb_X10_learn_23, mq_tag, mq_len, mq_i, mq_r, mq_l, mq_nx, mq_wi, mq_wr, mq_wl, true_and, and_true, and_false, false_and, and_self, ↓reduceIte, kT_0, kT_1, kT_2, kT_3, kT_4, kT_5, kT_6, kT_7, kT_8, kT_9, kT_10, kT_11, kT_12, kT_13, kT_14, kT_15, kT_16, kT_17, kT_18, kT_19, kT_20, kT_21, kT_22, kT_23, kL_2, kL_3, kL_5, kL_10, kL_11, kL_12, kL_14, kL_15, kL_17, kL_18, kL_19, kL_20, kL_21, kL_22, kL_23, kW_0_0, kW_0_1, kW_0_2, kW_0_3, kW_0_4, kW_0_5, kW_0_6, kW_0_7, kW_1_4, kW_1_5, kW_4_0, kW_4_1, kW_9_0, kW_9_1, kW_9_2, kW_13_0, kW_13_1, kW_16_0, kW_16_1, kW_16_2, kW_16_3, kW_16_4, kW_16_5, kW_1_1, kW_1_2, kW_4_4, kW_8_0, kW_8_1, kW_w1_1, kW_w1_2, kW_w4_4, kW_w8_0, kW_w8_1, kI_0, kI_w0, kI_1, kI_w1, kI_2, kI_w2, kI_3, kI_w3, kI_4, kI_w4, kI_5, kI_w5, kI_6, kI_w6, kI_7, kI_w7, kI_8, kI_w8, kI_9, kI_w9, kI_10, kI_w10, kI_11, kI_w11, kI_12, kI_w12, kI_13, kI_w13, kI_14, kI_w14, kI_15, kI_w15, kI_16, kI_w16, kI_17, kI_w17, kI_18, kI_w18, kI_19, kI_w19, kI_20, kI_w20, kI_21, kI_w21, kI_22, kI_w22, kI_23, kI_w23, q1, ix_le (show p < 2147483648 by omega) k1, show ¬ p ≤ k by omega, ix_in k1, ix_nat k1, show k < 20 by omega, c14, c15, mq_u2k, mq_u2s, ne_eq, Nat.reduceEqDiff, not_false_eq_true, h3, h4, h5, nI_1]
      rw [if_neg z]; exact h
theorem c_learn (g6 : kC4 c s p) {wo : Int32} {post : Bool → mj_M → Prop} (hp : ∀ g' : Nat → Nat → Int64, g' 13 3 = (kLn s wo p 0 0 0 0 0 0).1 → g' 13 4 = (kLn s wo p 0 0 0 0 0 0).2.1 → g' 13 5 = (kLn s wo p 0 0 0 0 0 0).2.2.1 → g' 13 6 = kzL (kLn s wo p 0 0 0 0 0 0) → g' 13 7 = kzB (kLn s wo p 0 0 0 0 0 0) → post (decide (¬ kzL (kLn s wo p 0 0 0 0 0 0) = 0)) (kT B t, kL B l, kI B i c s, kW B r u, kI B q g' w, x)) : vc_X10_learn (B + 13) wo (kT B t, kL B l, kI B i c s, kW B r u, kI B q g w, x) post := by
  have R := cl_learn (B := B) (t := t) (l := l) (u := u) (i := i) (r := r) (q := q) (w := w) (x := x) g6 (wo := wo) (post := post) p 0 0 0 0 0 0 (mj_u2 (mj_u2 (mj_u2 g 13 3 0) 13 4 0) 13 5 0) (by omega) (by simp only [mq_u2k, ne_eq, Nat.reduceEqDiff, not_false_eq_true, mq_u2s]) (by simp only [mq_u2k, ne_eq, Nat.reduceEqDiff, not_false_eq_true, mq_u2s]) mq_u2s hp
  rw [nI_0] at R
  simp only [vc_X10_learn, mq_tag, mq_len, mq_i, mq_r, mq_l, mq_nx, mq_wi, mq_wr, mq_wl, true_and, and_true, and_false, false_and, and_self, ↓reduceIte, kT_0, kT_1, kT_2, kT_3, kT_4, kT_5, kT_6, kT_7, kT_8, kT_9, kT_10, kT_11, kT_12, kT_13, kT_14, kT_15, kT_16, kT_17, kT_18, kT_19, kT_20, kT_21, kT_22, kT_23, kL_2, kL_3, kL_5, kL_10, kL_11, kL_12, kL_14, kL_15, kL_17, kL_18, kL_19, kL_20, kL_21, kL_22, kL_23, kW_0_0, kW_0_1, kW_0_2, kW_0_3, kW_0_4, kW_0_5, kW_0_6, kW_0_7, kW_1_4, kW_1_5, kW_4_0, kW_4_1, kW_9_0, kW_9_1, kW_9_2, kW_13_0, kW_13_1, kW_16_0, kW_16_1, kW_16_2, kW_16_3, kW_16_4, kW_16_5, kW_1_1, kW_1_2, kW_4_4, kW_8_0, kW_8_1, kW_w1_1, kW_w1_2, kW_w4_4, kW_w8_0, kW_w8_1, kI_0, kI_w0, kI_1, kI_w1, kI_2, kI_w2, kI_3, kI_w3, kI_4, kI_w4, kI_5, kI_w5, kI_6, kI_w6, kI_7, kI_w7, kI_8, kI_w8, kI_9, kI_w9, kI_10, kI_w10, kI_11, kI_w11, kI_12, kI_w12, kI_13, kI_w13, kI_14, kI_w14, kI_15, kI_w15, kI_16, kI_w16, kI_17, kI_w17, kI_18, kI_w18, kI_19, kI_w19, kI_20, kI_w20, kI_21, kI_w21, kI_22, kI_w22, kI_23, kI_w23]
  exact R
theorem ml_line (g6 : kC4 c s p) {wo : Int32} {post : Bool → mj_M → Prop} : ∀ (m k : Nat) (n a b d e : Int64), k + m = p → (∃ fe, vb_X12_findLine_17 post fe (B + 24) wo n a b d e (nI k) (kT B t, kL B l, kI B i c s, kW B r u, kI B q g w, x)) = post (decide (0 < kzL (kLn s wo m k n a b d e))) (kT B t, kL B l, kI B i c s, kW B r u, kI B q g (mj_u2 (mj_u2 (mj_u2 w 0 41 (kzL (kLn s wo m k n a b d e))) 0 40 (kzB (kLn s wo m k n a b d e))) 0 39 (kzA (kLn s wo m k n a b d e))), x)
  | 0, k, n, a, b, d, e, hk => by
    have kp : k = p := by omega
    subst kp
    rw [ex_succ rfl]
    simp only [vb_X12_findLine_17, mq_tag, mq_len, mq_i, mq_r, mq_l, mq_nx, mq_wi, mq_wr, mq_wl, true_and, and_true, and_false, false_and, and_self, ↓reduceIte, kT_24, kT_25, kT_26, kT_27, kT_28, kT_29, kT_30, kT_31, kT_32, kT_33, kT_34, kT_35, kT_36, kT_37, kT_38, kT_39, kT_40, kT_41, kT_42, kT_43, kT_44, kT_45, kT_46, kT_47, kT_48, kT_49, kT_50, kT_51, kT_52, kT_53, kT_54, kT_55, kT_56, kT_57, kT_58, kT_59, kT_60, kT_61, kL_25, kL_26, kL_27, kL_28, kL_29, kL_30, kL_31, kL_32, kL_33, kL_34, kL_35, kL_36, kL_37, kL_38, kL_39, kL_40, kL_41, kL_42, kL_43, kL_44, kL_45, kL_46, kL_47, kL_48, kL_49, kL_50, kL_51, kL_52, kL_53, kL_54, kL_55, kL_56, kL_57, kL_58, kL_59, kL_60, kL_61, kW_24_1, kW_24_2, kW_24_3, kW_24_4, kW_24_5, kW_24_6, kW_24_7, kW_24_8, kW_24_9, kW_24_10, kW_24_11, kW_24_12, kW_24_14, kW_24_15, kW_24_16, kW_24_17, kW_24_18, kW_24_19, kW_24_21, kW_24_22, kW_24_23, kW_24_25, kW_24_26, kW_24_27, kW_24_28, kW_24_29, kW_24_31, kW_24_32, kW_24_33, kW_24_34, kW_24_36, kW_24_37, kW_24_44, kW_24_49, kW_24_50, kW_24_51, kW_24_52, kI_24, kI_w24, kI_25, kI_w25, kI_26, kI_w26, kI_27, kI_w27, kI_28, kI_w28, kI_29, kI_w29, kI_30, kI_w30, kI_31, kI_w31, kI_32, kI_w32, kI_33, kI_w33, kI_34, kI_w34, kI_35, kI_w35, kI_36, kI_w36, kI_37, kI_w37, kI_38, kI_w38, kI_39, kI_w39, kI_40, kI_w40, kI_41, kI_w41, kI_42, kI_w42, kI_43, kI_w43, kI_44, kI_w44, kI_45, kI_w45, kI_46, kI_w46, kI_47, kI_w47, kI_48, kI_w48, kI_49, kI_w49, kI_50, kI_w50, kI_51, kI_w51, kI_52, kI_w52, kI_53, kI_w53, kI_54, kI_w54, kI_55, kI_w55, kI_56, kI_w56, kI_57, kI_w57, kI_58, kI_w58, kI_59, kI_w59, kI_60, kI_w60, kI_61, kI_w61, g6.2.2.1, Int32.le_refl, ix_cmp4, mq_u2k, mq_u2s, ne_eq, Nat.reduceEqDiff, not_false_eq_true, ex_ite, exists_and_left, exists_const, exists_and_right]
    by_cases z : n * d - a * a ≤ 0
    · have D : decide (0 < kzL (kLn s wo 0 k n a b d e)) = false := decide_eq_false (show ¬ 0 < n * d - a * a from fun y => Int64.not_le.mpr y z)
      rw [D, if_pos z]; rfl
    · have D : decide (0 < kzL (kLn s wo 0 k n a b d e)) = true := decide_eq_true (show 0 < n * d - a * a from Int64.not_le.mp z)
      rw [D, if_neg z]; rfl
  | m + 1, k, n, a, b, d, e, hk => by
    obtain ⟨p20, q1, q2, q3⟩ := id g6
    have k1 : k < 2147483648 := by omega
    have I := fun n a b d e => ml_line g6 (wo := wo) (post := post) m (k + 1) n a b d e (by omega)
    rw [ex_succ rfl]
    simp only [vb_X12_findLine_17, mq_tag, mq_len, mq_i, mq_r, mq_l, mq_nx, mq_wi, mq_wr, mq_wl, true_and, and_true, and_false, false_and, and_self, ↓reduceIte, kT_24, kT_25, kT_26, kT_27, kT_28, kT_29, kT_30, kT_31, kT_32, kT_33, kT_34, kT_35, kT_36, kT_37, kT_38, kT_39, kT_40, kT_41, kT_42, kT_43, kT_44, kT_45, kT_46, kT_47, kT_48, kT_49, kT_50, kT_51, kT_52, kT_53, kT_54, kT_55, kT_56, kT_57, kT_58, kT_59, kT_60, kT_61, kL_25, kL_26, kL_27, kL_28, kL_29, kL_30, kL_31, kL_32, kL_33, kL_34, kL_35, kL_36, kL_37, kL_38, kL_39, kL_40, kL_41, kL_42, kL_43, kL_44, kL_45, kL_46, kL_47, kL_48, kL_49, kL_50, kL_51, kL_52, kL_53, kL_54, kL_55, kL_56, kL_57, kL_58, kL_59, kL_60, kL_61, kW_24_1, kW_24_2, kW_24_3, kW_24_4, kW_24_5, kW_24_6, kW_24_7, kW_24_8, kW_24_9, kW_24_10, kW_24_11, kW_24_12, kW_24_14, kW_24_15, kW_24_16, kW_24_17, kW_24_18, kW_24_19, kW_24_21, kW_24_22, kW_24_23, kW_24_25, kW_24_26, kW_24_27, kW_24_28, kW_24_29, kW_24_31, kW_24_32, kW_24_33, kW_24_34, kW_24_36, kW_24_37, kW_24_44, kW_24_49, kW_24_50, kW_24_51, kW_24_52, kI_24, kI_w24, kI_25, kI_w25, kI_26, kI_w26, kI_27, kI_w27, kI_28, kI_w28, kI_29, kI_w29, kI_30, kI_w30, kI_31, kI_w31, kI_32, kI_w32, kI_33, kI_w33, kI_34, kI_w34, kI_35, kI_w35, kI_36, kI_w36, kI_37, kI_w37, kI_38, kI_w38, kI_39, kI_w39, kI_40, kI_w40, kI_41, kI_w41, kI_42, kI_w42, kI_43, kI_w43, kI_44, kI_w44, kI_45, kI_w45, kI_46, kI_w46, kI_47, kI_w47, kI_48, kI_w48, kI_49, kI_w49, kI_50, kI_w50, kI_51, kI_w51, kI_52, kI_w52, kI_53, kI_w53, kI_54, kI_w54, kI_55, kI_w55, kI_56, kI_w56, kI_57, kI_w57, kI_58, kI_w58, kI_59, kI_w59, kI_60, kI_w60, kI_61, kI_w61, q2, ix_le (show p < 2147483648 by omega) k1, show ¬ p ≤ k by omega, ix_in k1, ix_nat k1, show k < 20 by omega, nI_1, ex_ite, exists_and_left, exists_const, exists_and_right, I, kLn]
    split <;> rfl
theorem m_line (g6 : kC4 c s p) {wo : Int32} {post : Bool → mj_M → Prop} : vc_X12_findLine (B + 24) wo (kT B t, kL B l, kI B i c s, kW B r u, kI B q g w, x) post = post (decide (0 < kzL (kLn s wo p 0 0 0 0 0 0))) (kT B t, kL B l, kI B i c s, kW B r u, kI B q g (mj_u2 (mj_u2 (mj_u2 w 0 41 (kzL (kLn s wo p 0 0 0 0 0 0))) 0 40 (kzB (kLn s wo p 0 0 0 0 0 0))) 0 39 (kzA (kLn s wo p 0 0 0 0 0 0))), x) := by
  have R := ml_line (B := B) (t := t) (l := l) (u := u) (i := i) (c := c) (r := r) (q := q) (g := g) (w := w) (x := x) g6 (wo := wo) (post := post) p 0 0 0 0 0 0 (by omega)
  rw [nI_0] at R
  unfold vc_X12_findLine; exact R
end
/-! bounds -/
theorem sq_nn (z : Int) : 0 ≤ z * z := by
  rcases Int.le_total 0 z with h | h
  · exact Int.mul_nonneg h h
  · exact Int.mul_nonneg_of_nonpos_of_nonpos h h
def kLb (k : Nat) (n a b d e : Int64) : Prop := (0 ≤ n.toInt ∧ n.toInt ≤ k) ∧ (0 ≤ a.toInt ∧ a.toInt ≤ 200 * k) ∧ (0 ≤ b.toInt ∧ b.toInt ≤ 10000 * k) ∧ (0 ≤ d.toInt ∧ d.toInt ≤ 40000 * k) ∧ (0 ≤ e.toInt ∧ e.toInt ≤ 2000000 * k) ∧ (∀ Y : Int, 0 ≤ n.toInt * (Y * Y) - 2 * (a.toInt * Y) + d.toInt) ∧ 0 ≤ n.toInt * d.toInt - a.toInt * a.toInt
theorem kLb_s {k : Nat} {n a b d e : Int64} (h : kLb k n a b d e) (hk : k < 20) {y z : Int32} (hy : 0 ≤ y ∧ y ≤ 200) (hz : 0 ≤ z ∧ z ≤ 10000) : kLb (k + 1) (n + 1) (a + y.toInt64) (b + z.toInt64) (d + y.toInt64 * y.toInt64) (e + y.toInt64 * z.toInt64) := by
  obtain ⟨⟨n0, n1⟩, ⟨a0, a1⟩, ⟨b0, b1⟩, ⟨d0, d1⟩, ⟨e0, e1⟩, hQ, hD⟩ := h
  have y0 := i_le.mp hy.1
  have y1 := i_le.mp hy.2
  have z0 := i_le.mp hz.1
  have z1 := i_le.mp hz.2
  have l0 : (0 : Int32).toInt = 0 := by decide
  have l2 : (200 : Int32).toInt = 200 := by decide
  have l4 : (10000 : Int32).toInt = 10000 := by decide
  have o1 : (1 : Int64).toInt = 1 := by decide
  have m1 := l_mul (a := y.toInt64) (b := y.toInt64) (A := 200) (C := 200) (by rw [l_of]; omega) (by rw [l_of]; omega) (by decide)
  have m2 := l_mul (a := y.toInt64) (b := z.toInt64) (A := 200) (C := 10000) (by rw [l_of]; omega) (by rw [l_of]; omega) (by decide)
  rw [l_of] at m1
  rw [l_of, l_of] at m2
  have s1 : (n + 1).toInt = n.toInt + 1 := by rw [l_add (by rw [o1]; omega), o1]
  have s2 : (a + y.toInt64).toInt = a.toInt + y.toInt := by rw [l_add (by rw [l_of]; omega), l_of]
  have s3 : (b + z.toInt64).toInt = b.toInt + z.toInt := by rw [l_add (by rw [l_of]; omega), l_of]
  have s4 : (d + y.toInt64 * y.toInt64).toInt = d.toInt + y.toInt * y.toInt := by rw [l_add (by rw [m1.1]; omega), m1.1]
  have s5 : (e + y.toInt64 * z.toInt64).toInt = e.toInt + y.toInt * z.toInt := by rw [l_add (by rw [m2.1]; omega), m2.1]
  unfold kLb
  rw [s1, s2, s3, s4, s5]
  refine ⟨by omega, by omega, by omega, by omega, by omega, fun Y => ?_, ?_⟩
  · have h1 := hQ Y
    have h2 := sq_nn (Y - y.toInt)
    have h3 : (n.toInt + 1) * (Y * Y) - 2 * ((a.toInt + y.toInt) * Y) + (d.toInt + y.toInt * y.toInt) = (n.toInt * (Y * Y) - 2 * (a.toInt * Y) + d.toInt) + (Y - y.toInt) * (Y - y.toInt) := by grind
    rw [h3]; omega
  · have h1 := hQ y.toInt
    have h3 : (n.toInt + 1) * (d.toInt + y.toInt * y.toInt) - (a.toInt + y.toInt) * (a.toInt + y.toInt) = (n.toInt * d.toInt - a.toInt * a.toInt) + (n.toInt * (y.toInt * y.toInt) - 2 * (a.toInt * y.toInt) + d.toInt) := by grind
    rw [h3]; omega
theorem kLb_up {k : Nat} {n a b d e : Int64} (h : kLb k n a b d e) : kLb (k + 1) n a b d e := by
  obtain ⟨⟨n0, n1⟩, ⟨a0, a1⟩, ⟨b0, b1⟩, ⟨d0, d1⟩, ⟨e0, e1⟩, hQ, hD⟩ := h
  exact ⟨by omega, by omega, by omega, by omega, by omega, hQ, hD⟩
theorem kLn_b {c s : Nat → Nat → Int32} {p : Nat} (g6 : kC4 c s p) {wo : Int32} : ∀ (m k : Nat) (n a b d e : Int64), k + m = p → kLb k n a b d e → kLb p (kLn s wo m k n a b d e).1 (kLn s wo m k n a b d e).2.1 (kLn s wo m k n a b d e).2.2.1 (kLn s wo m k n a b d e).2.2.2.1 (kLn s wo m k n a b d e).2.2.2.2
  | 0, k, n, a, b, d, e, hk, h => by
    have kp : k = p := by omega
    subst kp
    exact h
  | m + 1, k, n, a, b, d, e, hk, h => by
    have p20 := g6.1
    obtain ⟨_, _, r1, r2, r3, r4⟩ := g6.2.2.2 k (by omega)
    unfold kLn
    by_cases z : nI k = wo
    · rw [if_pos z]; exact kLn_b g6 m (k + 1) _ _ _ _ _ (by omega) (kLb_up h)
    · rw [if_neg z]; exact kLn_b g6 m (k + 1) _ _ _ _ _ (by omega) (kLb_s h (by omega) ⟨r1, r2⟩ ⟨r3, r4⟩)
theorem kLb_0 : kLb 0 0 0 0 0 0 := by
  have o0 : (0 : Int64).toInt = 0 := by decide
  unfold kLb
  rw [o0]
  exact ⟨by omega, by omega, by omega, by omega, by omega, fun Y => by omega, by omega⟩
theorem l_muS {a b : Int64} {A C : Int} (ha : -A ≤ a.toInt ∧ a.toInt ≤ A) (hb : -C ≤ b.toInt ∧ b.toInt ≤ C) (h : A * C ≤ 9000000000000000000) : (a * b).toInt = a.toInt * b.toInt ∧ -(A * C) ≤ a.toInt * b.toInt ∧ a.toInt * b.toInt ≤ A * C := by
  have h1 : (a.toInt * b.toInt).natAbs = a.toInt.natAbs * b.toInt.natAbs := Int.natAbs_mul _ _
  have h2 : a.toInt.natAbs * b.toInt.natAbs ≤ A.toNat * C.toNat := Nat.mul_le_mul (by omega) (by omega)
  have h3 : ((A.toNat * C.toNat : Nat) : Int) = A * C := by
    rw [Int.natCast_mul, Int.toNat_of_nonneg (by omega), Int.toNat_of_nonneg (by omega)]
  have h4 : -(A * C) ≤ a.toInt * b.toInt ∧ a.toInt * b.toInt ≤ A * C := by omega
  refine ⟨?_, h4⟩
  rw [Int64.toInt_mul, Int.bmod_eq_of_le (by omega) (by omega)]

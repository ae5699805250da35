/-! STAGE B: doubted -/
section
variable {B x p : Nat} {t l u : Nat → Nat} {i c s : Nat → Nat → Int32} {r : Nat → Nat → Nat} {q g w : Nat → Nat → Int64}
theorem cl_few (g7 : kC5 c s p) {post : Int32 → mj_M → Prop} : ∀ (m k few : Nat), k + m = 2 ^ p → few ≤ p → (∃ z, z < 2 ^ p ∧ rCan s p z.testBit = true ∧ few + rOnes p z = p) → (∀ z, z < k → rCan s p z.testBit = true → few + rOnes p z ≤ p) → (∀ f, f ≤ p → rFew s p f → post (nI f) (kT B t, kL B l, kI B i (mj_u2 c 16 7 (nI f)) s, kW B r u, kI B q g w, x)) → ∃ fe, vb_X9_fewestDoubted_21 post fe (B + 16) (nI few) (nI k) (kT B t, kL B l, kI B i c s, kW B r u, kI B q g w, x)
  | 0, k, few, hk, hf, he, ha, hp => by
    have kp : k = 2 ^ p := by omega
    subst kp
    have p12 := g7.1
    have hp4 : 2 ^ p ≤ 2 ^ 12 := Nat.pow_le_pow_right (by decide) p12
    have hp0 : 0 < 2 ^ p := Nat.pow_pos (by decide)
    have ea := all_p ⟨p, by omega⟩
    simp only at ea
    refine ⟨1, ?_⟩
    simp only [vb_X9_fewestDoubted_21, vc_X9_all, mq_tag, mq_len, mq_i, mq_r, mq_l, mq_nx, mq_wi, mq_wr, mq_wl, true_and, and_true, and_false, false_and, and_self, ↓reduceIte, kT_0, kT_1, kT_2, kT_3, kT_4, kT_5, kT_6, kT_7, kT_8, kT_9, kT_10, kT_11, kT_12, kT_13, kT_14, kT_15, kT_16, kT_17, kT_18, kT_19, kT_20, kT_21, kT_22, kT_23, kL_2, kL_3, kL_5, kL_10, kL_11, kL_12, kL_14, kL_15, kL_17, kL_18, kL_19, kL_20, kL_21, kL_22, kL_23, kW_0_0, kW_0_1, kW_0_2, kW_0_3, kW_0_4, kW_0_5, kW_0_6, kW_0_7, kW_1_4, kW_1_5, kW_4_0, kW_4_1, kW_9_0, kW_9_1, kW_9_2, kW_13_0, kW_13_1, kW_16_0, kW_16_1, kW_16_2, kW_16_3, kW_16_4, kW_16_5, kW_1_1, kW_1_2, kW_4_4, kW_8_0, kW_8_1, kW_w1_1, kW_w1_2, kW_w4_4, kW_w8_0, kW_w8_1, kI_0, kI_w0, kI_1, kI_w1, kI_2, kI_w2, kI_3, kI_w3, kI_4, kI_w4, kI_5, kI_w5, kI_6, kI_w6, kI_7, kI_w7, kI_8, kI_w8, kI_9, kI_w9, kI_10, kI_w10, kI_11, kI_w11, kI_12, kI_w12, kI_13, kI_w13, kI_14, kI_w14, kI_15, kI_w15, kI_16, kI_w16, kI_17, kI_w17, kI_18, kI_w18, kI_19, kI_w19, kI_20, kI_w20, kI_21, kI_w21, kI_22, kI_w22, kI_23, kI_w23, g7.2.1, ea, ix_lt (show 2 ^ p - 1 < 2147483648 by omega) (show 2 ^ p < 2147483648 by omega), show 2 ^ p - 1 < 2 ^ p by omega]
    exact hp few hf ⟨he, ha⟩
  | m + 1, k, few, hk, hf, he, ha, hp => by
    have p12 := g7.1
    have hp4 : 2 ^ p ≤ 2 ^ 12 := Nat.pow_le_pow_right (by decide) p12
    have ea := all_p ⟨p, by omega⟩
    simp only at ea
    have kk : k < 2 ^ p := by omega
    have I := fun few => cl_few g7 (post := post) m (k + 1) few (by omega)
    have bc := kBc_p p12 kk
    have ol := rOnes_le k p
    have em := nI_less ol
    have S : ∀ fe, (few ≤ p - rOnes p k → vb_X9_fewestDoubted_21 post fe (B + 16) (nI few) (nI (k + 1)) (kT B t, kL B l, kI B i c s, kW B r u, kI B q g w, x)) → (¬ few ≤ p - rOnes p k → vc_X9_canBe (B + 16) (nI k) (kT B t, kL B l, kI B i c s, kW B r u, kI B q g w, x) (fun r11 M12 => if r11 = true then (vb_X9_fewestDoubted_21 post fe (B + 16) (nI (p - rOnes p k)) (nI (k + 1)) M12) else (vb_X9_fewestDoubted_21 post fe (B + 16) (nI few) (nI (k + 1)) M12))) → ∃ fe, vb_X9_fewestDoubted_21 post fe (B + 16) (nI few) (nI k) (kT B t, kL B l, kI B i c s, kW B r u, kI B q g w, x) := fun fe h1 h2 => by
      refine ⟨fe + 1, ?_⟩
      simp only [vb_X9_fewestDoubted_21, vc_X9_all, mq_tag, mq_len, mq_i, mq_r, mq_l, mq_nx, mq_wi, mq_wr, mq_wl, true_and, and_true, and_false, false_and, and_self, ↓reduceIte, kT_0, kT_1, kT_2, kT_3, kT_4, kT_5, kT_6, kT_7, kT_8, kT_9, kT_10, kT_11, kT_12, kT_13, kT_14, kT_15, kT_16, kT_17, kT_18, kT_19, kT_20, kT_21, kT_22, kT_23, kL_2, kL_3, kL_5, kL_10, kL_11, kL_12, kL_14, kL_15, kL_17, kL_18, kL_19, kL_20, kL_21, kL_22, kL_23, kW_0_0, kW_0_1, kW_0_2, kW_0_3, kW_0_4, kW_0_5, kW_0_6, kW_0_7, kW_1_4, kW_1_5, kW_4_0, kW_4_1, kW_9_0, kW_9_1, kW_9_2, kW_13_0, kW_13_1, kW_16_0, kW_16_1, kW_16_2, kW_16_3, kW_16_4, kW_16_5, kW_1_1, kW_1_2, kW_4_4, kW_8_0, kW_8_1, kW_w1_1, kW_w1_2, kW_w4_4, kW_w8_0, kW_w8_1, kI_0, kI_w0, kI_1, kI_w1, kI_2, kI_w2, kI_3, kI_w3, kI_4, kI_w4, kI_5, kI_w5, kI_6, kI_w6, kI_7, kI_w7, kI_8, kI_w8, kI_9, kI_w9, kI_10, kI_w10, kI_11, kI_w11, kI_12, kI_w12, kI_13, kI_w13, kI_14, kI_w14, kI_15, kI_w15, kI_16, kI_w16, kI_17, kI_w17, kI_18, kI_w18, kI_19, kI_w19, kI_20, kI_w20, kI_21, kI_w21, kI_22, kI_w22, kI_23, kI_w23, g7.2.1, ea, ix_lt (show 2 ^ p - 1 < 2147483648 by omega) (show k < 2147483648 by omega), show ¬ 2 ^ p - 1 < k by omega, c_bits, bc, em, ix_le (show few < 2147483648 by omega) (show p - rOnes p k < 2147483648 by omega), nI_1]
      by_cases z : few ≤ p - rOnes p k
      · rw [if_pos z]; exact h1 z
      · rw [if_neg z]; exact h2 z
    by_cases z : few ≤ p - rOnes p k
    · obtain ⟨fe, h⟩ := I few hf he (fun y hy hc => by
        by_cases e : y = k
        · subst e; omega
        · exact ha y (by omega) hc) hp
      exact S fe (fun _ => h) (fun y => absurd z y)
    · rcases Bool.eq_false_or_eq_true (rCan s p k.testBit) with y | y
      · obtain ⟨fe, h⟩ := I (p - rOnes p k) (by omega) ⟨k, kk, y, by omega⟩ (fun v hv hc => by
          by_cases e : v = k
          · subst e; omega
          · have := ha v (by omega) hc; omega) hp
        refine S fe (fun w => absurd w z) (fun _ => c_canBe g7 (kMk_S p12 kk) (bit_p kk) ?_)
        simp only [y, ↓reduceIte]; exact h
      · obtain ⟨fe, h⟩ := I few hf he (fun v hv hc => by
          by_cases e : v = k
          · subst e; rw [y] at hc; cases hc
          · exact ha v (by omega) hc) hp
        refine S fe (fun w => absurd w z) (fun _ => c_canBe g7 (kMk_S p12 kk) (bit_p kk) ?_)
        simp only [y, Bool.false_eq_true, ↓reduceIte]; exact h
theorem cl_doubted (g7 : kC5 c s p) {a : Int32} {f : Nat} (hf : f ≤ 12) {post : Int32 → mj_M → Prop} : ∀ (m k : Nat) (pl : Int32), k + m = 2 ^ p → post (kDo (kDq s p f) a m k pl) (kT B t, kL B l, kI B i c s, kW B r u, kI B q g w, x) → ∃ fe, vb_X11_doubted_13 post fe B a pl (nI f) (nI k) (kT B t, kL B l, kI B i c s, kW B r u, kI B q g w, x)
  | 0, k, pl, hk, hp => by
    have kp : k = 2 ^ p := by omega
    subst kp
    have p12 := g7.1
    have hp4 : 2 ^ p ≤ 2 ^ 12 := Nat.pow_le_pow_right (by decide) p12
    have hp0 : 0 < 2 ^ p := Nat.pow_pos (by decide)
    have ea := all_p ⟨p, by omega⟩
    simp only at ea
    refine ⟨1, ?_⟩
    simp only [vb_X11_doubted_13, vc_X9_all, mq_tag, mq_len, mq_i, mq_r, mq_l, mq_nx, mq_wi, mq_wr, mq_wl, true_and, and_true, and_false, false_and, and_self, ↓reduceIte, kT_0, kT_1, kT_2, kT_3, kT_4, kT_5, kT_6, kT_7, kT_8, kT_9, kT_10, kT_11, kT_12, kT_13, kT_14, kT_15, kT_16, kT_17, kT_18, kT_19, kT_20, kT_21, kT_22, kT_23, kL_2, kL_3, kL_5, kL_10, kL_11, kL_12, kL_14, kL_15, kL_17, kL_18, kL_19, kL_20, kL_21, kL_22, kL_23, kW_0_0, kW_0_1, kW_0_2, kW_0_3, kW_0_4, kW_0_5, kW_0_6, kW_0_7, kW_1_4, kW_1_5, kW_4_0, kW_4_1, kW_9_0, kW_9_1, kW_9_2, kW_13_0, kW_13_1, kW_16_0, kW_16_1, kW_16_2, kW_16_3, kW_16_4, kW_16_5, kW_1_1, kW_1_2, kW_4_4, kW_8_0, kW_8_1, kW_w1_1, kW_w1_2, kW_w4_4, kW_w8_0, kW_w8_1, kI_0, kI_w0, kI_1, kI_w1, kI_2, kI_w2, kI_3, kI_w3, kI_4, kI_w4, kI_5, kI_w5, kI_6, kI_w6, kI_7, kI_w7, kI_8, kI_w8, kI_9, kI_w9, kI_10, kI_w10, kI_11, kI_w11, kI_12, kI_w12, kI_13, kI_w13, kI_14, kI_w14, kI_15, kI_w15, kI_16, kI_w16, kI_17, kI_w17, kI_18, kI_w18, kI_19, kI_w19, kI_20, kI_w20, kI_21, kI_w21, kI_22, kI_w22, kI_23, kI_w23, g7.2.1, ea, ix_lt (show 2 ^ p - 1 < 2147483648 by omega) (show 2 ^ p < 2147483648 by omega), show 2 ^ p - 1 < 2 ^ p by omega]
    unfold kDo at hp
    by_cases z : a = -1
    · rw [if_pos z] at hp ⊢; exact hp
    · rw [if_neg z] at hp ⊢; exact hp
  | m + 1, k, pl, hk, hp => by
    have p12 := g7.1
    have hp4 : 2 ^ p ≤ 2 ^ 12 := Nat.pow_le_pow_right (by decide) p12
    have ea := all_p ⟨p, by omega⟩
    simp only at ea
    have kk : k < 2 ^ p := by omega
    have k1 : k < 2147483648 := by omega
    have I := fun pl => cl_doubted g7 (a := a) hf (post := post) m (k + 1) pl (by omega)
    have bc := kBc_p p12 kk
    have ol := rOnes_le k p
    have ec := nI_cmp p12 kk
    have ck : 2 ^ p - 1 - k < 2 ^ p := by omega
    have S : ∀ fe, (¬ rOnes p k = f → vb_X11_doubted_13 post fe B a pl (nI f) (nI (k + 1)) (kT B t, kL B l, kI B i c s, kW B r u, kI B q g w, x)) → (rOnes p k = f → vc_X9_canBe (B + 16) (nI (2 ^ p - 1 - k)) (kT B t, kL B l, kI B i c s, kW B r u, kI B q g w, x) (fun r15 M16 => if r15 = true then (if pl = a then (post (nI k) M16) else (vb_X11_doubted_13 post fe B a (pl + 1) (nI f) (nI (k + 1)) M16)) else (vb_X11_doubted_13 post fe B a pl (nI f) (nI (k + 1)) M16))) → ∃ fe, vb_X11_doubted_13 post fe B a pl (nI f) (nI k) (kT B t, kL B l, kI B i c s, kW B r u, kI B q g w, x) := fun fe h1 h2 => by
      refine ⟨fe + 1, ?_⟩
      simp only [vb_X11_doubted_13, vc_X9_all, mq_tag, mq_len, mq_i, mq_r, mq_l, mq_nx, mq_wi, mq_wr, mq_wl, true_and, and_true, and_false, false_and, and_self, ↓reduceIte, kT_0, kT_1, kT_2, kT_3, kT_4, kT_5, kT_6, kT_7, kT_8, kT_9, kT_10, kT_11, kT_12, kT_13, kT_14, kT_15, kT_16, kT_17, kT_18, kT_19, kT_20, kT_21, kT_22, kT_23, kL_2, kL_3, kL_5, kL_10, kL_11, kL_12, kL_14, kL_15, kL_17, kL_18, kL_19, kL_20, kL_21, kL_22, kL_23, kW_0_0, kW_0_1, kW_0_2, kW_0_3, kW_0_4, kW_0_5, kW_0_6, kW_0_7, kW_1_4, kW_1_5, kW_4_0, kW_4_1, kW_9_0, kW_9_1, kW_9_2, kW_13_0, kW_13_1, kW_16_0, kW_16_1, kW_16_2, kW_16_3, kW_16_4, kW_16_5, kW_1_1, kW_1_2, kW_4_4, kW_8_0, kW_8_1, kW_w1_1, kW_w1_2, kW_w4_4, kW_w8_0, kW_w8_1, kI_0, kI_w0, kI_1, kI_w1, kI_2, kI_w2, kI_3, kI_w3, kI_4, kI_w4, kI_5, kI_w5, kI_6, kI_w6, kI_7, kI_w7, kI_8, kI_w8, kI_9, kI_w9, kI_10, kI_w10, kI_11, kI_w11, kI_12, kI_w12, kI_13, kI_w13, kI_14, kI_w14, kI_15, kI_w15, kI_16, kI_w16, kI_17, kI_w17, kI_18, kI_w18, kI_19, kI_w19, kI_20, kI_w20, kI_21, kI_w21, kI_22, kI_w22, kI_23, kI_w23, g7.2.1, ea, ix_lt (show 2 ^ p - 1 < 2147483648 by omega) k1, show ¬ 2 ^ p - 1 < k by omega, c_bits, bc, ec, ix_eq (show rOnes p k < 2147483648 by omega) (show f < 2147483648 by omega), nI_1]
      by_cases z : rOnes p k = f
      · rw [if_pos z]; exact h2 z
      · rw [if_neg z]; exact h1 z
    unfold kDo kDq at hp
    by_cases z : rOnes p k = f
    · rw [show decide (rOnes p k = f) = true from decide_eq_true z, Bool.true_and] at hp
      rcases Bool.eq_false_or_eq_true (rCan s p (2 ^ p - 1 - k).testBit) with y | y
      · rw [if_pos y] at hp
        by_cases v : pl = a
        · rw [if_pos v] at hp
          refine S 0 (fun w => absurd z w) (fun _ => c_canBe g7 (kMk_S p12 ck) (bit_p ck) ?_)
          simp only [y, v, ↓reduceIte]; exact hp
        · rw [if_neg v] at hp
          obtain ⟨fe, h⟩ := I (pl + 1) hp
          refine S fe (fun w => absurd z w) (fun _ => c_canBe g7 (kMk_S p12 ck) (bit_p ck) ?_)
          simp only [y, v, ↓reduceIte]; exact h
      · rw [if_neg (by rw [y]; decide)] at hp
        obtain ⟨fe, h⟩ := I pl hp
        refine S fe (fun w => absurd z w) (fun _ => c_canBe g7 (kMk_S p12 ck) (bit_p ck) ?_)
        simp only [y, Bool.false_eq_true, ↓reduceIte]; exact h
    · rw [show decide (rOnes p k = f) = false from decide_eq_false z, Bool.false_and, if_neg (by decide)] at hp
      obtain ⟨fe, h⟩ := I pl hp
      exact S fe (fun _ => h) (fun w => absurd w z)
theorem ml_doubted (g7 : kC5 c s p) {a : Int32} {f : Nat} (hf : f ≤ 12) {post : Int32 → mj_M → Prop} : ∀ (m k : Nat) (pl : Int32), k + m = 2 ^ p → (∃ fe, vb_X12_doubted_65 post fe (B + 24) a (nI (2 ^ p - 1)) (nI f) pl (nI k) (kT B t, kL B l, kI B i c s, kW B r u, kI B q g w, x)) = post (kDo (kDq s p f) a m k pl) (kT B t, kL B l, kI B i c s, kW B r u, kI B q g w, x)
  | 0, k, pl, hk => by
    have kp : k = 2 ^ p := by omega
    subst kp
    have p12 := g7.1
    have hp4 : 2 ^ p ≤ 2 ^ 12 := Nat.pow_le_pow_right (by decide) p12
    have hp0 : 0 < 2 ^ p := Nat.pow_pos (by decide)
    rw [ex_succ rfl]
    simp only [vb_X12_doubted_65, mq_tag, mq_len, mq_i, mq_r, mq_l, mq_nx, mq_wi, mq_wr, mq_wl, true_and, and_true, and_false, false_and, and_self, ↓reduceIte, kT_24, kT_25, kT_26, kT_27, kT_28, kT_29, kT_30, kT_31, kT_32, kT_33, kT_34, kT_35, kT_36, kT_37, kT_38, kT_39, kT_40, kT_41, kT_42, kT_43, kT_44, kT_45, kT_46, kT_47, kT_48, kT_49, kT_50, kT_51, kT_52, kT_53, kT_54, kT_55, kT_56, kT_57, kT_58, kT_59, kT_60, kT_61, kL_25, kL_26, kL_27, kL_28, kL_29, kL_30, kL_31, kL_32, kL_33, kL_34, kL_35, kL_36, kL_37, kL_38, kL_39, kL_40, kL_41, kL_42, kL_43, kL_44, kL_45, kL_46, kL_47, kL_48, kL_49, kL_50, kL_51, kL_52, kL_53, kL_54, kL_55, kL_56, kL_57, kL_58, kL_59, kL_60, kL_61, kW_24_1, kW_24_2, kW_24_3, kW_24_4, kW_24_5, kW_24_6, kW_24_7, kW_24_8, kW_24_9, kW_24_10, kW_24_11, kW_24_12, kW_24_14, kW_24_15, kW_24_16, kW_24_17, kW_24_18, kW_24_19, kW_24_21, kW_24_22, kW_24_23, kW_24_25, kW_24_26, kW_24_27, kW_24_28, kW_24_29, kW_24_31, kW_24_32, kW_24_33, kW_24_34, kW_24_36, kW_24_37, kW_24_44, kW_24_49, kW_24_50, kW_24_51, kW_24_52, kI_24, kI_w24, kI_25, kI_w25, kI_26, kI_w26, kI_27, kI_w27, kI_28, kI_w28, kI_29, kI_w29, kI_30, kI_w30, kI_31, kI_w31, kI_32, kI_w32, kI_33, kI_w33, kI_34, kI_w34, kI_35, kI_w35, kI_36, kI_w36, kI_37, kI_w37, kI_38, kI_w38, kI_39, kI_w39, kI_40, kI_w40, kI_41, kI_w41, kI_42, kI_w42, kI_43, kI_w43, kI_44, kI_w44, kI_45, kI_w45, kI_46, kI_w46, kI_47, kI_w47, kI_48, kI_w48, kI_49, kI_w49, kI_50, kI_w50, kI_51, kI_w51, kI_52, kI_w52, kI_53, kI_w53, kI_54, kI_w54, kI_55, kI_w55, kI_56, kI_w56, kI_57, kI_w57, kI_58, kI_w58, kI_59, kI_w59, kI_60, kI_w60, kI_61, kI_w61, ix_lt (show 2 ^ p - 1 < 2147483648 by omega) (show 2 ^ p < 2147483648 by omega), show 2 ^ p - 1 < 2 ^ p by omega, ex_ite, exists_and_left, exists_const, exists_and_right, kDo]
    split <;> rfl
  | m + 1, k, pl, hk => by
    obtain ⟨p12, q1, q2, q3, _⟩ := id g7
    have hp4 : 2 ^ p ≤ 2 ^ 12 := Nat.pow_le_pow_right (by decide) p12
    have kk : k < 2 ^ p := by omega
    have k1 : k < 2147483648 := by omega
    have I := fun pl => ml_doubted g7 (a := a) hf (post := post) m (k + 1) pl (by omega)
    have bc := kOn_p p12 kk
    have ol := rOnes_le k p
    have ec := nI_cmp p12 kk
    have ck : 2 ^ p - 1 - k < 2 ^ p := by omega
    rw [ex_succ rfl]
    simp only [vb_X12_doubted_65, mq_tag, mq_len, mq_i, mq_r, mq_l, mq_nx, mq_wi, mq_wr, mq_wl, true_and, and_true, and_false, false_and, and_self, ↓reduceIte, kT_24, kT_25, kT_26, kT_27, kT_28, kT_29, kT_30, kT_31, kT_32, kT_33, kT_34, kT_35, kT_36, kT_37, kT_38, kT_39, kT_40, kT_41, kT_42, kT_43, kT_44, kT_45, kT_46, kT_47, kT_48, kT_49, kT_50, kT_51, kT_52, kT_53, kT_54, kT_55, kT_56, kT_57, kT_58, kT_59, kT_60, kT_61, kL_25, kL_26, kL_27, kL_28, kL_29, kL_30, kL_31, kL_32, kL_33, kL_34, kL_35, kL_36, kL_37, kL_38, kL_39, kL_40, kL_41, kL_42, kL_43, kL_44, kL_45, kL_46, kL_47, kL_48, kL_49, kL_50, kL_51, kL_52, kL_53, kL_54, kL_55, kL_56, kL_57, kL_58, kL_59, kL_60, kL_61, kW_24_1, kW_24_2, kW_24_3, kW_24_4, kW_24_5, kW_24_6, kW_24_7, kW_24_8, kW_24_9, kW_24_10, kW_24_11, kW_24_12, kW_24_14, kW_24_15, kW_24_16, kW_24_17, kW_24_18, kW_24_19, kW_24_21, kW_24_22, kW_24_23, kW_24_25, kW_24_26, kW_24_27, kW_24_28, kW_24_29, kW_24_31, kW_24_32, kW_24_33, kW_24_34, kW_24_36, kW_24_37, kW_24_44, kW_24_49, kW_24_50, kW_24_51, kW_24_52, kI_24, kI_w24, kI_25, kI_w25, kI_26, kI_w26, kI_27, kI_w27, kI_28, kI_w28, kI_29, kI_w29, kI_30, kI_w30, kI_31, kI_w31, kI_32, kI_w32, kI_33, kI_w33, kI_34, kI_w34, kI_35, kI_w35, kI_36, kI_w36, kI_37, kI_w37, kI_38, kI_w38, kI_39, kI_w39, kI_40, kI_w40, kI_41, kI_w41, kI_42, kI_w42, kI_43, kI_w43, kI_44, kI_w44, kI_45, kI_w45, kI_46, kI_w46, kI_47, kI_w47, kI_48, kI_w48, kI_49, kI_w49, kI_50, kI_w50, kI_51, kI_w51, kI_52, kI_w52, kI_53, kI_w53, kI_54, kI_w54, kI_55, kI_w55, kI_56, kI_w56, kI_57, kI_w57, kI_58, kI_w58, kI_59, kI_w59, kI_60, kI_w60, kI_61, kI_w61, ix_lt (show 2 ^ p - 1 < 2147483648 by omega) k1, show ¬ 2 ^ p - 1 < k by omega, m_ones, bc, ec, ix_eq (show rOnes p k < 2147483648 by omega) (show f < 2147483648 by omega), m_canBe g7 (kMk_S p12 ck), can_eq (fun k hk => (q3 k hk).2.2.2.2) (bit_p ck), nI_1, ex_ite, exists_and_left, exists_const, exists_and_right, I, kDo, kDq]
    rcases Classical.propComplete (rOnes p k = f) with z1 | z1 <;> rcases Bool.eq_false_or_eq_true (rCan s p (2 ^ p - 1 - k).testBit) with z2 | z2 <;> rcases Classical.propComplete (pl = a) with z3 | z3 <;> simp only [z1, z2, z3, true_or, or_true, false_or, or_false, not_true_eq_false, not_false_eq_true, true_and, and_true, false_and, and_false, and_self, decide_true, decide_false, ↓reduceIte, Bool.true_and, Bool.false_and, Bool.and_true, Bool.and_false, Bool.not_true, Bool.not_false, Bool.false_eq_true, Bool.true_or, Bool.or_true, Bool.false_or, Bool.or_false, reduceCtorEq, Bool.and_self, Bool.or_self, ne_eq]
theorem ml_few (g7 : kC5 c s p) {a : Int32} {post : Int32 → mj_M → Prop} : ∀ (m k few : Nat), k + m = 2 ^ p → few < 2147483648 → (∃ fe, vb_X12_doubted_15 post fe (B + 24) a (nI (2 ^ p - 1)) (nI few) (nI k) (kT B t, kL B l, kI B i c s, kW B r u, kI B q g w, x)) = (∃ fe, vb_X12_doubted_65 post fe (B + 24) a (nI (2 ^ p - 1)) (nI (kMn p (fun k => rCan s p (2 ^ p - 1 - k).testBit) m k few)) 0 0 (kT B t, kL B l, kI B i c s, kW B r u, kI B q g w, x))
  | 0, k, few, hk, hf => by
    have kp : k = 2 ^ p := by omega
    subst kp
    have p12 := g7.1
    have hp4 : 2 ^ p ≤ 2 ^ 12 := Nat.pow_le_pow_right (by decide) p12
    have hp0 : 0 < 2 ^ p := Nat.pow_pos (by decide)
    rw [ex_succ rfl]
    simp only [vb_X12_doubted_15, mq_tag, mq_len, mq_i, mq_r, mq_l, mq_nx, mq_wi, mq_wr, mq_wl, true_and, and_true, and_false, false_and, and_self, ↓reduceIte, kT_24, kT_25, kT_26, kT_27, kT_28, kT_29, kT_30, kT_31, kT_32, kT_33, kT_34, kT_35, kT_36, kT_37, kT_38, kT_39, kT_40, kT_41, kT_42, kT_43, kT_44, kT_45, kT_46, kT_47, kT_48, kT_49, kT_50, kT_51, kT_52, kT_53, kT_54, kT_55, kT_56, kT_57, kT_58, kT_59, kT_60, kT_61, kL_25, kL_26, kL_27, kL_28, kL_29, kL_30, kL_31, kL_32, kL_33, kL_34, kL_35, kL_36, kL_37, kL_38, kL_39, kL_40, kL_41, kL_42, kL_43, kL_44, kL_45, kL_46, kL_47, kL_48, kL_49, kL_50, kL_51, kL_52, kL_53, kL_54, kL_55, kL_56, kL_57, kL_58, kL_59, kL_60, kL_61, kW_24_1, kW_24_2, kW_24_3, kW_24_4, kW_24_5, kW_24_6, kW_24_7, kW_24_8, kW_24_9, kW_24_10, kW_24_11, kW_24_12, kW_24_14, kW_24_15, kW_24_16, kW_24_17, kW_24_18, kW_24_19, kW_24_21, kW_24_22, kW_24_23, kW_24_25, kW_24_26, kW_24_27, kW_24_28, kW_24_29, kW_24_31, kW_24_32, kW_24_33, kW_24_34, kW_24_36, kW_24_37, kW_24_44, kW_24_49, kW_24_50, kW_24_51, kW_24_52, kI_24, kI_w24, kI_25, kI_w25, kI_26, kI_w26, kI_27, kI_w27, kI_28, kI_w28, kI_29, kI_w29, kI_30, kI_w30, kI_31, kI_w31, kI_32, kI_w32, kI_33, kI_w33, kI_34, kI_w34, kI_35, kI_w35, kI_36, kI_w36, kI_37, kI_w37, kI_38, kI_w38, kI_39, kI_w39, kI_40, kI_w40, kI_41, kI_w41, kI_42, kI_w42, kI_43, kI_w43, kI_44, kI_w44, kI_45, kI_w45, kI_46, kI_w46, kI_47, kI_w47, kI_48, kI_w48, kI_49, kI_w49, kI_50, kI_w50, kI_51, kI_w51, kI_52, kI_w52, kI_53, kI_w53, kI_54, kI_w54, kI_55, kI_w55, kI_56, kI_w56, kI_57, kI_w57, kI_58, kI_w58, kI_59, kI_w59, kI_60, kI_w60, kI_61, kI_w61, ix_lt (show 2 ^ p - 1 < 2147483648 by omega) (show 2 ^ p < 2147483648 by omega), show 2 ^ p - 1 < 2 ^ p by omega, ex_ite, exists_and_left, exists_const, exists_and_right, kMn]
  | m + 1, k, few, hk, hf => by
    obtain ⟨p12, q1, q2, q3, _⟩ := id g7
    have hp4 : 2 ^ p ≤ 2 ^ 12 := Nat.pow_le_pow_right (by decide) p12
    have kk : k < 2 ^ p := by omega
    have k1 : k < 2147483648 := by omega
    have ol := rOnes_le k p
    have I := fun few => ml_few g7 (a := a) (post := post) m (k + 1) few (by omega)
    have bc := kOn_p p12 kk
    have ec := nI_cmp p12 kk
    have ck : 2 ^ p - 1 - k < 2 ^ p := by omega
    rw [ex_succ rfl]
    simp only [vb_X12_doubted_15, mq_tag, mq_len, mq_i, mq_r, mq_l, mq_nx, mq_wi, mq_wr, mq_wl, true_and, and_true, and_false, false_and, and_self, ↓reduceIte, kT_24, kT_25, kT_26, kT_27, kT_28, kT_29, kT_30, kT_31, kT_32, kT_33, kT_34, kT_35, kT_36, kT_37, kT_38, kT_39, kT_40, kT_41, kT_42, kT_43, kT_44, kT_45, kT_46, kT_47, kT_48, kT_49, kT_50, kT_51, kT_52, kT_53, kT_54, kT_55, kT_56, kT_57, kT_58, kT_59, kT_60, kT_61, kL_25, kL_26, kL_27, kL_28, kL_29, kL_30, kL_31, kL_32, kL_33, kL_34, kL_35, kL_36, kL_37, kL_38, kL_39, kL_40, kL_41, kL_42, kL_43, kL_44, kL_45, kL_46, kL_47, kL_48, kL_49, kL_50, kL_51, kL_52, kL_53, kL_54, kL_55, kL_56, kL_57, kL_58, kL_59, kL_60, kL_61, kW_24_1, kW_24_2, kW_24_3, kW_24_4, kW_24_5, kW_24_6, kW_24_7, kW_24_8, kW_24_9, kW_24_10, kW_24_11, kW_24_12, kW_24_14, kW_24_15, kW_24_16, kW_24_17, kW_24_18, kW_24_19, kW_24_21, kW_24_22, kW_24_23, kW_24_25, kW_24_26, kW_24_27, kW_24_28, kW_24_29, kW_24_31, kW_24_32, kW_24_33, kW_24_34, kW_24_36, kW_24_37, kW_24_44, kW_24_49, kW_24_50, kW_24_51, kW_24_52, kI_24, kI_w24, kI_25, kI_w25, kI_26, kI_w26, kI_27, kI_w27, kI_28, kI_w28, kI_29, kI_w29, kI_30, kI_w30, kI_31, kI_w31, kI_32, kI_w32, kI_33, kI_w33, kI_34, kI_w34, kI_35, kI_w35, kI_36, kI_w36, kI_37, kI_w37, kI_38, kI_w38, kI_39, kI_w39, kI_40, kI_w40, kI_41, kI_w41, kI_42, kI_w42, kI_43, kI_w43, kI_44, kI_w44, kI_45, kI_w45, kI_46, kI_w46, kI_47, kI_w47, kI_48, kI_w48, kI_49, kI_w49, kI_50, kI_w50, kI_51, kI_w51, kI_52, kI_w52, kI_53, kI_w53, kI_54, kI_w54, kI_55, kI_w55, kI_56, kI_w56, kI_57, kI_w57, kI_58, kI_w58, kI_59, kI_w59, kI_60, kI_w60, kI_61, kI_w61, ix_lt (show 2 ^ p - 1 < 2147483648 by omega) k1, show ¬ 2 ^ p - 1 < k by omega, m_ones, bc, ec, ix_le hf (show rOnes p k < 2147483648 by omega), m_canBe g7 (kMk_S p12 ck), can_eq (fun k hk => (q3 k hk).2.2.2.2) (bit_p ck), nI_1, ex_ite, exists_and_left, exists_const, exists_and_right, I few hf, I (rOnes p k) (by omega), kMn]
    by_cases z1 : few ≤ rOnes p k
    · rw [if_pos z1, if_neg (show ¬ (rOnes p k < few ∧ rCan s p (2 ^ p - 1 - k).testBit = true) from fun z => by omega)]
    · rw [if_neg z1]
      rcases Bool.eq_false_or_eq_true (rCan s p (2 ^ p - 1 - k).testBit) with z2 | z2
      · rw [if_pos z2, if_pos (show rOnes p k < few ∧ rCan s p (2 ^ p - 1 - k).testBit = true from ⟨by omega, z2⟩)]
      · rw [if_neg (by rw [z2]; decide), if_neg (show ¬ (rOnes p k < few ∧ rCan s p (2 ^ p - 1 - k).testBit = true) from fun z => by rw [z2] at z; exact absurd z.2 (by decide))]
end
section
variable {B : Nat} {M : mj_M} {K : Int32 → Int32 → mj_M → Prop}
theorem T_doubted (h : kJ B M) (a : Int32) (hK : ∀ v M', kJ B M' → K v v M') : vc_X11_doubted B a M (fun v M1 => mj_tag M1 (B + 24) = 13 ∧ vc_X12_doubted (B + 24) a M1 (fun v' M2 => K v v' M2)) := by
  obtain ⟨A, AA, AT, AN, N, t, l, u, i, c, s, r, q, g, w, x, rfl, hG⟩ := h
  obtain ⟨g1, g2, g3, g4, g5, g6, g7, g8, g9, g10⟩ := id hG
  obtain ⟨p12, q1, q2, q3, q4, q5, q6⟩ := id g7
  have ea := all_p ⟨N 6, by omega⟩
  simp only at ea
  have hp4 : 2 ^ N 6 ≤ 2 ^ 12 := Nat.pow_le_pow_right (by decide) p12
  have hp0 : 0 < 2 ^ N 6 := Nat.pow_pos (by decide)
  have D : ∀ c' f, kG B A AA AT AN N c' s t l i r u x → f ≤ 12 → rFew s (N 6) f → ∃ fe, vb_X11_doubted_13 (fun v M1 => mj_tag M1 (B + 24) = 13 ∧ vc_X12_doubted (B + 24) a M1 (fun v' M2 => K v v' M2)) fe B a 0 (nI f) 0 (kT B t, kL B l, kI B i c' s, kW B r u, kI B q g w, x) := fun c' f hG' hf hr => by
    have g7' := hG'.2.2.2.2.2.2.1
    have R := cl_doubted (B := B) (t := t) (l := l) (u := u) (i := i) (r := r) (q := q) (g := g) (w := w) (x := x) g7' (a := a) hf (post := fun v M1 => mj_tag M1 (B + 24) = 13 ∧ vc_X12_doubted (B + 24) a M1 (fun v' M2 => K v v' M2)) (2 ^ N 6) 0 0 (by omega) (by
      refine ⟨kT_24, ?_⟩
      have F := ml_few (B := B) (t := t) (l := l) (u := u) (i := i) (r := r) (q := q) (g := g) (w := w) (x := x) g7' (a := a) (post := fun v' M2 => K (kDo (kDq s (N 6) f) a (2 ^ N 6) 0 0) v' M2) (2 ^ N 6) 0 99 (by omega) (by decide)
      have E := ml_doubted (B := B) (t := t) (l := l) (u := u) (i := i) (r := r) (q := q) (g := g) (w := w) (x := x) g7' (a := a) hf (post := fun v' M2 => K (kDo (kDq s (N 6) f) a (2 ^ N 6) 0 0) v' M2) (2 ^ N 6) 0 0 (by omega)
      rw [kMn_few hr p12] at F
      rw [nI_0] at E F
      simp only [vc_X12_doubted, mq_tag, mq_len, mq_i, mq_r, mq_l, mq_nx, mq_wi, mq_wr, mq_wl, true_and, and_true, and_false, false_and, and_self, ↓reduceIte, kT_24, kT_25, kT_26, kT_27, kT_28, kT_29, kT_30, kT_31, kT_32, kT_33, kT_34, kT_35, kT_36, kT_37, kT_38, kT_39, kT_40, kT_41, kT_42, kT_43, kT_44, kT_45, kT_46, kT_47, kT_48, kT_49, kT_50, kT_51, kT_52, kT_53, kT_54, kT_55, kT_56, kT_57, kT_58, kT_59, kT_60, kT_61, kL_25, kL_26, kL_27, kL_28, kL_29, kL_30, kL_31, kL_32, kL_33, kL_34, kL_35, kL_36, kL_37, kL_38, kL_39, kL_40, kL_41, kL_42, kL_43, kL_44, kL_45, kL_46, kL_47, kL_48, kL_49, kL_50, kL_51, kL_52, kL_53, kL_54, kL_55, kL_56, kL_57, kL_58, kL_59, kL_60, kL_61, kW_24_1, kW_24_2, kW_24_3, kW_24_4, kW_24_5, kW_24_6, kW_24_7, kW_24_8, kW_24_9, kW_24_10, kW_24_11, kW_24_12, kW_24_14, kW_24_15, kW_24_16, kW_24_17, kW_24_18, kW_24_19, kW_24_21, kW_24_22, kW_24_23, kW_24_25, kW_24_26, kW_24_27, kW_24_28, kW_24_29, kW_24_31, kW_24_32, kW_24_33, kW_24_34, kW_24_36, kW_24_37, kW_24_44, kW_24_49, kW_24_50, kW_24_51, kW_24_52, kI_24, kI_w24, kI_25, kI_w25, kI_26, kI_w26, kI_27, kI_w27, kI_28, kI_w28, kI_29, kI_w29, kI_30, kI_w30, kI_31, kI_w31, kI_32, kI_w32, kI_33, kI_w33, kI_34, kI_w34, kI_35, kI_w35, kI_36, kI_w36, kI_37, kI_w37, kI_38, kI_w38, kI_39, kI_w39, kI_40, kI_w40, kI_41, kI_w41, kI_42, kI_w42, kI_43, kI_w43, kI_44, kI_w44, kI_45, kI_w45, kI_46, kI_w46, kI_47, kI_w47, kI_48, kI_w48, kI_49, kI_w49, kI_50, kI_w50, kI_51, kI_w51, kI_52, kI_w52, kI_53, kI_w53, kI_54, kI_w54, kI_55, kI_w55, kI_56, kI_w56, kI_57, kI_w57, kI_58, kI_w58, kI_59, kI_w59, kI_60, kI_w60, kI_61, kI_w61, q2, ea, true_and]
      rw [show (99 : Int32) = nI 99 by decide, F, E]
      exact hK _ _ (kJ.mk hG'))
    rw [nI_0] at R; exact R
  simp only [vc_X11_doubted, vc_X9_fewestDoubted, mq_tag, mq_len, mq_i, mq_r, mq_l, mq_nx, mq_wi, mq_wr, mq_wl, true_and, and_true, and_false, false_and, and_self, ↓reduceIte, kT_0, kT_1, kT_2, kT_3, kT_4, kT_5, kT_6, kT_7, kT_8, kT_9, kT_10, kT_11, kT_12, kT_13, kT_14, kT_15, kT_16, kT_17, kT_18, kT_19, kT_20, kT_21, kT_22, kT_23, kL_2, kL_3, kL_5, kL_10, kL_11, kL_12, kL_14, kL_15, kL_17, kL_18, kL_19, kL_20, kL_21, kL_22, kL_23, kW_0_0, kW_0_1, kW_0_2, kW_0_3, kW_0_4, kW_0_5, kW_0_6, kW_0_7, kW_1_4, kW_1_5, kW_4_0, kW_4_1, kW_9_0, kW_9_1, kW_9_2, kW_13_0, kW_13_1, kW_16_0, kW_16_1, kW_16_2, kW_16_3, kW_16_4, kW_16_5, kW_1_1, kW_1_2, kW_4_4, kW_8_0, kW_8_1, kW_w1_1, kW_w1_2, kW_w4_4, kW_w8_0, kW_w8_1, kI_0, kI_w0, kI_1, kI_w1, kI_2, kI_w2, kI_3, kI_w3, kI_4, kI_w4, kI_5, kI_w5, kI_6, kI_w6, kI_7, kI_w7, kI_8, kI_w8, kI_9, kI_w9, kI_10, kI_w10, kI_11, kI_w11, kI_12, kI_w12, kI_13, kI_w13, kI_14, kI_w14, kI_15, kI_w15, kI_16, kI_w16, kI_17, kI_w17, kI_18, kI_w18, kI_19, kI_w19, kI_20, kI_w20, kI_21, kI_w21, kI_22, kI_w22, kI_23, kI_w23, q1]
  rcases q6 with h6 | ⟨f, f1, f2, f3⟩
  · simp only [h6, ↓reduceIte]
    have R := cl_few (B := B) (t := t) (l := l) (u := u) (i := i) (r := r) (q := q) (g := g) (w := w) (x := x) g7 (post := fun r21 M22 => ∃ fe, vb_X11_doubted_13 (fun v M1 => mj_tag M1 (B + 24) = 13 ∧ vc_X12_doubted (B + 24) a M1 (fun v' M2 => K v v' M2)) fe B a 0 r21 0 M22) (2 ^ N 6) 0 (N 6) (by omega) (Nat.le_refl _) ⟨0, hp0, rCan_0, by rw [rOnes_0]; rfl⟩ (fun z hz => by omega) (fun f hf hr => by
      refine D _ f ⟨g1.to ?_ ?_ ?_ ?_, g2, g3.to ?_ ?_ ?_ ?_ ?_ ?_ ?_ ?_, g4.to ?_ ?_ ?_ ?_ ?_ ?_ ?_ ?_, g5.to ?_ ?_ ?_ ?_ ?_ ?_ ?_ ?_ ?_ ?_, g6.to ?_ ?_ ?_ ?_ ?_ ?_, ?c7, g8.to ?_ ?_, g9.to ?_ ?_, g10.to ?_ ?_⟩ (by omega) hr
      case c7 =>
        have E : ∀ j, j ≠ 16 → mj_u2 c 16 7 (nI f) j = c j := fun j hj => mj_u2_ne _ hj
        refine ⟨p12, by rw [mq_u2k (by decide)]; exact q1, q2, ?_, ?_, ?_, .inr ⟨f, by omega, mq_u2s, hr⟩⟩
        · rw [E 17 (by decide), E 18 (by decide), E 19 (by decide), E 20 (by decide)]; exact q3
        · rw [E 21 (by decide)]; exact q4
        · rw [E 22 (by decide)]; exact q5
      all_goals first | rfl | (simp [mq_u2]; done) | (funext _; simp [mq_u2]; done) | (intros; simp [mq_u2]; done) | (intros; (repeat rw [mj_u2_ne _ (by omega)]); done) | (intros; (repeat rw [mj_u2_ne _ (by decide)]); done) | (intros; have := g1.na12; simp [mq_u2]; intros; exfalso; omega) | (intro a ha; have := g1.na12; refine ⟨?_, ?_, ?_⟩ <;> simp [mq_u2] <;> (intros; exfalso; omega)))
    rw [nI_0] at R; exact R
  · have n6 : (nI f = -6) = False := ix_m6 (by omega)
    simp only [f2, n6, ↓reduceIte]
    exact D c f hG f1 f3
end

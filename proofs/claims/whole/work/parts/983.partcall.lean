/-! STAGE B: part -/
section
variable {B x n : Nat} {t l u : Nat → Nat} {i c s : Nat → Nat → Int32} {r : Nat → Nat → Nat} {q g w : Nat → Nat → Int64}
theorem m_pt (hn : s 0 13 = nI n) (h40 : n < 40) {k v z a0 : Nat} (hk : k < n) (hw : ∀ h, h < n → 0 ≤ s 6 h) (h14 : ∀ f, f < 12 → 1 ≤ s 14 f ∧ s 14 f ≤ 100) (hv : v < 4096) (ev : s 2 k = nI v) (hz : z < 4096) (ea : s 9 k = nI a0) (ha : a0 ≤ 100000) (w1 : 1 ≤ kWv s v) (w2 : kWv s v ≤ 1200) (w3 : kWv s z ≤ kWv s v) {p : Int32} {post : Int32 → mj_M → Prop} :
    (∃ fe, vb_X12_part_83 post fe (B + 24) (nI k) (nI z) p (nI n) (kT B t, kL B l, kI B i c s, kW B r u, kI B q g w, x)) = post (nI n) (kT B t, kL B l, kI B i c (kMvc (kSp s n k (s 1 k) (nI z) (s 3 k) (s 4 k) p (s 0 0) (nI (a0 * kWv s z / kWv s v)) (s 10 k) (nI a0 - nI (a0 * kWv s z / kWv s v)) (nI v &&& (nI z ^^^ (-1)))) (fun h => kCh (kSp s n k (s 1 k) (nI z) (s 3 k) (s 4 k) p (s 0 0) (nI (a0 * kWv s z / kWv s v)) (s 10 k) (nI a0 - nI (a0 * kWv s z / kWv s v)) (nI v &&& (nI z ^^^ (-1)))) (nI k) (kSp s n k (s 1 k) (nI z) (s 3 k) (s 4 k) p (s 0 0) (nI (a0 * kWv s z / kWv s v)) (s 10 k) (nI a0 - nI (a0 * kWv s z / kWv s v)) (nI v &&& (nI z ^^^ (-1))) 0 0) h && decide (¬ kSp s n k (s 1 k) (nI z) (s 3 k) (s 4 k) p (s 0 0) (nI (a0 * kWv s z / kWv s v)) (s 10 k) (nI a0 - nI (a0 * kWv s z / kWv s v)) (nI v &&& (nI z ^^^ (-1))) 2 h &&& nI z = 0)) n 0 (nI n)), kW B r u, kI B q g w, x) := by
  have k1 : k < 2147483648 := by omega
  have n1 : n < 2147483648 := by omega
  have b1 : a0 * kWv s z ≤ 100000 * 1200 := Nat.mul_le_mul ha (by omega)
  have nk : k ≠ n := by omega
  have D2 : ((nI a0).toInt64 * (nI (kWv s z)).toInt64 / (nI (kWv s v)).toInt64).toInt32 = nI (a0 * kWv s z / kWv s v) := by
    rw [ix_l (show a0 < 2147483648 by omega), ix_l (show kWv s z < 2147483648 by omega), ix_l (show kWv s v < 2147483648 by omega), lN_mul, lN_div (by omega) (by omega), lN_i]
  have LW : ((nI (kWv s v)).toInt64 = 0) = False := by
    rw [ix_l (show kWv s v < 2147483648 by omega), lN_e0 (by omega)]; exact eq_false (by omega)
  have E10 : ∀ (o f a b d sh : Int32), mj_u2 (kAdd s n o f a b p d) 9 n sh 10 k = s 10 k := fun o f a b d sh => by rw [mq_u2n (by decide), kAdd_lt (by decide) hk]
  have E9 : ∀ (o f a b d sh db : Int32), mj_u2 (mj_u2 (kAdd s n o f a b p d) 9 n sh) 10 n db 9 k = nI a0 := fun o f a b d sh db => by rw [mq_u2n (by decide), mq_u2k nk, kAdd_lt (by decide) hk, ea]
  have E2 : ∀ (o f a b d sh db am : Int32), mj_u2 (mj_u2 (mj_u2 (kAdd s n o f a b p d) 9 n sh) 10 n db) 9 k am 2 k = nI v := fun o f a b d sh db am => by rw [mq_u2n (by decide), mq_u2n (by decide), mq_u2n (by decide), kAdd_lt (by decide) hk, ev]
  rw [ex_succ rfl]
  simp only [vb_X12_part_83, mq_tag, mq_len, mq_i, mq_r, mq_l, mq_nx, mq_wi, mq_wr, mq_wl, true_and, and_true, and_false, false_and, and_self, ↓reduceIte, kT_24, kT_25, kT_26, kT_27, kT_28, kT_29, kT_30, kT_31, kT_32, kT_33, kT_34, kT_35, kT_36, kT_37, kT_38, kT_39, kT_40, kT_41, kT_42, kT_43, kT_44, kT_45, kT_46, kT_47, kT_48, kT_49, kT_50, kT_51, kT_52, kT_53, kT_54, kT_55, kT_56, kT_57, kT_58, kT_59, kT_60, kT_61, kL_25, kL_26, kL_27, kL_28, kL_29, kL_30, kL_31, kL_32, kL_33, kL_34, kL_35, kL_36, kL_37, kL_38, kL_39, kL_40, kL_41, kL_42, kL_43, kL_44, kL_45, kL_46, kL_47, kL_48, kL_49, kL_50, kL_51, kL_52, kL_53, kL_54, kL_55, kL_56, kL_57, kL_58, kL_59, kL_60, kL_61, kW_24_1, kW_24_2, kW_24_3, kW_24_4, kW_24_5, kW_24_6, kW_24_7, kW_24_8, kW_24_9, kW_24_10, kW_24_11, kW_24_12, kW_24_14, kW_24_15, kW_24_16, kW_24_17, kW_24_18, kW_24_19, kW_24_21, kW_24_22, kW_24_23, kW_24_25, kW_24_26, kW_24_27, kW_24_28, kW_24_29, kW_24_31, kW_24_32, kW_24_33, kW_24_34, kW_24_36, kW_24_37, kW_24_44, kW_24_49, kW_24_50, kW_24_51, kW_24_52, kI_24, kI_w24, kI_25, kI_w25, kI_26, kI_w26, kI_27, kI_w27, kI_28, kI_w28, kI_29, kI_w29, kI_30, kI_w30, kI_31, kI_w31, kI_32, kI_w32, kI_33, kI_w33, kI_34, kI_w34, kI_35, kI_w35, kI_36, kI_w36, kI_37, kI_w37, kI_38, kI_w38, kI_39, kI_w39, kI_40, kI_w40, kI_41, kI_w41, kI_42, kI_w42, kI_43, kI_w43, kI_44, kI_w44, kI_45, kI_w45, kI_46, kI_w46, kI_47, kI_w47, kI_48, kI_w48, kI_49, kI_w49, kI_50, kI_w50, kI_51, kI_w51, kI_52, kI_w52, kI_53, kI_w53, kI_54, kI_w54, kI_55, kI_w55, kI_56, kI_w56, kI_57, kI_w57, kI_58, kI_w58, kI_59, kI_w59, kI_60, kI_w60, kI_61, kI_w61, hn, Int32.le_refl, ix_in k1, ix_nat k1, show k < 40 by omega, m_wt h14 hz, ev, m_wt h14 hv, ea, LW, not_false_eq_true, D2, m_add hn h40, ix_in n1, ix_nat n1, h40, E10, E9, E2, exists_const]
  exact m_spl (s := kSp s n k (s 1 k) (nI z) (s 3 k) (s 4 k) p (s 0 0) (nI (a0 * kWv s z / kWv s v)) (s 10 k) (nI a0 - nI (a0 * kWv s z / kWv s v)) (nI v &&& (nI z ^^^ (-1)))) h40 (fun h hh => by
    rw [kSp_lt (by decide) hh, mq_u2n (by decide), mq_u2n (by decide)]; exact hw h hh)
end
section
variable {B : Nat} {M : mj_M} {K : Int32 → Int32 → mj_M → Prop}
theorem T_part (h : kJ B M) (a f p : Int32) (hK : ∀ v M', kJ B M' → K v v M') : vc_X11_part B a f p M (fun v M1 => mj_tag M1 (B + 24) = 13 ∧ vc_X12_part (B + 24) a f p M1 (fun v' M2 => K v v' M2)) := by
  obtain ⟨A, AA, AT, AN, N, t, l, u, i, c, s, r, q, g, w, x, rfl, hG⟩ := h
  obtain ⟨g1, g2, g3, g4, g5, g6, g7, g8, g9, g10⟩ := id hG
  have h40 := hG.n40
  have hx := g1.x62
  by_cases hv : 0 ≤ a ∧ a < nI (N 0)
  · obtain ⟨k, hk, rfl⟩ := ix_ofl (by omega) hv.1 hv.2
    have k1 : k < 2147483648 := by omega
    have e40 : (nI (N 0) = 40) = (N 0 = 40) := by rw [show (40 : Int32) = nI 40 by decide, ix_eq (by omega) (by decide)]
    rcases hG.out hk with ho | ⟨ko, hko, ho⟩
    · have ho' : s 1 k < 0 := by rw [ho]; decide
      simp only [vc_X11_part, vc_X12_part, mq_tag, mq_len, mq_i, mq_r, mq_l, mq_nx, mq_wi, mq_wr, mq_wl, true_and, and_true, and_false, false_and, and_self, ↓reduceIte, kT_0, kT_1, kT_2, kT_3, kT_4, kT_5, kT_6, kT_7, kT_8, kT_9, kT_10, kT_11, kT_12, kT_13, kT_14, kT_15, kT_16, kT_17, kT_18, kT_19, kT_20, kT_21, kT_22, kT_23, kL_2, kL_3, kL_5, kL_10, kL_11, kL_12, kL_14, kL_15, kL_17, kL_18, kL_19, kL_20, kL_21, kL_22, kL_23, kW_0_0, kW_0_1, kW_0_2, kW_0_3, kW_0_4, kW_0_5, kW_0_6, kW_0_7, kW_1_4, kW_1_5, kW_4_0, kW_4_1, kW_9_0, kW_9_1, kW_9_2, kW_13_0, kW_13_1, kW_16_0, kW_16_1, kW_16_2, kW_16_3, kW_16_4, kW_16_5, kW_1_1, kW_1_2, kW_4_4, kW_8_0, kW_8_1, kW_w1_1, kW_w1_2, kW_w4_4, kW_w8_0, kW_w8_1, kI_0, kI_w0, kI_1, kI_w1, kI_2, kI_w2, kI_3, kI_w3, kI_4, kI_w4, kI_5, kI_w5, kI_6, kI_w6, kI_7, kI_w7, kI_8, kI_w8, kI_9, kI_w9, kI_10, kI_w10, kI_11, kI_w11, kI_12, kI_w12, kI_13, kI_w13, kI_14, kI_w14, kI_15, kI_w15, kI_16, kI_w16, kI_17, kI_w17, kI_18, kI_w18, kI_19, kI_w19, kI_20, kI_w20, kI_21, kI_w21, kI_22, kI_w22, kI_23, kI_w23, kT_24, kT_25, kT_26, kT_27, kT_28, kT_29, kT_30, kT_31, kT_32, kT_33, kT_34, kT_35, kT_36, kT_37, kT_38, kT_39, kT_40, kT_41, kT_42, kT_43, kT_44, kT_45, kT_46, kT_47, kT_48, kT_49, kT_50, kT_51, kT_52, kT_53, kT_54, kT_55, kT_56, kT_57, kT_58, kT_59, kT_60, kT_61, kL_25, kL_26, kL_27, kL_28, kL_29, kL_30, kL_31, kL_32, kL_33, kL_34, kL_35, kL_36, kL_37, kL_38, kL_39, kL_40, kL_41, kL_42, kL_43, kL_44, kL_45, kL_46, kL_47, kL_48, kL_49, kL_50, kL_51, kL_52, kL_53, kL_54, kL_55, kL_56, kL_57, kL_58, kL_59, kL_60, kL_61, kW_24_1, kW_24_2, kW_24_3, kW_24_4, kW_24_5, kW_24_6, kW_24_7, kW_24_8, kW_24_9, kW_24_10, kW_24_11, kW_24_12, kW_24_14, kW_24_15, kW_24_16, kW_24_17, kW_24_18, kW_24_19, kW_24_21, kW_24_22, kW_24_23, kW_24_25, kW_24_26, kW_24_27, kW_24_28, kW_24_29, kW_24_31, kW_24_32, kW_24_33, kW_24_34, kW_24_36, kW_24_37, kW_24_44, kW_24_49, kW_24_50, kW_24_51, kW_24_52, kI_24, kI_w24, kI_25, kI_w25, kI_26, kI_w26, kI_27, kI_w27, kI_28, kI_w28, kI_29, kI_w29, kI_30, kI_w30, kI_31, kI_w31, kI_32, kI_w32, kI_33, kI_w33, kI_34, kI_w34, kI_35, kI_w35, kI_36, kI_w36, kI_37, kI_w37, kI_38, kI_w38, kI_39, kI_w39, kI_40, kI_w40, kI_41, kI_w41, kI_42, kI_w42, kI_43, kI_w43, kI_44, kI_w44, kI_45, kI_w45, kI_46, kI_w46, kI_47, kI_w47, kI_48, kI_w48, kI_49, kI_w49, kI_50, kI_w50, kI_51, kI_w51, kI_52, kI_w52, kI_53, kI_w53, kI_54, kI_w54, kI_55, kI_w55, kI_56, kI_w56, kI_57, kI_w57, kI_58, kI_w58, kI_59, kI_w59, kI_60, kI_w60, kI_61, kI_w61, c_findL g1 g2 hk, ho', m_lease hG.hn h40 hk, true_or, or_true, false_or, or_false, not_true_eq_false, not_false_eq_true, true_and, and_true, false_and, and_false, and_self, decide_true, decide_false, ↓reduceIte, Bool.true_and, Bool.false_and, Bool.and_true, Bool.and_false, Bool.not_true, Bool.not_false, Bool.false_eq_true, Bool.true_or, Bool.or_true, Bool.false_or, Bool.or_false, reduceCtorEq, Bool.and_self, Bool.or_self, ne_eq]
      exact hK _ _ (kJ.mk hG)
    · have ho1 : ko < 2147483648 := by omega
      have ho' : ¬ s 1 k < 0 := by rw [ho]; exact nI_pos ho1
      have A0 : (A k = 0) = False := g1.H0 hk
      by_cases hp : 0 ≤ p ∧ p ≤ 9
      · by_cases hf : 1 ≤ f ∧ f ≤ 4095
        · rcases Bool.eq_false_or_eq_true (kon s k (s 0 0)) with hon | hon
          · by_cases h4 : N 0 = 40
            · simp only [vc_X11_part, vc_X12_part, mq_tag, mq_len, mq_i, mq_r, mq_l, mq_nx, mq_wi, mq_wr, mq_wl, true_and, and_true, and_false, false_and, and_self, ↓reduceIte, kT_0, kT_1, kT_2, kT_3, kT_4, kT_5, kT_6, kT_7, kT_8, kT_9, kT_10, kT_11, kT_12, kT_13, kT_14, kT_15, kT_16, kT_17, kT_18, kT_19, kT_20, kT_21, kT_22, kT_23, kL_2, kL_3, kL_5, kL_10, kL_11, kL_12, kL_14, kL_15, kL_17, kL_18, kL_19, kL_20, kL_21, kL_22, kL_23, kW_0_0, kW_0_1, kW_0_2, kW_0_3, kW_0_4, kW_0_5, kW_0_6, kW_0_7, kW_1_4, kW_1_5, kW_4_0, kW_4_1, kW_9_0, kW_9_1, kW_9_2, kW_13_0, kW_13_1, kW_16_0, kW_16_1, kW_16_2, kW_16_3, kW_16_4, kW_16_5, kW_1_1, kW_1_2, kW_4_4, kW_8_0, kW_8_1, kW_w1_1, kW_w1_2, kW_w4_4, kW_w8_0, kW_w8_1, kI_0, kI_w0, kI_1, kI_w1, kI_2, kI_w2, kI_3, kI_w3, kI_4, kI_w4, kI_5, kI_w5, kI_6, kI_w6, kI_7, kI_w7, kI_8, kI_w8, kI_9, kI_w9, kI_10, kI_w10, kI_11, kI_w11, kI_12, kI_w12, kI_13, kI_w13, kI_14, kI_w14, kI_15, kI_w15, kI_16, kI_w16, kI_17, kI_w17, kI_18, kI_w18, kI_19, kI_w19, kI_20, kI_w20, kI_21, kI_w21, kI_22, kI_w22, kI_23, kI_w23, kT_24, kT_25, kT_26, kT_27, kT_28, kT_29, kT_30, kT_31, kT_32, kT_33, kT_34, kT_35, kT_36, kT_37, kT_38, kT_39, kT_40, kT_41, kT_42, kT_43, kT_44, kT_45, kT_46, kT_47, kT_48, kT_49, kT_50, kT_51, kT_52, kT_53, kT_54, kT_55, kT_56, kT_57, kT_58, kT_59, kT_60, kT_61, kL_25, kL_26, kL_27, kL_28, kL_29, kL_30, kL_31, kL_32, kL_33, kL_34, kL_35, kL_36, kL_37, kL_38, kL_39, kL_40, kL_41, kL_42, kL_43, kL_44, kL_45, kL_46, kL_47, kL_48, kL_49, kL_50, kL_51, kL_52, kL_53, kL_54, kL_55, kL_56, kL_57, kL_58, kL_59, kL_60, kL_61, kW_24_1, kW_24_2, kW_24_3, kW_24_4, kW_24_5, kW_24_6, kW_24_7, kW_24_8, kW_24_9, kW_24_10, kW_24_11, kW_24_12, kW_24_14, kW_24_15, kW_24_16, kW_24_17, kW_24_18, kW_24_19, kW_24_21, kW_24_22, kW_24_23, kW_24_25, kW_24_26, kW_24_27, kW_24_28, kW_24_29, kW_24_31, kW_24_32, kW_24_33, kW_24_34, kW_24_36, kW_24_37, kW_24_44, kW_24_49, kW_24_50, kW_24_51, kW_24_52, kI_24, kI_w24, kI_25, kI_w25, kI_26, kI_w26, kI_27, kI_w27, kI_28, kI_w28, kI_29, kI_w29, kI_30, kI_w30, kI_31, kI_w31, kI_32, kI_w32, kI_33, kI_w33, kI_34, kI_w34, kI_35, kI_w35, kI_36, kI_w36, kI_37, kI_w37, kI_38, kI_w38, kI_39, kI_w39, kI_40, kI_w40, kI_41, kI_w41, kI_42, kI_w42, kI_43, kI_w43, kI_44, kI_w44, kI_45, kI_w45, kI_46, kI_w46, kI_47, kI_w47, kI_48, kI_w48, kI_49, kI_w49, kI_50, kI_w50, kI_51, kI_w51, kI_52, kI_w52, kI_53, kI_w53, kI_54, kI_w54, kI_55, kI_w55, kI_56, kI_w56, kI_57, kI_w57, kI_58, kI_w58, kI_59, kI_w59, kI_60, kI_w60, kI_61, kI_w61, c_findL g1 g2 hk, ho', A0, c_isPerson, m_isPerson, hp, c_isFloors, m_areFloors, hf, c_on g1 hk, hG.hd, hon, m_lease hG.hn h40 hk, m_isOn (show k < 40 by omega) (hG.hw k hk), vc_X4_isFull, g3.2.1, hG.hn, e40, h4, true_or, or_true, false_or, or_false, not_true_eq_false, not_false_eq_true, true_and, and_true, false_and, and_false, and_self, decide_true, decide_false, ↓reduceIte, Bool.true_and, Bool.false_and, Bool.and_true, Bool.and_false, Bool.not_true, Bool.not_false, Bool.false_eq_true, Bool.true_or, Bool.or_true, Bool.false_or, Bool.or_false, reduceCtorEq, Bool.and_self, Bool.or_self, ne_eq]
              exact hK _ _ (kJ.mk hG)
            · by_cases hs : f &&& (s 2 k ^^^ (-1)) = 0 ∧ ¬ f = s 2 k
              · rcases Bool.eq_false_or_eq_true (kAny (kCro s (nI k) f (s 0 0)) (N 0) 0) with hy | hy
                · simp only [vc_X11_part, mq_tag, mq_len, mq_i, mq_r, mq_l, mq_nx, mq_wi, mq_wr, mq_wl, true_and, and_true, and_false, false_and, and_self, ↓reduceIte, kT_0, kT_1, kT_2, kT_3, kT_4, kT_5, kT_6, kT_7, kT_8, kT_9, kT_10, kT_11, kT_12, kT_13, kT_14, kT_15, kT_16, kT_17, kT_18, kT_19, kT_20, kT_21, kT_22, kT_23, kL_2, kL_3, kL_5, kL_10, kL_11, kL_12, kL_14, kL_15, kL_17, kL_18, kL_19, kL_20, kL_21, kL_22, kL_23, kW_0_0, kW_0_1, kW_0_2, kW_0_3, kW_0_4, kW_0_5, kW_0_6, kW_0_7, kW_1_4, kW_1_5, kW_4_0, kW_4_1, kW_9_0, kW_9_1, kW_9_2, kW_13_0, kW_13_1, kW_16_0, kW_16_1, kW_16_2, kW_16_3, kW_16_4, kW_16_5, kW_1_1, kW_1_2, kW_4_4, kW_8_0, kW_8_1, kW_w1_1, kW_w1_2, kW_w4_4, kW_w8_0, kW_w8_1, kI_0, kI_w0, kI_1, kI_w1, kI_2, kI_w2, kI_3, kI_w3, kI_4, kI_w4, kI_5, kI_w5, kI_6, kI_w6, kI_7, kI_w7, kI_8, kI_w8, kI_9, kI_w9, kI_10, kI_w10, kI_11, kI_w11, kI_12, kI_w12, kI_13, kI_w13, kI_14, kI_w14, kI_15, kI_w15, kI_16, kI_w16, kI_17, kI_w17, kI_18, kI_w18, kI_19, kI_w19, kI_20, kI_w20, kI_21, kI_w21, kI_22, kI_w22, kI_23, kI_w23, c_findL g1 g2 hk, ho', A0, c_isPerson, hp, c_isFloors, hf, c_on g1 hk, hG.hd, hon, vc_X4_isFull, g3.2.1, e40, h4, c_csp g1 g2 hk, hs, hy, true_or, or_true, false_or, or_false, not_true_eq_false, not_false_eq_true, true_and, and_true, false_and, and_false, and_self, decide_true, decide_false, ↓reduceIte, Bool.true_and, Bool.false_and, Bool.and_true, Bool.and_false, Bool.not_true, Bool.not_false, Bool.false_eq_true, Bool.true_or, Bool.or_true, Bool.false_or, Bool.or_false, reduceCtorEq, Bool.and_self, Bool.or_self, ne_eq]
                  refine ⟨kT_24, ?_⟩
                  simp only [vc_X12_part, mq_tag, mq_len, mq_i, mq_r, mq_l, mq_nx, mq_wi, mq_wr, mq_wl, true_and, and_true, and_false, false_and, and_self, ↓reduceIte, kT_24, kT_25, kT_26, kT_27, kT_28, kT_29, kT_30, kT_31, kT_32, kT_33, kT_34, kT_35, kT_36, kT_37, kT_38, kT_39, kT_40, kT_41, kT_42, kT_43, kT_44, kT_45, kT_46, kT_47, kT_48, kT_49, kT_50, kT_51, kT_52, kT_53, kT_54, kT_55, kT_56, kT_57, kT_58, kT_59, kT_60, kT_61, kL_25, kL_26, kL_27, kL_28, kL_29, kL_30, kL_31, kL_32, kL_33, kL_34, kL_35, kL_36, kL_37, kL_38, kL_39, kL_40, kL_41, kL_42, kL_43, kL_44, kL_45, kL_46, kL_47, kL_48, kL_49, kL_50, kL_51, kL_52, kL_53, kL_54, kL_55, kL_56, kL_57, kL_58, kL_59, kL_60, kL_61, kW_24_1, kW_24_2, kW_24_3, kW_24_4, kW_24_5, kW_24_6, kW_24_7, kW_24_8, kW_24_9, kW_24_10, kW_24_11, kW_24_12, kW_24_14, kW_24_15, kW_24_16, kW_24_17, kW_24_18, kW_24_19, kW_24_21, kW_24_22, kW_24_23, kW_24_25, kW_24_26, kW_24_27, kW_24_28, kW_24_29, kW_24_31, kW_24_32, kW_24_33, kW_24_34, kW_24_36, kW_24_37, kW_24_44, kW_24_49, kW_24_50, kW_24_51, kW_24_52, kI_24, kI_w24, kI_25, kI_w25, kI_26, kI_w26, kI_27, kI_w27, kI_28, kI_w28, kI_29, kI_w29, kI_30, kI_w30, kI_31, kI_w31, kI_32, kI_w32, kI_33, kI_w33, kI_34, kI_w34, kI_35, kI_w35, kI_36, kI_w36, kI_37, kI_w37, kI_38, kI_w38, kI_39, kI_w39, kI_40, kI_w40, kI_41, kI_w41, kI_42, kI_w42, kI_43, kI_w43, kI_44, kI_w44, kI_45, kI_w45, kI_46, kI_w46, kI_47, kI_w47, kI_48, kI_w48, kI_49, kI_w49, kI_50, kI_w50, kI_51, kI_w51, kI_52, kI_w52, kI_53, kI_w53, kI_54, kI_w54, kI_55, kI_w55, kI_56, kI_w56, kI_57, kI_w57, kI_58, kI_w58, kI_59, kI_w59, kI_60, kI_w60, kI_61, kI_w61, m_isPerson, hp, m_areFloors, hf, m_lease hG.hn h40 hk, ho', m_isOn (show k < 40 by omega) (hG.hw k hk), hon, hG.hn, e40, h4, ix_in k1, ix_nat k1, show k < 40 by omega, hs, true_or, or_true, false_or, or_false, not_true_eq_false, not_false_eq_true, true_and, and_true, false_and, and_false, and_self, decide_true, decide_false, ↓reduceIte, Bool.true_and, Bool.false_and, Bool.and_true, Bool.and_false, Bool.not_true, Bool.not_false, Bool.false_eq_true, Bool.true_or, Bool.or_true, Bool.false_or, Bool.or_false, reduceCtorEq, Bool.and_self, Bool.or_self, ne_eq]
                  rw [m_csp hG.hn h40 hG.hw, hy]
                  simp only [↓reduceIte]
                  exact hK _ _ (kJ.mk hG)
                · have n40 : N 0 < 40 := by omega
                  have e0 : (0 : Int32).toInt = 0 := by decide
                  have e1 : (1 : Int32).toInt = 1 := by decide
                  obtain ⟨p1, p2, p3, p4, p5, p6, p7, p8, p9, p10, p11⟩ := hG.R1 hk
                  obtain ⟨u1, u2, u3, u4, u5, u6⟩ := g8.up hk hko ho hon
                  have z0 : ∀ y : Int32, 1 ≤ y → 0 ≤ y := fun y hy => by rw [i_le] at hy ⊢; omega
                  obtain ⟨v, hv5, ev⟩ := r_of (v := s 2 k) (n := 4095) (by decide) (by decide) ⟨z0 _ p2.1, p2.2⟩
                  obtain ⟨z, hz5, rfl⟩ := r_of (v := f) (n := 4095) (by decide) (by decide) ⟨z0 _ hf.1, hf.2⟩
                  obtain ⟨a0, ha0, ea⟩ := r_of (v := s 9 k) (n := 100000) (by decide) (by decide) p8
                  have v12 : v < 4096 := by omega
                  have z12 : z < 4096 := by omega
                  have vne : v ≠ 0 := fun y => by rw [ev, y, nI_0, i_le] at p2; omega
                  have zne : z ≠ 0 := fun y => by rw [y, nI_0, i_le] at hf; omega
                  have hs1 : z &&& (4095 - v) = 0 := by
                    have := hs.1
                    rw [ev, nI_without z12 v12, ← nI_0, ix_eq (by have := Nat.and_lt_two_pow (n := 12) z (show 4095 - v < 2 ^ 12 by omega); omega) (by decide)] at this
                    exact this
                  have hs2 : z ≠ v := fun y => hs.2 (by rw [ev, y])
                  have hW : ∀ f, f < 12 → 1 ≤ s 14 f ∧ s 14 f ≤ 100 := fun f hf => (g3.2.2.2.2 f hf).2
                  obtain ⟨w1, w2, w3⟩ := kWv_b hW vne v12 z12 hs1
                  have b1 : a0 * kWv s z ≤ 100000 * 1200 := Nat.mul_le_mul ha0 (by omega)
                  have shl : a0 * kWv s z / kWv s v ≤ a0 := Nat.div_le_of_le_mul (by rw [Nat.mul_comm (kWv s v)]; exact Nat.mul_le_mul_left a0 w3)
                  have D1 : nI a0 * nI (kWv s z) / nI (kWv s v) = nI (a0 * kWv s z / kWv s v) := by rw [nI_mul, nI_div (by omega) (by omega)]
                  have W1 : (0 < nI (kWv s v)) = True := eq_true (by rw [← nI_0, ix_lt (by decide) (by omega)]; omega)
                  have W0 : (nI (kWv s v) = 0) = False := eq_false (by rw [← nI_0, ix_eq (by omega) (by decide)]; omega)
                  have tx : kT B (mj_u1 t x 4) x = 4 := (kT_o hx).trans mq_u1s
                  have x0 : (x = 0) = False := eq_false (by omega)
                  have hne : ∀ h, h < N 0 → A h ≠ x := fun h hh => by have := g1.AHx hh; omega
                  have TA : kT B (mj_u1 t x 4) (A k) = 4 := (kT_o (g1.AH hk)).trans ((mq_u1n (hne k hk)).trans (g1.tH hk))
                  have RA : ∀ (i' : Nat → Nat → Int32) (j : Nat) (v : Int32) (m : Nat), kI B (mj_u2 i' x j v) c s (A k) m = kI B i' c s (A k) m := fun i' j v m => by rw [kI_o (g1.AH hk), kI_o (g1.AH hk), mq_u2n (hne k hk)]
                  have RA0 : ∀ m, kI B (mj_u1 i x fun _ => 0) c s (A k) m = kI B i c s (A k) m := fun m => by rw [kI_o (g1.AH hk), kI_o (g1.AH hk), mq_u1n (hne k hk)]
                  have RB : ∀ (i' : Nat → Nat → Int32) (j : Nat) (v : Int32) (m : Nat), kI B (mj_u2 i' (A k) j v) c s (A k) m = if m = j then v else kI B i' c s (A k) m := fun i' j v m => by rw [kI_o (g1.AH hk), kI_o (g1.AH hk)]; simp only [mq_u2, true_and]
                  have RX : ∀ (i' : Nat → Nat → Int32) (j : Nat) (v : Int32) (m : Nat), kI B (mj_u2 i' x j v) c s x m = if m = j then v else kI B i' c s x m := fun i' j v m => by rw [kI_o hx, kI_o hx]; simp only [mq_u2, true_and]
                  have WA : ∀ (r' : Nat → Nat → Nat) (j v m : Nat), kW B (mj_u2 r' x j v) u (A k) m = kW B r' u (A k) m := fun r' j v m => by rw [kW_o (g1.AH hk), kW_o (g1.AH hk), mq_u2n (hne k hk)]
                  have WA0 : ∀ m, kW B (mj_u1 r x fun _ => 0) u (A k) m = kW B r u (A k) m := fun m => by rw [kW_o (g1.AH hk), kW_o (g1.AH hk), mq_u1n (hne k hk)]
                  simp only [vc_X11_part, mq_tag, mq_len, mq_i, mq_r, mq_l, mq_nx, mq_wi, mq_wr, mq_wl, true_and, and_true, and_false, false_and, and_self, ↓reduceIte, kT_0, kT_1, kT_2, kT_3, kT_4, kT_5, kT_6, kT_7, kT_8, kT_9, kT_10, kT_11, kT_12, kT_13, kT_14, kT_15, kT_16, kT_17, kT_18, kT_19, kT_20, kT_21, kT_22, kT_23, kL_2, kL_3, kL_5, kL_10, kL_11, kL_12, kL_14, kL_15, kL_17, kL_18, kL_19, kL_20, kL_21, kL_22, kL_23, kW_0_0, kW_0_1, kW_0_2, kW_0_3, kW_0_4, kW_0_5, kW_0_6, kW_0_7, kW_1_4, kW_1_5, kW_4_0, kW_4_1, kW_9_0, kW_9_1, kW_9_2, kW_13_0, kW_13_1, kW_16_0, kW_16_1, kW_16_2, kW_16_3, kW_16_4, kW_16_5, kW_1_1, kW_1_2, kW_4_4, kW_8_0, kW_8_1, kW_w1_1, kW_w1_2, kW_w4_4, kW_w8_0, kW_w8_1, kI_0, kI_w0, kI_1, kI_w1, kI_2, kI_w2, kI_3, kI_w3, kI_4, kI_w4, kI_5, kI_w5, kI_6, kI_w6, kI_7, kI_w7, kI_8, kI_w8, kI_9, kI_w9, kI_10, kI_w10, kI_11, kI_w11, kI_12, kI_w12, kI_13, kI_w13, kI_14, kI_w14, kI_15, kI_w15, kI_16, kI_w16, kI_17, kI_w17, kI_18, kI_w18, kI_19, kI_w19, kI_20, kI_w20, kI_21, kI_w21, kI_22, kI_w22, kI_23, kI_w23, c_findL g1 g2 hk, ho', A0, c_isPerson, hp, c_isFloors, hf, c_on g1 hk, hG.hd, hon, vc_X4_isFull, g3.2.1, e40, h4, c_csp g1 g2 hk, hs, hy, true_or, or_true, false_or, or_false, not_true_eq_false, not_false_eq_true, true_and, and_true, false_and, and_false, and_self, decide_true, decide_false, ↓reduceIte, Bool.true_and, Bool.false_and, Bool.and_true, Bool.and_false, Bool.not_true, Bool.not_false, Bool.false_eq_true, Bool.true_or, Bool.or_true, Bool.false_or, Bool.or_false, reduceCtorEq, Bool.and_self, Bool.or_self, ne_eq]
                  simp only [vc_X4_split, vb_X4_split_61, mq_tag, mq_len, mq_i, mq_r, mq_l, mq_nx, mq_wi, mq_wr, mq_wl, true_and, and_true, and_false, false_and, and_self, ↓reduceIte, kT_0, kT_1, kT_2, kT_3, kT_4, kT_5, kT_6, kT_7, kT_8, kT_9, kT_10, kT_11, kT_12, kT_13, kT_14, kT_15, kT_16, kT_17, kT_18, kT_19, kT_20, kT_21, kT_22, kT_23, kL_2, kL_3, kL_5, kL_10, kL_11, kL_12, kL_14, kL_15, kL_17, kL_18, kL_19, kL_20, kL_21, kL_22, kL_23, kW_0_0, kW_0_1, kW_0_2, kW_0_3, kW_0_4, kW_0_5, kW_0_6, kW_0_7, kW_1_4, kW_1_5, kW_4_0, kW_4_1, kW_9_0, kW_9_1, kW_9_2, kW_13_0, kW_13_1, kW_16_0, kW_16_1, kW_16_2, kW_16_3, kW_16_4, kW_16_5, kW_1_1, kW_1_2, kW_4_4, kW_8_0, kW_8_1, kW_w1_1, kW_w1_2, kW_w4_4, kW_w8_0, kW_w8_1, kI_0, kI_w0, kI_1, kI_w1, kI_2, kI_w2, kI_3, kI_w3, kI_4, kI_w4, kI_5, kI_w5, kI_6, kI_w6, kI_7, kI_w7, kI_8, kI_w8, kI_9, kI_w9, kI_10, kI_w10, kI_11, kI_w11, kI_12, kI_w12, kI_13, kI_w13, kI_14, kI_w14, kI_15, kI_w15, kI_16, kI_w16, kI_17, kI_w17, kI_18, kI_w18, kI_19, kI_w19, kI_20, kI_w20, kI_21, kI_w21, kI_22, kI_w22, kI_23, kI_w23, mq_new, forall_eq, kT_n hx, kI_n hx, kW_n hx, vc_X3_init, tx, TA, x0, not_false_eq_true, kI_wo hx, kW_wo hx, kI_wo (g1.AH hk), RA, RA0, RB, RX, WA, WA0, g1.atI hk, g1.atW hk, ho, kR_I ho1, ev, ea, hG.hd, c_wt g3.2.2.2.2 v12, c_wt g3.2.2.2.2 z12, W1, W0, D1, g2.1, Nat.reduceEqDiff, Nat.reduceAdd]
                  generalize hsh : a0 * kWv s z / kWv s v = sh at shl ⊢
                  have H1 : kCD B A AA AT AN (N 0) (N 1) (N 2) s (mj_u1 t x 4) l (mj_u2 (mj_u2 (mj_u2 (mj_u2 (mj_u2 (mj_u2 (mj_u2 (mj_u2 (mj_u1 i x fun _ => 0) x 12 (-6)) x 3 (nI z)) x 4 (s 3 k)) x 5 (s 4 k)) x 8 p) x 9 (s 0 0)) x 10 (nI sh)) x 11 (s 10 k)) (mj_u2 (mj_u1 r x fun _ => 0) x 2 (A ko)) (x + 1) :=
                    g1.alloc (fun a' h => by funext y; simp [mq_u2, mq_u1, h]) (fun a' h => by funext y; simp [mq_u2, mq_u1, h]) (fun _ _ => rfl)
                  have H3 : kCD B A AA AT AN (N 0) (N 1) (N 2) (mj_u2 (mj_u2 s 9 k (nI a0 - nI sh)) 2 k (nI v &&& (nI z ^^^ (-1)))) (mj_u1 t x 4) l (mj_u2 (mj_u2 (mj_u2 (mj_u2 (mj_u2 (mj_u2 (mj_u2 (mj_u2 (mj_u2 (mj_u2 (mj_u1 i x fun _ => 0) x 12 (-6)) x 3 (nI z)) x 4 (s 3 k)) x 5 (s 4 k)) x 8 p) x 9 (s 0 0)) x 10 (nI sh)) x 11 (s 10 k)) (A k) 10 (nI a0 - nI sh)) (A k) 3 (nI v &&& (nI z ^^^ (-1)))) (mj_u2 (mj_u1 r x fun _ => 0) x 2 (A ko)) (x + 1) :=
                    (H1.wi hk (j := 9) (by decide) (nI a0 - nI sh)).wi hk (j := 2) (by decide) (nI v &&& (nI z ^^^ (-1)))
                  rw [cl_spl H3 (y := x) (k0 := k) (f := nI z) hx mq_u1s (by rw [mq_u2n (Ne.symm (hne k hk)), mq_u2n (Ne.symm (hne k hk))]; simp [mq_u2, mq_u1]) hk (N 0) 0 _ (by omega)
                    (fun h hh => (H3.2.2.2.2.1 h hh).2.2.1) (fun h _ hh => (H3.2.2.2.2.1 h hh).2.2.2.1)]
                  rw [c_add (n := N 0) (A := A) hx mq_u1s g2.2.1 (fun h0 => ⟨g1.AH (by omega), by rw [mq_u1n (hne _ (by omega))]; exact g1.tH (by omega)⟩) g3.2.1]
                  refine ⟨kT_24, ?_⟩
                  simp only [vc_X12_part, mq_tag, mq_len, mq_i, mq_r, mq_l, mq_nx, mq_wi, mq_wr, mq_wl, true_and, and_true, and_false, false_and, and_self, ↓reduceIte, kT_24, kT_25, kT_26, kT_27, kT_28, kT_29, kT_30, kT_31, kT_32, kT_33, kT_34, kT_35, kT_36, kT_37, kT_38, kT_39, kT_40, kT_41, kT_42, kT_43, kT_44, kT_45, kT_46, kT_47, kT_48, kT_49, kT_50, kT_51, kT_52, kT_53, kT_54, kT_55, kT_56, kT_57, kT_58, kT_59, kT_60, kT_61, kL_25, kL_26, kL_27, kL_28, kL_29, kL_30, kL_31, kL_32, kL_33, kL_34, kL_35, kL_36, kL_37, kL_38, kL_39, kL_40, kL_41, kL_42, kL_43, kL_44, kL_45, kL_46, kL_47, kL_48, kL_49, kL_50, kL_51, kL_52, kL_53, kL_54, kL_55, kL_56, kL_57, kL_58, kL_59, kL_60, kL_61, kW_24_1, kW_24_2, kW_24_3, kW_24_4, kW_24_5, kW_24_6, kW_24_7, kW_24_8, kW_24_9, kW_24_10, kW_24_11, kW_24_12, kW_24_14, kW_24_15, kW_24_16, kW_24_17, kW_24_18, kW_24_19, kW_24_21, kW_24_22, kW_24_23, kW_24_25, kW_24_26, kW_24_27, kW_24_28, kW_24_29, kW_24_31, kW_24_32, kW_24_33, kW_24_34, kW_24_36, kW_24_37, kW_24_44, kW_24_49, kW_24_50, kW_24_51, kW_24_52, kI_24, kI_w24, kI_25, kI_w25, kI_26, kI_w26, kI_27, kI_w27, kI_28, kI_w28, kI_29, kI_w29, kI_30, kI_w30, kI_31, kI_w31, kI_32, kI_w32, kI_33, kI_w33, kI_34, kI_w34, kI_35, kI_w35, kI_36, kI_w36, kI_37, kI_w37, kI_38, kI_w38, kI_39, kI_w39, kI_40, kI_w40, kI_41, kI_w41, kI_42, kI_w42, kI_43, kI_w43, kI_44, kI_w44, kI_45, kI_w45, kI_46, kI_w46, kI_47, kI_w47, kI_48, kI_w48, kI_49, kI_w49, kI_50, kI_w50, kI_51, kI_w51, kI_52, kI_w52, kI_53, kI_w53, kI_54, kI_w54, kI_55, kI_w55, kI_56, kI_w56, kI_57, kI_w57, kI_58, kI_w58, kI_59, kI_w59, kI_60, kI_w60, kI_61, kI_w61, m_isPerson, hp, m_areFloors, hf, m_lease hG.hn h40 hk, ho', m_isOn (show k < 40 by omega) (hG.hw k hk), hon, hG.hn, e40, h4, ix_in k1, ix_nat k1, show k < 40 by omega, hs, true_or, or_true, false_or, or_false, not_true_eq_false, not_false_eq_true, true_and, and_true, false_and, and_false, and_self, decide_true, decide_false, ↓reduceIte, Bool.true_and, Bool.false_and, Bool.and_true, Bool.and_false, Bool.not_true, Bool.not_false, Bool.false_eq_true, Bool.true_or, Bool.or_true, Bool.false_or, Bool.or_false, reduceCtorEq, Bool.and_self, Bool.or_self, ne_eq]
                  rw [m_csp hG.hn h40 hG.hw, hy]
                  simp only [Bool.false_eq_true, ↓reduceIte]
                  rw [m_pt hG.hn n40 hk hG.hw hW v12 ev z12 ea ha0 w1 w2 w3, ho, hsh]
                  have h0n : ¬ N 0 = 0 := by omega
                  rw [if_neg h0n]
                  have kko : ko ≠ k := fun y => by obtain ⟨rk, R⟩ := hG.rk; have := (R k hk).2 ko hko ho; rw [y] at this; omega
                  generalize hfl : nI v &&& (nI z ^^^ (-1)) = fl
                  have hflr : 1 ≤ fl ∧ fl ≤ 4095 := by
                    rw [← hfl, nI_without v12 z12]
                    have q1 := and_less v12 z12 hs1 hs2
                    have q2 := Nat.and_lt_two_pow (n := 12) v (show 4095 - z < 2 ^ 12 by omega)
                    rw [show (1 : Int32) = nI 1 by decide, show (4095 : Int32) = nI 4095 by decide, ix_le (by decide) (by omega), ix_le (by omega) (by decide)]
                    omega
                  rw [nI_less shl]
                  obtain ⟨n1, n2, n3, n4, n5, n6, n7, n8, n9, n10, n11, n12⟩ := @kSp_n s (N 0) k (nI ko) (nI z) (s 3 k) (s 4 k) p (s 0 0) (nI sh) (s 10 k) (nI (a0 - sh)) fl hk
                  have SL : ∀ j h, 1 ≤ j → h < N 0 → kSp s (N 0) k (nI ko) (nI z) (s 3 k) (s 4 k) p (s 0 0) (nI sh) (s 10 k) (nI (a0 - sh)) fl j h = mj_u2 (mj_u2 s 9 k (nI (a0 - sh))) 2 k fl j h := fun j h hj hh => kSp_lt hj hh
                  have SR : ∀ j, j ≠ 2 → j ≠ 9 → j ≠ 10 → kSp s (N 0) k (nI ko) (nI z) (s 3 k) (s 4 k) p (s 0 0) (nI sh) (s 10 k) (nI (a0 - sh)) fl j = kAdd s (N 0) (nI ko) (nI z) (s 3 k) (s 4 k) p (s 0 0) j := fun j h2 h9 h10 => kSp_row h2 h9 h10
                  have SH : ∀ j, 13 ≤ j → kSp s (N 0) k (nI ko) (nI z) (s 3 k) (s 4 k) p (s 0 0) (nI sh) (s 10 k) (nI (a0 - sh)) fl j = s j := fun j hj => kSp_hi hj
                  generalize hSS : kSp s (N 0) k (nI ko) (nI z) (s 3 k) (s 4 k) p (s 0 0) (nI sh) (s 10 k) (nI (a0 - sh)) fl = SS at n1 n2 n3 n4 n5 n6 n7 n8 n9 n10 n11 n12 SL SR SH ⊢
                  have S0 : ∀ j, j ≠ 13 → SS 0 j = s 0 j := fun j hj => by rw [SR 0 (by decide) (by decide) (by decide)]; exact kAdd_0 hj
                  have E2 : ∀ h, h ≠ k → ∀ j, mj_u2 (mj_u2 s 9 k (nI (a0 - sh))) 2 k fl j h = s j h := fun h hh j => by rw [mq_u2k hh, mq_u2k hh]
                  have E1 : mj_u2 (mj_u2 s 9 k (nI (a0 - sh))) 2 k fl 1 = s 1 := by rw [mj_u2_ne _ (by decide), mj_u2_ne _ (by decide)]
                  have Eu : kun (mj_u2 (mj_u2 s 9 k (nI (a0 - sh))) 2 k fl) = kun s := kun_to (by rw [mj_u2_ne _ (by decide), mj_u2_ne _ (by decide)]) (by rw [mj_u2_ne _ (by decide), mj_u2_ne _ (by decide)]) (by rw [mj_u2_ne _ (by decide), mj_u2_ne _ (by decide)])
                  have kun0 : kCh s (nI k) (s 0 0) k = false := by
                    have : ¬ s 1 k = nI k := by rw [ho, ix_eq ho1 k1]; exact kko
                    simp only [kCh, this, true_or, or_true, false_or, or_false, not_true_eq_false, not_false_eq_true, true_and, and_true, false_and, and_false, and_self, decide_true, decide_false, ↓reduceIte, Bool.true_and, Bool.false_and, Bool.and_true, Bool.and_false, Bool.not_true, Bool.not_false, Bool.false_eq_true, Bool.true_or, Bool.or_true, Bool.false_or, Bool.or_false, reduceCtorEq, Bool.and_self, Bool.or_self, ne_eq]
                  -- the class's condition of a move
                  generalize hcd : (fun h => kCh s (nI k) (s 0 0) h && decide (s 2 h &&& (nI z ^^^ (-1)) = 0)) = cond
                  have eCc : (fun h => kCh (mj_u2 (mj_u2 s 9 k (nI (a0 - sh))) 2 k fl) (nI k) (c 1 0) h && decide (mj_u2 (mj_u2 s 9 k (nI (a0 - sh))) 2 k fl 2 h &&& (nI z ^^^ (-1)) = 0)) = cond := by
                    rw [← hcd]
                    funext h
                    have e1 : kCh (mj_u2 (mj_u2 s 9 k (nI (a0 - sh))) 2 k fl) (nI k) (c 1 0) h = kCh s (nI k) (s 0 0) h := by unfold kCh; rw [Eu, E1, hG.hd]
                    rw [e1]
                    by_cases e : h = k
                    · rw [e, kun0]; rfl
                    · rw [E2 h e]
                  rw [eCc]
                  have eC : kMvc SS (fun h => kCh SS (nI k) (SS 0 0) h && decide (¬ SS 2 h &&& nI z = 0)) (N 0) 0 (nI (N 0)) = kMvc SS cond (N 0) 0 (nI (N 0)) :=
                    kMvc_c fun h _ hh => by
                      have hh' : h < N 0 := by omega
                      have e1 : kCh SS (nI k) (SS 0 0) h = kCh s (nI k) (s 0 0) h := by
                        unfold kCh kun
                        rw [S0 0 (by decide), SL 1 h (by decide) hh', SL 6 h (by decide) hh', SL 4 h (by decide) hh', SL 5 h (by decide) hh', mq_u2n (by decide), mq_u2n (by decide), mq_u2n (by decide), mq_u2n (by decide), mq_u2n (by decide), mq_u2n (by decide), mq_u2n (by decide), mq_u2n (by decide)]
                      rw [← hcd, e1]
                      show (kCh s (nI k) (s 0 0) h && decide (¬ SS 2 h &&& nI z = 0)) = (kCh s (nI k) (s 0 0) h && decide (s 2 h &&& (nI z ^^^ (-1)) = 0))
                      cases hc : kCh s (nI k) (s 0 0) h with
                      | false => rfl
                      | true =>
                        have e : h ≠ k := fun y => by rw [y, kun0] at hc; cases hc
                        rw [SL 2 h (by decide) hh', E2 h e, Bool.true_and, Bool.true_and]
                        have cr : kCro s (nI k) (nI z) (s 0 0) h = false := by
                          cases hb : kCro s (nI k) (nI z) (s 0 0) h with
                          | false => rfl
                          | true => rw [kAny_iff.mpr ⟨h, by omega, by omega, hb⟩] at hy; cases hy
                        unfold kCro at cr
                        rw [hc, Bool.true_and, decide_eq_false_iff_not] at cr
                        obtain ⟨_, y2, _⟩ := hG.R1 hh'
                        obtain ⟨y, hy5, ey⟩ := r_of (v := s 2 h) (n := 4095) (by decide) (by decide) ⟨z0 _ y2.1, y2.2⟩
                        have yne : y ≠ 0 := fun q => by rw [ey, q, nI_0, i_le] at y2; omega
                        have y12 : y < 4096 := by omega
                        apply decide_eq_decide.mpr
                        constructor
                        · intro q1
                          by_cases q2 : s 2 h &&& (nI z ^^^ (-1)) = 0
                          · exact q2
                          · exact absurd ⟨q1, q2⟩ cr
                        · intro q1 q2
                          rw [ey, nI_and y12 z12, ← nI_0, ix_eq (by have := Nat.and_lt_two_pow (n := 12) y (show z < 2 ^ 12 by omega); omega) (by decide)] at q2
                          rw [ey, nI_without y12 z12, ← nI_0, ix_eq (by have := Nat.and_lt_two_pow (n := 12) y (show 4095 - z < 2 ^ 12 by omega); omega) (by decide)] at q1
                          exact and_or yne y12 z12 q2 q1
                  rw [eC]
                  have hmv : ∀ h, h < N 0 → cond h = true → s 1 h = nI k ∧ s 6 h = 0 ∧ h ≠ k := by
                    intro h hh e
                    rw [← hcd] at e
                    simp only [Bool.and_eq_true] at e
                    have e1 := e.1
                    have e2 := e1
                    simp only [kCh, Bool.and_eq_true, decide_eq_true_eq] at e1
                    exact ⟨e1.1, (g8.child hh hk e1.1 u1 e1.2).1, fun y => by rw [y, kun0] at e2; cases e2⟩
                  have hs2 : ∀ j, j ≠ 1 → kMvc SS cond (N 0) 0 (nI (N 0)) j = SS j := fun j hj => kMvc_n hj
                  have hs1' : ∀ h, h < N 0 → kMvc SS cond (N 0) 0 (nI (N 0)) 1 h = if cond h = true then nI (N 0) else s 1 h := fun h hh => by
                    unfold kMvc
                    rw [SL 1 h (by decide) hh, E1]
                    by_cases e : cond h = true
                    · rw [if_pos ⟨rfl, by omega, by omega, e⟩, if_pos e]
                    · rw [if_neg (fun z => e z.2.2.2), if_neg e]
                  have hs1n : kMvc SS cond (N 0) 0 (nI (N 0)) 1 (N 0) = nI ko := by
                    unfold kMvc; rw [if_neg (by omega)]; exact n1
                  have hkA : ∀ h, h < N 0 → kAny (fun h' => cond h' && decide (A h = A h')) (N 0) 0 = cond h := by
                    intro h hh
                    cases hc : cond h with
                    | true => exact kAny_iff.mpr ⟨h, by omega, by omega, by simp [hc]⟩
                    | false =>
                      cases hb : kAny (fun h' => cond h' && decide (A h = A h')) (N 0) 0 with
                      | false => rfl
                      | true =>
                        obtain ⟨h', _, q2, q3⟩ := kAny_iff.mp hb
                        simp only [Bool.and_eq_true, decide_eq_true_eq] at q3
                        have := q3.2
                        rw [g1.inj hh (by omega)] at this
                        subst this; rw [hc] at q3; exact absurd q3.1 (by decide)
                  have hkA2 : ∀ a', (∀ h, h < N 0 → a' ≠ A h) → kAny (fun h' => cond h' && decide (a' = A h')) (N 0) 0 = false := by
                    intro a' ha
                    cases hb : kAny (fun h' => cond h' && decide (a' = A h')) (N 0) 0 with
                    | false => rfl
                    | true =>
                      obtain ⟨h', _, q2, q3⟩ := kAny_iff.mp hb
                      simp only [Bool.and_eq_true, decide_eq_true_eq] at q3
                      exact absurd q3.2 (ha h' (by omega))
                  refine hK _ _ (kJ.put (q := q) (q' := mj_u1 q x fun _ => 0) hG ?C ?s0 ?s13 ?hi ?ne ?ho)
                  case s0 => intro j hj; rw [hs2 0 (by decide)]; exact S0 j hj
                  case s13 => rw [hs2 0 (by decide), SR 0 (by decide) (by decide) (by decide)]; exact kAdd_13
                  case hi => intro j hj; rw [hs2 j (by omega)]; exact SH j hj
                  case ne =>
                    intro h hh h1
                    rw [hs1' h hh]
                    split
                    · exact nI_pos' (by omega)
                    · exact h1
                  case ho =>
                    obtain ⟨_, _, _, _, q5⟩ := hG.R2 hk
                    have q6 := q5 ko hko ho
                    have S : kHo (kAdd s (N 0) (nI ko) (nI z) (s 3 k) (s 4 k) p (s 0 0)) (N 0 + 1) := g8.add n40 hf p3 hp g8.1 (.inr ⟨ko, hko, rfl, u6, q6.2.1, u4⟩)
                    have T : kHo SS (N 0 + 1) := by
                      refine S.fr2 (by rw [S0 0 (by decide), kAdd_0 (by decide)]) (fun j a b d => SR j (by omega) (by omega) (by omega)) (fun h hh => ?_)
                      by_cases e : h = N 0
                      · subst e
                        rw [n2, n7, n8, n9, n10, n11]
                        refine ⟨hf, hp, g8.1, ?_, p9, .inl rfl⟩
                        rw [show (100000 : Int32) = nI 100000 by decide, ix_le (by omega) (by decide)]
                        exact ⟨nI_pos' (by omega), by omega⟩
                      · have hh' : h < N 0 := by omega
                        rw [SL 2 h (by decide) hh', SL 7 h (by decide) hh', SL 8 h (by decide) hh', SL 9 h (by decide) hh', SL 10 h (by decide) hh', SL 11 h (by decide) hh']
                        obtain ⟨y1, y2, y3, y4, y5, y6, y7, y8, y9, y10, y11⟩ := hG.R1 hh'
                        by_cases e3 : h = k
                        · subst e3
                          rw [mq_u2s, mq_u2n (by decide), mq_u2n (by decide), mq_u2n (by decide), mq_u2n (by decide), mq_u2n (by decide), mq_u2s, mq_u2n (by decide), mq_u2n (by decide), mq_u2n (by decide), mq_u2n (by decide)]
                          refine ⟨hflr, y6, y7, ?_, y9, y10⟩
                          rw [show (100000 : Int32) = nI 100000 by decide, ix_le (by omega) (by decide)]
                          exact ⟨nI_pos' (by omega), by omega⟩
                        · rw [E2 h e3, E2 h e3, E2 h e3, E2 h e3, E2 h e3, E2 h e3]
                          exact ⟨y2, y6, y7, y8, y9, y10⟩
                    refine T.mv (m := N 0) (by omega) (by omega) (by rw [hs2 0 (by decide)]) (fun j a b => hs2 j (by omega)) ?_ ?_
                    · intro h hh
                      by_cases e : h = N 0
                      · subst e; left; rw [hs1n, n1]
                      · have hh' : h < N 0 := by omega
                        rw [hs1' h hh']
                        by_cases e2 : cond h = true
                        · right
                          obtain ⟨q1, q2, q3⟩ := hmv h hh' e2
                          obtain ⟨_, _, _, _, c5⟩ := hG.R2 hh'
                          have c6 := c5 k hk q1
                          rw [if_pos e2, SL 1 h (by decide) hh', SL 6 h (by decide) hh', SL 4 h (by decide) hh', SL 3 h (by decide) hh', E2 h q3, E2 h q3, E2 h q3, E2 h q3, n3, n4, n6, S0 0 (by decide)]
                          exact ⟨rfl, ⟨k, by omega, q1⟩, q2, c6.1, .inr u2, rfl⟩
                        · left; rw [if_neg e2, SL 1 h (by decide) hh', E1]
                    · obtain ⟨rk, R⟩ := g8.2.2.1
                      refine rk_ins n40 hko R hs1n fun h hh => ?_
                      rw [hs1' h hh]
                      by_cases e2 : cond h = true
                      · right
                        rw [if_pos e2]
                        have r1 := (R h hh).2 k hk (hmv h hh e2).1
                        have r2 := (R k hk).2 ko hko ho
                        exact ⟨rfl, by omega⟩
                      · left; rw [if_neg e2]; exact ⟨rfl, hG.out hh⟩
                  case C =>
                    refine g1.new n40 ?_ ?_ ?_ ?_ ?_ ?_ ?_ ?_
                    · intro h hh
                      have e := hne h hh
                      obtain ⟨q1, q2, _⟩ := H3.2.2.2.2.1 h hh
                      rw [nI_less shl, hfl] at q1 q2
                      refine ⟨?_, fun j a1 a2 => ?_⟩
                      · rw [mq_u2n e]; exact q1
                      · rw [mq_u2n e, hs2 j (by omega), SL j h (by omega) hh]; exact q2 j a1 a2
                    · intro h hh
                      have e := hne h hh
                      obtain ⟨_, _, q3, q4, q5⟩ := H3.2.2.2.2.1 h hh
                      rw [nI_less shl, hfl] at q4 q5
                      refine ⟨?_, ?_, ?_⟩
                      · by_cases e2 : h + 1 = N 0
                        · have e3 : h = N 0 - 1 := by omega
                          subst e3
                          rw [mq_u2s, if_pos e2]
                        · have e3 : A h ≠ A (N 0 - 1) := fun z => by rw [g1.inj hh (by omega)] at z; omega
                          rw [mq_u2n e3, if_neg e2]
                          unfold kMvr
                          rw [if_neg (by omega), q3, kP_lt (by omega)]
                      · rw [mq_u2k (by decide), hs1' h hh]
                        unfold kMvr
                        rw [hkA h hh]
                        by_cases e2 : cond h = true
                        · rw [if_pos ⟨rfl, e2⟩, if_pos e2, kR_I (by omega), mq_u1s]
                        · rw [if_neg (fun z => e2 z.2), if_neg e2, q4, E1]
                          rcases g1.V1 hh with hv' | ⟨j, hj, hv'⟩
                          · rw [kR_n hv', kR_n hv']
                          · rw [hv', kR_I (by omega), kR_I (by omega)]; exact (mq_u1n (by omega)).symm
                      · rw [mq_u2k (by decide), hs2 12 (by decide), SL 12 h (by decide) hh]
                        unfold kMvr
                        rw [if_neg (by omega)]; exact q5
                    · have e9 : ∀ y, mj_u2 (kMvr (mj_u2 (mj_u1 r x fun _ => 0) x 2 (A ko)) A cond (N 0) 0 x) (A (N 0 - 1)) 1 x x y = mj_u2 (mj_u1 r x fun _ => 0) x 2 (A ko) x y := by
                        intro y
                        rw [mq_u2n (Ne.symm (hne _ (by omega)))]
                        unfold kMvr
                        rw [hkA2 x (fun h hh => Ne.symm (hne h hh))]; simp only [true_or, or_true, false_or, or_false, not_true_eq_false, not_false_eq_true, true_and, and_true, false_and, and_false, and_self, decide_true, decide_false, ↓reduceIte, Bool.true_and, Bool.false_and, Bool.and_true, Bool.and_false, Bool.not_true, Bool.not_false, Bool.false_eq_true, Bool.true_or, Bool.or_true, Bool.false_or, Bool.or_false, reduceCtorEq, Bool.and_self, Bool.or_self, ne_eq]
                      have xk : x ≠ A k := Ne.symm (hne k hk)
                      refine ⟨mq_u2s, fun j a1 a2 => ?_, ?_, ?_, ?_⟩
                      · rw [hs2 j (by omega)]
                        obtain rfl | rfl | rfl | rfl | rfl | rfl | rfl | rfl | rfl | rfl : j = 2 ∨ j = 3 ∨ j = 4 ∨ j = 5 ∨ j = 6 ∨ j = 7 ∨ j = 8 ∨ j = 9 ∨ j = 10 ∨ j = 11 := by omega
                        all_goals simp [kfd, mq_u2, mq_u1, xk, n2, n3, n4, n5, n6, n7, n8, n9, n10, n11]
                      · rw [e9]; simp [mq_u2, mq_u1]
                      · rw [e9, hs1n, kR_I ho1, mq_u1n (by omega)]; simp [mq_u2, mq_u1]
                      · rw [e9]; simp [mq_u2, mq_u1]
                    · intro h hh
                      by_cases e : h = N 0
                      · subst e; rw [hs1n]; exact kV_I (by omega)
                      · rw [hs1' h (by omega)]
                        split
                        · exact kV_I (by omega)
                        · exact kV_up (g1.V1 (by omega)) (by omega)
                    · intro h hh; rw [hs2 12 (by decide), SL 12 h (by decide) hh, mq_u2n (by decide), mq_u2n (by decide)]; exact g1.V12 hh
                    · rw [hs2 12 (by decide), n12]; decide
                    · intro a' ha hax
                      have hak : a' ≠ A k := fun y => ha (by rw [y]; exact g1.tH hk)
                      refine ⟨?_, ?_⟩
                      · funext y; simp [mq_u2, mq_u1, hax, hak]
                      · funext y
                        have e1 : a' ≠ A (N 0 - 1) := fun z => ha (by rw [z]; exact g1.tH (by omega))
                        rw [mq_u2n e1]
                        unfold kMvr
                        rw [hkA2 a' (fun h hh z => ha (by rw [z]; exact g1.tH hh))]
                        simp [mq_u2, mq_u1, hax]
                    · intro j hj; rw [hs2 j (by omega)]; exact SH j hj
              · simp only [vc_X11_part, mq_tag, mq_len, mq_i, mq_r, mq_l, mq_nx, mq_wi, mq_wr, mq_wl, true_and, and_true, and_false, false_and, and_self, ↓reduceIte, kT_0, kT_1, kT_2, kT_3, kT_4, kT_5, kT_6, kT_7, kT_8, kT_9, kT_10, kT_11, kT_12, kT_13, kT_14, kT_15, kT_16, kT_17, kT_18, kT_19, kT_20, kT_21, kT_22, kT_23, kL_2, kL_3, kL_5, kL_10, kL_11, kL_12, kL_14, kL_15, kL_17, kL_18, kL_19, kL_20, kL_21, kL_22, kL_23, kW_0_0, kW_0_1, kW_0_2, kW_0_3, kW_0_4, kW_0_5, kW_0_6, kW_0_7, kW_1_4, kW_1_5, kW_4_0, kW_4_1, kW_9_0, kW_9_1, kW_9_2, kW_13_0, kW_13_1, kW_16_0, kW_16_1, kW_16_2, kW_16_3, kW_16_4, kW_16_5, kW_1_1, kW_1_2, kW_4_4, kW_8_0, kW_8_1, kW_w1_1, kW_w1_2, kW_w4_4, kW_w8_0, kW_w8_1, kI_0, kI_w0, kI_1, kI_w1, kI_2, kI_w2, kI_3, kI_w3, kI_4, kI_w4, kI_5, kI_w5, kI_6, kI_w6, kI_7, kI_w7, kI_8, kI_w8, kI_9, kI_w9, kI_10, kI_w10, kI_11, kI_w11, kI_12, kI_w12, kI_13, kI_w13, kI_14, kI_w14, kI_15, kI_w15, kI_16, kI_w16, kI_17, kI_w17, kI_18, kI_w18, kI_19, kI_w19, kI_20, kI_w20, kI_21, kI_w21, kI_22, kI_w22, kI_23, kI_w23, c_findL g1 g2 hk, ho', A0, c_isPerson, hp, c_isFloors, hf, c_on g1 hk, hG.hd, hon, vc_X4_isFull, g3.2.1, e40, h4, c_csp g1 g2 hk, hs, true_or, or_true, false_or, or_false, not_true_eq_false, not_false_eq_true, true_and, and_true, false_and, and_false, and_self, decide_true, decide_false, ↓reduceIte, Bool.true_and, Bool.false_and, Bool.and_true, Bool.and_false, Bool.not_true, Bool.not_false, Bool.false_eq_true, Bool.true_or, Bool.or_true, Bool.false_or, Bool.or_false, reduceCtorEq, Bool.and_self, Bool.or_self, ne_eq]
                refine ⟨kT_24, ?_⟩
                simp only [vc_X12_part, mq_tag, mq_len, mq_i, mq_r, mq_l, mq_nx, mq_wi, mq_wr, mq_wl, true_and, and_true, and_false, false_and, and_self, ↓reduceIte, kT_24, kT_25, kT_26, kT_27, kT_28, kT_29, kT_30, kT_31, kT_32, kT_33, kT_34, kT_35, kT_36, kT_37, kT_38, kT_39, kT_40, kT_41, kT_42, kT_43, kT_44, kT_45, kT_46, kT_47, kT_48, kT_49, kT_50, kT_51, kT_52, kT_53, kT_54, kT_55, kT_56, kT_57, kT_58, kT_59, kT_60, kT_61, kL_25, kL_26, kL_27, kL_28, kL_29, kL_30, kL_31, kL_32, kL_33, kL_34, kL_35, kL_36, kL_37, kL_38, kL_39, kL_40, kL_41, kL_42, kL_43, kL_44, kL_45, kL_46, kL_47, kL_48, kL_49, kL_50, kL_51, kL_52, kL_53, kL_54, kL_55, kL_56, kL_57, kL_58, kL_59, kL_60, kL_61, kW_24_1, kW_24_2, kW_24_3, kW_24_4, kW_24_5, kW_24_6, kW_24_7, kW_24_8, kW_24_9, kW_24_10, kW_24_11, kW_24_12, kW_24_14, kW_24_15, kW_24_16, kW_24_17, kW_24_18, kW_24_19, kW_24_21, kW_24_22, kW_24_23, kW_24_25, kW_24_26, kW_24_27, kW_24_28, kW_24_29, kW_24_31, kW_24_32, kW_24_33, kW_24_34, kW_24_36, kW_24_37, kW_24_44, kW_24_49, kW_24_50, kW_24_51, kW_24_52, kI_24, kI_w24, kI_25, kI_w25, kI_26, kI_w26, kI_27, kI_w27, kI_28, kI_w28, kI_29, kI_w29, kI_30, kI_w30, kI_31, kI_w31, kI_32, kI_w32, kI_33, kI_w33, kI_34, kI_w34, kI_35, kI_w35, kI_36, kI_w36, kI_37, kI_w37, kI_38, kI_w38, kI_39, kI_w39, kI_40, kI_w40, kI_41, kI_w41, kI_42, kI_w42, kI_43, kI_w43, kI_44, kI_w44, kI_45, kI_w45, kI_46, kI_w46, kI_47, kI_w47, kI_48, kI_w48, kI_49, kI_w49, kI_50, kI_w50, kI_51, kI_w51, kI_52, kI_w52, kI_53, kI_w53, kI_54, kI_w54, kI_55, kI_w55, kI_56, kI_w56, kI_57, kI_w57, kI_58, kI_w58, kI_59, kI_w59, kI_60, kI_w60, kI_61, kI_w61, m_isPerson, hp, m_areFloors, hf, m_lease hG.hn h40 hk, ho', m_isOn (show k < 40 by omega) (hG.hw k hk), hon, hG.hn, e40, h4, ix_in k1, ix_nat k1, show k < 40 by omega, true_or, or_true, false_or, or_false, not_true_eq_false, not_false_eq_true, true_and, and_true, false_and, and_false, and_self, decide_true, decide_false, ↓reduceIte, Bool.true_and, Bool.false_and, Bool.and_true, Bool.and_false, Bool.not_true, Bool.not_false, Bool.false_eq_true, Bool.true_or, Bool.or_true, Bool.false_or, Bool.or_false, reduceCtorEq, Bool.and_self, Bool.or_self, ne_eq]
                by_cases y1 : f &&& (s 2 k ^^^ (-1)) = 0
                · have y2 : f = s 2 k := by
                    by_cases y2 : f = s 2 k
                    · exact y2
                    · exact absurd ⟨y1, y2⟩ hs
                  rw [if_pos y1, if_pos y2]
                  exact hK _ _ (kJ.mk hG)
                · rw [if_neg y1]
                  exact hK _ _ (kJ.mk hG)
          · simp only [vc_X11_part, vc_X12_part, mq_tag, mq_len, mq_i, mq_r, mq_l, mq_nx, mq_wi, mq_wr, mq_wl, true_and, and_true, and_false, false_and, and_self, ↓reduceIte, kT_0, kT_1, kT_2, kT_3, kT_4, kT_5, kT_6, kT_7, kT_8, kT_9, kT_10, kT_11, kT_12, kT_13, kT_14, kT_15, kT_16, kT_17, kT_18, kT_19, kT_20, kT_21, kT_22, kT_23, kL_2, kL_3, kL_5, kL_10, kL_11, kL_12, kL_14, kL_15, kL_17, kL_18, kL_19, kL_20, kL_21, kL_22, kL_23, kW_0_0, kW_0_1, kW_0_2, kW_0_3, kW_0_4, kW_0_5, kW_0_6, kW_0_7, kW_1_4, kW_1_5, kW_4_0, kW_4_1, kW_9_0, kW_9_1, kW_9_2, kW_13_0, kW_13_1, kW_16_0, kW_16_1, kW_16_2, kW_16_3, kW_16_4, kW_16_5, kW_1_1, kW_1_2, kW_4_4, kW_8_0, kW_8_1, kW_w1_1, kW_w1_2, kW_w4_4, kW_w8_0, kW_w8_1, kI_0, kI_w0, kI_1, kI_w1, kI_2, kI_w2, kI_3, kI_w3, kI_4, kI_w4, kI_5, kI_w5, kI_6, kI_w6, kI_7, kI_w7, kI_8, kI_w8, kI_9, kI_w9, kI_10, kI_w10, kI_11, kI_w11, kI_12, kI_w12, kI_13, kI_w13, kI_14, kI_w14, kI_15, kI_w15, kI_16, kI_w16, kI_17, kI_w17, kI_18, kI_w18, kI_19, kI_w19, kI_20, kI_w20, kI_21, kI_w21, kI_22, kI_w22, kI_23, kI_w23, kT_24, kT_25, kT_26, kT_27, kT_28, kT_29, kT_30, kT_31, kT_32, kT_33, kT_34, kT_35, kT_36, kT_37, kT_38, kT_39, kT_40, kT_41, kT_42, kT_43, kT_44, kT_45, kT_46, kT_47, kT_48, kT_49, kT_50, kT_51, kT_52, kT_53, kT_54, kT_55, kT_56, kT_57, kT_58, kT_59, kT_60, kT_61, kL_25, kL_26, kL_27, kL_28, kL_29, kL_30, kL_31, kL_32, kL_33, kL_34, kL_35, kL_36, kL_37, kL_38, kL_39, kL_40, kL_41, kL_42, kL_43, kL_44, kL_45, kL_46, kL_47, kL_48, kL_49, kL_50, kL_51, kL_52, kL_53, kL_54, kL_55, kL_56, kL_57, kL_58, kL_59, kL_60, kL_61, kW_24_1, kW_24_2, kW_24_3, kW_24_4, kW_24_5, kW_24_6, kW_24_7, kW_24_8, kW_24_9, kW_24_10, kW_24_11, kW_24_12, kW_24_14, kW_24_15, kW_24_16, kW_24_17, kW_24_18, kW_24_19, kW_24_21, kW_24_22, kW_24_23, kW_24_25, kW_24_26, kW_24_27, kW_24_28, kW_24_29, kW_24_31, kW_24_32, kW_24_33, kW_24_34, kW_24_36, kW_24_37, kW_24_44, kW_24_49, kW_24_50, kW_24_51, kW_24_52, kI_24, kI_w24, kI_25, kI_w25, kI_26, kI_w26, kI_27, kI_w27, kI_28, kI_w28, kI_29, kI_w29, kI_30, kI_w30, kI_31, kI_w31, kI_32, kI_w32, kI_33, kI_w33, kI_34, kI_w34, kI_35, kI_w35, kI_36, kI_w36, kI_37, kI_w37, kI_38, kI_w38, kI_39, kI_w39, kI_40, kI_w40, kI_41, kI_w41, kI_42, kI_w42, kI_43, kI_w43, kI_44, kI_w44, kI_45, kI_w45, kI_46, kI_w46, kI_47, kI_w47, kI_48, kI_w48, kI_49, kI_w49, kI_50, kI_w50, kI_51, kI_w51, kI_52, kI_w52, kI_53, kI_w53, kI_54, kI_w54, kI_55, kI_w55, kI_56, kI_w56, kI_57, kI_w57, kI_58, kI_w58, kI_59, kI_w59, kI_60, kI_w60, kI_61, kI_w61, c_findL g1 g2 hk, ho', A0, c_isPerson, m_isPerson, hp, c_isFloors, m_areFloors, hf, c_on g1 hk, hG.hd, hon, m_lease hG.hn h40 hk, m_isOn (show k < 40 by omega) (hG.hw k hk), true_or, or_true, false_or, or_false, not_true_eq_false, not_false_eq_true, true_and, and_true, false_and, and_false, and_self, decide_true, decide_false, ↓reduceIte, Bool.true_and, Bool.false_and, Bool.and_true, Bool.and_false, Bool.not_true, Bool.not_false, Bool.false_eq_true, Bool.true_or, Bool.or_true, Bool.false_or, Bool.or_false, reduceCtorEq, Bool.and_self, Bool.or_self, ne_eq]
            exact hK _ _ (kJ.mk hG)
        · simp only [vc_X11_part, vc_X12_part, mq_tag, mq_len, mq_i, mq_r, mq_l, mq_nx, mq_wi, mq_wr, mq_wl, true_and, and_true, and_false, false_and, and_self, ↓reduceIte, kT_0, kT_1, kT_2, kT_3, kT_4, kT_5, kT_6, kT_7, kT_8, kT_9, kT_10, kT_11, kT_12, kT_13, kT_14, kT_15, kT_16, kT_17, kT_18, kT_19, kT_20, kT_21, kT_22, kT_23, kL_2, kL_3, kL_5, kL_10, kL_11, kL_12, kL_14, kL_15, kL_17, kL_18, kL_19, kL_20, kL_21, kL_22, kL_23, kW_0_0, kW_0_1, kW_0_2, kW_0_3, kW_0_4, kW_0_5, kW_0_6, kW_0_7, kW_1_4, kW_1_5, kW_4_0, kW_4_1, kW_9_0, kW_9_1, kW_9_2, kW_13_0, kW_13_1, kW_16_0, kW_16_1, kW_16_2, kW_16_3, kW_16_4, kW_16_5, kW_1_1, kW_1_2, kW_4_4, kW_8_0, kW_8_1, kW_w1_1, kW_w1_2, kW_w4_4, kW_w8_0, kW_w8_1, kI_0, kI_w0, kI_1, kI_w1, kI_2, kI_w2, kI_3, kI_w3, kI_4, kI_w4, kI_5, kI_w5, kI_6, kI_w6, kI_7, kI_w7, kI_8, kI_w8, kI_9, kI_w9, kI_10, kI_w10, kI_11, kI_w11, kI_12, kI_w12, kI_13, kI_w13, kI_14, kI_w14, kI_15, kI_w15, kI_16, kI_w16, kI_17, kI_w17, kI_18, kI_w18, kI_19, kI_w19, kI_20, kI_w20, kI_21, kI_w21, kI_22, kI_w22, kI_23, kI_w23, kT_24, kT_25, kT_26, kT_27, kT_28, kT_29, kT_30, kT_31, kT_32, kT_33, kT_34, kT_35, kT_36, kT_37, kT_38, kT_39, kT_40, kT_41, kT_42, kT_43, kT_44, kT_45, kT_46, kT_47, kT_48, kT_49, kT_50, kT_51, kT_52, kT_53, kT_54, kT_55, kT_56, kT_57, kT_58, kT_59, kT_60, kT_61, kL_25, kL_26, kL_27, kL_28, kL_29, kL_30, kL_31, kL_32, kL_33, kL_34, kL_35, kL_36, kL_37, kL_38, kL_39, kL_40, kL_41, kL_42, kL_43, kL_44, kL_45, kL_46, kL_47, kL_48, kL_49, kL_50, kL_51, kL_52, kL_53, kL_54, kL_55, kL_56, kL_57, kL_58, kL_59, kL_60, kL_61, kW_24_1, kW_24_2, kW_24_3, kW_24_4, kW_24_5, kW_24_6, kW_24_7, kW_24_8, kW_24_9, kW_24_10, kW_24_11, kW_24_12, kW_24_14, kW_24_15, kW_24_16, kW_24_17, kW_24_18, kW_24_19, kW_24_21, kW_24_22, kW_24_23, kW_24_25, kW_24_26, kW_24_27, kW_24_28, kW_24_29, kW_24_31, kW_24_32, kW_24_33, kW_24_34, kW_24_36, kW_24_37, kW_24_44, kW_24_49, kW_24_50, kW_24_51, kW_24_52, kI_24, kI_w24, kI_25, kI_w25, kI_26, kI_w26, kI_27, kI_w27, kI_28, kI_w28, kI_29, kI_w29, kI_30, kI_w30, kI_31, kI_w31, kI_32, kI_w32, kI_33, kI_w33, kI_34, kI_w34, kI_35, kI_w35, kI_36, kI_w36, kI_37, kI_w37, kI_38, kI_w38, kI_39, kI_w39, kI_40, kI_w40, kI_41, kI_w41, kI_42, kI_w42, kI_43, kI_w43, kI_44, kI_w44, kI_45, kI_w45, kI_46, kI_w46, kI_47, kI_w47, kI_48, kI_w48, kI_49, kI_w49, kI_50, kI_w50, kI_51, kI_w51, kI_52, kI_w52, kI_53, kI_w53, kI_54, kI_w54, kI_55, kI_w55, kI_56, kI_w56, kI_57, kI_w57, kI_58, kI_w58, kI_59, kI_w59, kI_60, kI_w60, kI_61, kI_w61, c_findL g1 g2 hk, ho', A0, c_isPerson, m_isPerson, hp, c_isFloors, m_areFloors, hf, m_lease hG.hn h40 hk, true_or, or_true, false_or, or_false, not_true_eq_false, not_false_eq_true, true_and, and_true, false_and, and_false, and_self, decide_true, decide_false, ↓reduceIte, Bool.true_and, Bool.false_and, Bool.and_true, Bool.and_false, Bool.not_true, Bool.not_false, Bool.false_eq_true, Bool.true_or, Bool.or_true, Bool.false_or, Bool.or_false, reduceCtorEq, Bool.and_self, Bool.or_self, ne_eq]
          exact hK _ _ (kJ.mk hG)
      · simp only [vc_X11_part, vc_X12_part, mq_tag, mq_len, mq_i, mq_r, mq_l, mq_nx, mq_wi, mq_wr, mq_wl, true_and, and_true, and_false, false_and, and_self, ↓reduceIte, kT_0, kT_1, kT_2, kT_3, kT_4, kT_5, kT_6, kT_7, kT_8, kT_9, kT_10, kT_11, kT_12, kT_13, kT_14, kT_15, kT_16, kT_17, kT_18, kT_19, kT_20, kT_21, kT_22, kT_23, kL_2, kL_3, kL_5, kL_10, kL_11, kL_12, kL_14, kL_15, kL_17, kL_18, kL_19, kL_20, kL_21, kL_22, kL_23, kW_0_0, kW_0_1, kW_0_2, kW_0_3, kW_0_4, kW_0_5, kW_0_6, kW_0_7, kW_1_4, kW_1_5, kW_4_0, kW_4_1, kW_9_0, kW_9_1, kW_9_2, kW_13_0, kW_13_1, kW_16_0, kW_16_1, kW_16_2, kW_16_3, kW_16_4, kW_16_5, kW_1_1, kW_1_2, kW_4_4, kW_8_0, kW_8_1, kW_w1_1, kW_w1_2, kW_w4_4, kW_w8_0, kW_w8_1, kI_0, kI_w0, kI_1, kI_w1, kI_2, kI_w2, kI_3, kI_w3, kI_4, kI_w4, kI_5, kI_w5, kI_6, kI_w6, kI_7, kI_w7, kI_8, kI_w8, kI_9, kI_w9, kI_10, kI_w10, kI_11, kI_w11, kI_12, kI_w12, kI_13, kI_w13, kI_14, kI_w14, kI_15, kI_w15, kI_16, kI_w16, kI_17, kI_w17, kI_18, kI_w18, kI_19, kI_w19, kI_20, kI_w20, kI_21, kI_w21, kI_22, kI_w22, kI_23, kI_w23, kT_24, kT_25, kT_26, kT_27, kT_28, kT_29, kT_30, kT_31, kT_32, kT_33, kT_34, kT_35, kT_36, kT_37, kT_38, kT_39, kT_40, kT_41, kT_42, kT_43, kT_44, kT_45, kT_46, kT_47, kT_48, kT_49, kT_50, kT_51, kT_52, kT_53, kT_54, kT_55, kT_56, kT_57, kT_58, kT_59, kT_60, kT_61, kL_25, kL_26, kL_27, kL_28, kL_29, kL_30, kL_31, kL_32, kL_33, kL_34, kL_35, kL_36, kL_37, kL_38, kL_39, kL_40, kL_41, kL_42, kL_43, kL_44, kL_45, kL_46, kL_47, kL_48, kL_49, kL_50, kL_51, kL_52, kL_53, kL_54, kL_55, kL_56, kL_57, kL_58, kL_59, kL_60, kL_61, kW_24_1, kW_24_2, kW_24_3, kW_24_4, kW_24_5, kW_24_6, kW_24_7, kW_24_8, kW_24_9, kW_24_10, kW_24_11, kW_24_12, kW_24_14, kW_24_15, kW_24_16, kW_24_17, kW_24_18, kW_24_19, kW_24_21, kW_24_22, kW_24_23, kW_24_25, kW_24_26, kW_24_27, kW_24_28, kW_24_29, kW_24_31, kW_24_32, kW_24_33, kW_24_34, kW_24_36, kW_24_37, kW_24_44, kW_24_49, kW_24_50, kW_24_51, kW_24_52, kI_24, kI_w24, kI_25, kI_w25, kI_26, kI_w26, kI_27, kI_w27, kI_28, kI_w28, kI_29, kI_w29, kI_30, kI_w30, kI_31, kI_w31, kI_32, kI_w32, kI_33, kI_w33, kI_34, kI_w34, kI_35, kI_w35, kI_36, kI_w36, kI_37, kI_w37, kI_38, kI_w38, kI_39, kI_w39, kI_40, kI_w40, kI_41, kI_w41, kI_42, kI_w42, kI_43, kI_w43, kI_44, kI_w44, kI_45, kI_w45, kI_46, kI_w46, kI_47, kI_w47, kI_48, kI_w48, kI_49, kI_w49, kI_50, kI_w50, kI_51, kI_w51, kI_52, kI_w52, kI_53, kI_w53, kI_54, kI_w54, kI_55, kI_w55, kI_56, kI_w56, kI_57, kI_w57, kI_58, kI_w58, kI_59, kI_w59, kI_60, kI_w60, kI_61, kI_w61, c_findL g1 g2 hk, ho', A0, c_isPerson, m_isPerson, hp, m_lease hG.hn h40 hk, true_or, or_true, false_or, or_false, not_true_eq_false, not_false_eq_true, true_and, and_true, false_and, and_false, and_self, decide_true, decide_false, ↓reduceIte, Bool.true_and, Bool.false_and, Bool.and_true, Bool.and_false, Bool.not_true, Bool.not_false, Bool.false_eq_true, Bool.true_or, Bool.or_true, Bool.false_or, Bool.or_false, reduceCtorEq, Bool.and_self, Bool.or_self, ne_eq]
        exact hK _ _ (kJ.mk hG)
  · simp only [vc_X11_part, vc_X12_part, mq_tag, mq_len, mq_i, mq_r, mq_l, mq_nx, mq_wi, mq_wr, mq_wl, true_and, and_true, and_false, false_and, and_self, ↓reduceIte, kT_0, kT_1, kT_2, kT_3, kT_4, kT_5, kT_6, kT_7, kT_8, kT_9, kT_10, kT_11, kT_12, kT_13, kT_14, kT_15, kT_16, kT_17, kT_18, kT_19, kT_20, kT_21, kT_22, kT_23, kL_2, kL_3, kL_5, kL_10, kL_11, kL_12, kL_14, kL_15, kL_17, kL_18, kL_19, kL_20, kL_21, kL_22, kL_23, kW_0_0, kW_0_1, kW_0_2, kW_0_3, kW_0_4, kW_0_5, kW_0_6, kW_0_7, kW_1_4, kW_1_5, kW_4_0, kW_4_1, kW_9_0, kW_9_1, kW_9_2, kW_13_0, kW_13_1, kW_16_0, kW_16_1, kW_16_2, kW_16_3, kW_16_4, kW_16_5, kW_1_1, kW_1_2, kW_4_4, kW_8_0, kW_8_1, kW_w1_1, kW_w1_2, kW_w4_4, kW_w8_0, kW_w8_1, kI_0, kI_w0, kI_1, kI_w1, kI_2, kI_w2, kI_3, kI_w3, kI_4, kI_w4, kI_5, kI_w5, kI_6, kI_w6, kI_7, kI_w7, kI_8, kI_w8, kI_9, kI_w9, kI_10, kI_w10, kI_11, kI_w11, kI_12, kI_w12, kI_13, kI_w13, kI_14, kI_w14, kI_15, kI_w15, kI_16, kI_w16, kI_17, kI_w17, kI_18, kI_w18, kI_19, kI_w19, kI_20, kI_w20, kI_21, kI_w21, kI_22, kI_w22, kI_23, kI_w23, kT_24, kT_25, kT_26, kT_27, kT_28, kT_29, kT_30, kT_31, kT_32, kT_33, kT_34, kT_35, kT_36, kT_37, kT_38, kT_39, kT_40, kT_41, kT_42, kT_43, kT_44, kT_45, kT_46, kT_47, kT_48, kT_49, kT_50, kT_51, kT_52, kT_53, kT_54, kT_55, kT_56, kT_57, kT_58, kT_59, kT_60, kT_61, kL_25, kL_26, kL_27, kL_28, kL_29, kL_30, kL_31, kL_32, kL_33, kL_34, kL_35, kL_36, kL_37, kL_38, kL_39, kL_40, kL_41, kL_42, kL_43, kL_44, kL_45, kL_46, kL_47, kL_48, kL_49, kL_50, kL_51, kL_52, kL_53, kL_54, kL_55, kL_56, kL_57, kL_58, kL_59, kL_60, kL_61, kW_24_1, kW_24_2, kW_24_3, kW_24_4, kW_24_5, kW_24_6, kW_24_7, kW_24_8, kW_24_9, kW_24_10, kW_24_11, kW_24_12, kW_24_14, kW_24_15, kW_24_16, kW_24_17, kW_24_18, kW_24_19, kW_24_21, kW_24_22, kW_24_23, kW_24_25, kW_24_26, kW_24_27, kW_24_28, kW_24_29, kW_24_31, kW_24_32, kW_24_33, kW_24_34, kW_24_36, kW_24_37, kW_24_44, kW_24_49, kW_24_50, kW_24_51, kW_24_52, kI_24, kI_w24, kI_25, kI_w25, kI_26, kI_w26, kI_27, kI_w27, kI_28, kI_w28, kI_29, kI_w29, kI_30, kI_w30, kI_31, kI_w31, kI_32, kI_w32, kI_33, kI_w33, kI_34, kI_w34, kI_35, kI_w35, kI_36, kI_w36, kI_37, kI_w37, kI_38, kI_w38, kI_39, kI_w39, kI_40, kI_w40, kI_41, kI_w41, kI_42, kI_w42, kI_43, kI_w43, kI_44, kI_w44, kI_45, kI_w45, kI_46, kI_w46, kI_47, kI_w47, kI_48, kI_w48, kI_49, kI_w49, kI_50, kI_w50, kI_51, kI_w51, kI_52, kI_w52, kI_53, kI_w53, kI_54, kI_w54, kI_55, kI_w55, kI_56, kI_w56, kI_57, kI_w57, kI_58, kI_w58, kI_59, kI_w59, kI_60, kI_w60, kI_61, kI_w61, c_findL_no g1 g2 hv, m_lease_no hG.hn h40 hv, true_or, or_true, false_or, or_false, not_true_eq_false, not_false_eq_true, true_and, and_true, false_and, and_false, and_self, decide_true, decide_false, ↓reduceIte, Bool.true_and, Bool.false_and, Bool.and_true, Bool.and_false, Bool.not_true, Bool.not_false, Bool.false_eq_true, Bool.true_or, Bool.or_true, Bool.false_or, Bool.or_false, reduceCtorEq, Bool.and_self, Bool.or_self, ne_eq]
    exact hK _ _ (kJ.mk hG)
end

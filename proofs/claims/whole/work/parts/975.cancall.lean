/-! STAGE B: can -/
theorem all_p : ∀ p : Fin 13, (1 : Int32) <<< (nI p.val &&& 31) - 1 = nI (2 ^ p.val - 1) := by decide
section
variable {B : Nat} {M : mj_M} {K : Int32 → Int32 → mj_M → Prop}
theorem T_can (h : kJ B M) (a : Int32) (hK : ∀ v M', kJ B M' → K v v M') : vc_X11_can B a M (fun v M1 => mj_tag M1 (B + 24) = 13 ∧ vc_X12_can (B + 24) a M1 (fun v' M2 => K v v' M2)) := by
  obtain ⟨A, AA, AT, AN, N, t, l, u, i, c, s, r, q, g, w, x, rfl, hG⟩ := h
  obtain ⟨g1, g2, g3, g4, g5, g6, g7, g8, g9, g10⟩ := id hG
  obtain ⟨p12, q1, q2, q3, _⟩ := id g7
  have ea := all_p ⟨N 6, by omega⟩
  simp only at ea
  have hp4 : 2 ^ N 6 ≤ 2 ^ 12 := Nat.pow_le_pow_right (by decide) p12
  have hp0 : 0 < 2 ^ N 6 := Nat.pow_pos (by decide)
  by_cases hv : 0 ≤ a ∧ a ≤ nI (2 ^ N 6 - 1)
  · obtain ⟨m, hm, rfl⟩ := r_of (n := 2 ^ N 6 - 1) (by omega) rfl hv
    have n0 : (nI m < 0) = False := ix_neg (by omega)
    have mk : kMk (nI m) (fun j => decide (j < N 6) && m.testBit j) := (kMk_p p12).mp ⟨m, by omega, rfl, fun j _ => rfl⟩
    have hS : ∀ j, (decide (j < N 6) && m.testBit j) = true → j < N 6 := fun j hj => by
      simp only [Bool.and_eq_true, decide_eq_true_eq] at hj; exact hj.1
    have eq : rCan s (N 6) (fun j => decide (j < N 6) && m.testBit j) = !kAny (fun k => (decide (k < N 6) && m.testBit k) && !kGd s (N 6) (fun j => decide (j < N 6) && m.testBit j) k) (N 6) 0 := by
      cases hc : rCan s (N 6) (fun j => decide (j < N 6) && m.testBit j) with
      | true => rw [can_good (fun k hk => (q3 k hk).2.2.2.2) hS hc]; rfl
      | false =>
        cases hk : kAny (fun k => (decide (k < N 6) && m.testBit k) && !kGd s (N 6) (fun j => decide (j < N 6) && m.testBit j) k) (N 6) 0 with
        | true => rfl
        | false =>
          have := good_can (s := s) (p := N 6) hS (fun k hk2 => by
            cases z : kGd s (N 6) (fun j => decide (j < N 6) && m.testBit j) k with
            | true => rfl
            | false =>
              have : kAny (fun k => (decide (k < N 6) && m.testBit k) && !kGd s (N 6) (fun j => decide (j < N 6) && m.testBit j) k) (N 6) 0 = true := kAny_iff.mpr ⟨k, Nat.zero_le _, by have := hS k hk2; omega, by show ((decide (k < N 6) && m.testBit k) && !kGd s (N 6) (fun j => decide (j < N 6) && m.testBit j) k) = true; rw [z]; simpa using hk2⟩
              rw [hk] at this; cases this)
          rw [hc] at this; cases this
    simp only [vc_X11_can, vc_X9_all, mq_tag, mq_len, mq_i, mq_r, mq_l, mq_nx, mq_wi, mq_wr, mq_wl, true_and, and_true, and_false, false_and, and_self, ↓reduceIte, kT_0, kT_1, kT_2, kT_3, kT_4, kT_5, kT_6, kT_7, kT_8, kT_9, kT_10, kT_11, kT_12, kT_13, kT_14, kT_15, kT_16, kT_17, kT_18, kT_19, kT_20, kT_21, kT_22, kT_23, kL_2, kL_3, kL_5, kL_10, kL_11, kL_12, kL_14, kL_15, kL_17, kL_18, kL_19, kL_20, kL_21, kL_22, kL_23, kW_0_0, kW_0_1, kW_0_2, kW_0_3, kW_0_4, kW_0_5, kW_0_6, kW_0_7, kW_1_4, kW_1_5, kW_4_0, kW_4_1, kW_9_0, kW_9_1, kW_9_2, kW_13_0, kW_13_1, kW_16_0, kW_16_1, kW_16_2, kW_16_3, kW_16_4, kW_16_5, kW_1_1, kW_1_2, kW_4_4, kW_8_0, kW_8_1, kW_w1_1, kW_w1_2, kW_w4_4, kW_w8_0, kW_w8_1, kI_0, kI_w0, kI_1, kI_w1, kI_2, kI_w2, kI_3, kI_w3, kI_4, kI_w4, kI_5, kI_w5, kI_6, kI_w6, kI_7, kI_w7, kI_8, kI_w8, kI_9, kI_w9, kI_10, kI_w10, kI_11, kI_w11, kI_12, kI_w12, kI_13, kI_w13, kI_14, kI_w14, kI_15, kI_w15, kI_16, kI_w16, kI_17, kI_w17, kI_18, kI_w18, kI_19, kI_w19, kI_20, kI_w20, kI_21, kI_w21, kI_22, kI_w22, kI_23, kI_w23, n0, q1, ea, hv.2]
    refine c_canBe g7 mk hS ?_
    have D : ∀ post : Int32 → mj_M → Prop, post (if rCan s (N 6) (fun j => decide (j < N 6) && m.testBit j) = true then 1 else 0) (kT B t, kL B l, kI B i c s, kW B r u, kI B q g w, x) → vc_X12_can (B + 24) (nI m) (kT B t, kL B l, kI B i c s, kW B r u, kI B q g w, x) post := fun post hp => by
      simp only [vc_X12_can, mq_tag, mq_len, mq_i, mq_r, mq_l, mq_nx, mq_wi, mq_wr, mq_wl, true_and, and_true, and_false, false_and, and_self, ↓reduceIte, kT_24, kT_25, kT_26, kT_27, kT_28, kT_29, kT_30, kT_31, kT_32, kT_33, kT_34, kT_35, kT_36, kT_37, kT_38, kT_39, kT_40, kT_41, kT_42, kT_43, kT_44, kT_45, kT_46, kT_47, kT_48, kT_49, kT_50, kT_51, kT_52, kT_53, kT_54, kT_55, kT_56, kT_57, kT_58, kT_59, kT_60, kT_61, kL_25, kL_26, kL_27, kL_28, kL_29, kL_30, kL_31, kL_32, kL_33, kL_34, kL_35, kL_36, kL_37, kL_38, kL_39, kL_40, kL_41, kL_42, kL_43, kL_44, kL_45, kL_46, kL_47, kL_48, kL_49, kL_50, kL_51, kL_52, kL_53, kL_54, kL_55, kL_56, kL_57, kL_58, kL_59, kL_60, kL_61, kW_24_1, kW_24_2, kW_24_3, kW_24_4, kW_24_5, kW_24_6, kW_24_7, kW_24_8, kW_24_9, kW_24_10, kW_24_11, kW_24_12, kW_24_14, kW_24_15, kW_24_16, kW_24_17, kW_24_18, kW_24_19, kW_24_21, kW_24_22, kW_24_23, kW_24_25, kW_24_26, kW_24_27, kW_24_28, kW_24_29, kW_24_31, kW_24_32, kW_24_33, kW_24_34, kW_24_36, kW_24_37, kW_24_44, kW_24_49, kW_24_50, kW_24_51, kW_24_52, kI_24, kI_w24, kI_25, kI_w25, kI_26, kI_w26, kI_27, kI_w27, kI_28, kI_w28, kI_29, kI_w29, kI_30, kI_w30, kI_31, kI_w31, kI_32, kI_w32, kI_33, kI_w33, kI_34, kI_w34, kI_35, kI_w35, kI_36, kI_w36, kI_37, kI_w37, kI_38, kI_w38, kI_39, kI_w39, kI_40, kI_w40, kI_41, kI_w41, kI_42, kI_w42, kI_43, kI_w43, kI_44, kI_w44, kI_45, kI_w45, kI_46, kI_w46, kI_47, kI_w47, kI_48, kI_w48, kI_49, kI_w49, kI_50, kI_w50, kI_51, kI_w51, kI_52, kI_w52, kI_53, kI_w53, kI_54, kI_w54, kI_55, kI_w55, kI_56, kI_w56, kI_57, kI_w57, kI_58, kI_w58, kI_59, kI_w59, kI_60, kI_w60, kI_61, kI_w61, q2, m_in (lo := 0) (hi := (1 : Int32) <<< (nI (N 6) &&& 31) - 1) (L := 0) (by decide) rfl]
      simp only [ea, hv, and_self, decide_true, ↓reduceIte, m_canBe g7 mk, ← eq]
      rcases Bool.eq_false_or_eq_true (rCan s (N 6) (fun j => decide (j < N 6) && m.testBit j)) with z | z <;> simp only [z, Bool.false_eq_true, ↓reduceIte] at hp ⊢ <;> exact hp
    rcases Bool.eq_false_or_eq_true (rCan s (N 6) (fun j => decide (j < N 6) && m.testBit j)) with z | z <;> simp only [z, Bool.false_eq_true, ↓reduceIte] at D ⊢ <;> exact ⟨kT_24, D _ (hK _ _ (kJ.mk hG))⟩
  · have C : ∀ post : Int32 → mj_M → Prop, vc_X11_can B a (kT B t, kL B l, kI B i c s, kW B r u, kI B q g w, x) post = post (-2) (kT B t, kL B l, kI B i c s, kW B r u, kI B q g w, x) := fun post => by
      by_cases z1 : a < 0
      · simp only [vc_X11_can, z1, ↓reduceIte]
      · have z2 : ¬ a ≤ nI (2 ^ N 6 - 1) := fun y => hv ⟨Int32.not_lt.mp z1, y⟩
        simp only [vc_X11_can, vc_X9_all, mq_tag, mq_len, mq_i, mq_r, mq_l, mq_nx, mq_wi, mq_wr, mq_wl, true_and, and_true, and_false, false_and, and_self, ↓reduceIte, kT_0, kT_1, kT_2, kT_3, kT_4, kT_5, kT_6, kT_7, kT_8, kT_9, kT_10, kT_11, kT_12, kT_13, kT_14, kT_15, kT_16, kT_17, kT_18, kT_19, kT_20, kT_21, kT_22, kT_23, kL_2, kL_3, kL_5, kL_10, kL_11, kL_12, kL_14, kL_15, kL_17, kL_18, kL_19, kL_20, kL_21, kL_22, kL_23, kW_0_0, kW_0_1, kW_0_2, kW_0_3, kW_0_4, kW_0_5, kW_0_6, kW_0_7, kW_1_4, kW_1_5, kW_4_0, kW_4_1, kW_9_0, kW_9_1, kW_9_2, kW_13_0, kW_13_1, kW_16_0, kW_16_1, kW_16_2, kW_16_3, kW_16_4, kW_16_5, kW_1_1, kW_1_2, kW_4_4, kW_8_0, kW_8_1, kW_w1_1, kW_w1_2, kW_w4_4, kW_w8_0, kW_w8_1, kI_0, kI_w0, kI_1, kI_w1, kI_2, kI_w2, kI_3, kI_w3, kI_4, kI_w4, kI_5, kI_w5, kI_6, kI_w6, kI_7, kI_w7, kI_8, kI_w8, kI_9, kI_w9, kI_10, kI_w10, kI_11, kI_w11, kI_12, kI_w12, kI_13, kI_w13, kI_14, kI_w14, kI_15, kI_w15, kI_16, kI_w16, kI_17, kI_w17, kI_18, kI_w18, kI_19, kI_w19, kI_20, kI_w20, kI_21, kI_w21, kI_22, kI_w22, kI_23, kI_w23, z1, q1, ea, z2]
    rw [C]
    refine ⟨kT_24, ?_⟩
    simp only [vc_X12_can, mq_tag, mq_len, mq_i, mq_r, mq_l, mq_nx, mq_wi, mq_wr, mq_wl, true_and, and_true, and_false, false_and, and_self, ↓reduceIte, kT_24, kT_25, kT_26, kT_27, kT_28, kT_29, kT_30, kT_31, kT_32, kT_33, kT_34, kT_35, kT_36, kT_37, kT_38, kT_39, kT_40, kT_41, kT_42, kT_43, kT_44, kT_45, kT_46, kT_47, kT_48, kT_49, kT_50, kT_51, kT_52, kT_53, kT_54, kT_55, kT_56, kT_57, kT_58, kT_59, kT_60, kT_61, kL_25, kL_26, kL_27, kL_28, kL_29, kL_30, kL_31, kL_32, kL_33, kL_34, kL_35, kL_36, kL_37, kL_38, kL_39, kL_40, kL_41, kL_42, kL_43, kL_44, kL_45, kL_46, kL_47, kL_48, kL_49, kL_50, kL_51, kL_52, kL_53, kL_54, kL_55, kL_56, kL_57, kL_58, kL_59, kL_60, kL_61, kW_24_1, kW_24_2, kW_24_3, kW_24_4, kW_24_5, kW_24_6, kW_24_7, kW_24_8, kW_24_9, kW_24_10, kW_24_11, kW_24_12, kW_24_14, kW_24_15, kW_24_16, kW_24_17, kW_24_18, kW_24_19, kW_24_21, kW_24_22, kW_24_23, kW_24_25, kW_24_26, kW_24_27, kW_24_28, kW_24_29, kW_24_31, kW_24_32, kW_24_33, kW_24_34, kW_24_36, kW_24_37, kW_24_44, kW_24_49, kW_24_50, kW_24_51, kW_24_52, kI_24, kI_w24, kI_25, kI_w25, kI_26, kI_w26, kI_27, kI_w27, kI_28, kI_w28, kI_29, kI_w29, kI_30, kI_w30, kI_31, kI_w31, kI_32, kI_w32, kI_33, kI_w33, kI_34, kI_w34, kI_35, kI_w35, kI_36, kI_w36, kI_37, kI_w37, kI_38, kI_w38, kI_39, kI_w39, kI_40, kI_w40, kI_41, kI_w41, kI_42, kI_w42, kI_43, kI_w43, kI_44, kI_w44, kI_45, kI_w45, kI_46, kI_w46, kI_47, kI_w47, kI_48, kI_w48, kI_49, kI_w49, kI_50, kI_w50, kI_51, kI_w51, kI_52, kI_w52, kI_53, kI_w53, kI_54, kI_w54, kI_55, kI_w55, kI_56, kI_w56, kI_57, kI_w57, kI_58, kI_w58, kI_59, kI_w59, kI_60, kI_w60, kI_61, kI_w61, q2, m_in (lo := 0) (hi := (1 : Int32) <<< (nI (N 6) &&& 31) - 1) (L := 0) (by decide) rfl]
    simp only [ea, hv, true_or, or_true, false_or, or_false, not_true_eq_false, not_false_eq_true, true_and, and_true, false_and, and_false, and_self, decide_true, decide_false, ↓reduceIte, Bool.true_and, Bool.false_and, Bool.and_true, Bool.and_false, Bool.not_true, Bool.not_false, Bool.false_eq_true, Bool.true_or, Bool.or_true, Bool.false_or, Bool.or_false, reduceCtorEq, Bool.and_self, Bool.or_self, ne_eq]
    exact hK _ _ (kJ.mk hG)
end

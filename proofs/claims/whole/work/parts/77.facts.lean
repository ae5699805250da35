/-! STAGE B: act; which act is in force; facts -/
section
variable {B : Nat} {M : mj_M} {K : Int32 → Int32 → mj_M → Prop}
theorem T_act (h : kJ B M) (a b : Int32) (hK : ∀ v M', kJ B M' → K v v M') : vc_X11_act B a b M (fun v M1 => mj_tag M1 (B + 24) = 13 ∧ vc_X12_act (B + 24) a b M1 (fun v' M2 => K v v' M2)) := by
  obtain ⟨A, AA, AT, AN, N, t, l, u, i, c, s, r, q, g, w, x, rfl, hG⟩ := h
  obtain ⟨g1, g2, g3, g4, g5, g6, g7, g8, g9, g10⟩ := id hG
  have na12 := g1.na12
  have hx := g1.x62
  have hx1 : B + 62 ≤ x + 1 := by omega
  obtain ⟨m48, c42, s17, sg, r1, r2, r3, r4⟩ := id g4
  have h12 : (12 : Int32) = nI 12 := by decide
  have eF : gF (c 5) (N 3) 0 0 0 = gF (fun k => s 16 (576 + k)) (N 3) 0 0 0 := gF_to _ _ _ _ fun j _ hj => sg j (by omega)
  by_cases ha : 0 ≤ a ∧ a ≤ 3
  · by_cases hb : 0 ≤ b ∧ b ≤ 73000
    · by_cases hf : N 1 = 12
      · have e1 : nI (N 1) = 12 := by rw [hf]; decide
        simp only [vc_X11_act, vc_X12_act, mq_tag, mq_len, mq_i, mq_r, mq_l, mq_nx, mq_wi, mq_wr, mq_wl, true_and, and_true, and_false, false_and, and_self, ↓reduceIte, kT_0, kT_1, kT_2, kT_3, kT_4, kT_5, kT_6, kT_7, kT_8, kT_9, kT_10, kT_11, kT_12, kT_13, kT_14, kT_15, kT_16, kT_17, kT_18, kT_19, kT_20, kT_21, kT_22, kT_23, kL_2, kL_3, kL_5, kL_10, kL_11, kL_12, kL_14, kL_15, kL_17, kL_18, kL_19, kL_20, kL_21, kL_22, kL_23, kW_0_0, kW_0_1, kW_0_2, kW_0_3, kW_0_4, kW_0_5, kW_0_6, kW_0_7, kW_1_4, kW_1_5, kW_4_0, kW_4_1, kW_9_0, kW_9_1, kW_9_2, kW_13_0, kW_13_1, kW_16_0, kW_16_1, kW_16_2, kW_16_3, kW_16_4, kW_16_5, kW_1_1, kW_1_2, kW_4_4, kW_8_0, kW_8_1, kW_w1_1, kW_w1_2, kW_w4_4, kW_w8_0, kW_w8_1, kI_0, kI_w0, kI_1, kI_w1, kI_2, kI_w2, kI_3, kI_w3, kI_4, kI_w4, kI_5, kI_w5, kI_6, kI_w6, kI_7, kI_w7, kI_8, kI_w8, kI_9, kI_w9, kI_10, kI_w10, kI_11, kI_w11, kI_12, kI_w12, kI_13, kI_w13, kI_14, kI_w14, kI_15, kI_w15, kI_16, kI_w16, kI_17, kI_w17, kI_18, kI_w18, kI_19, kI_w19, kI_20, kI_w20, kI_21, kI_w21, kI_22, kI_w22, kI_23, kI_w23, kT_24, kT_25, kT_26, kT_27, kT_28, kT_29, kT_30, kT_31, kT_32, kT_33, kT_34, kT_35, kT_36, kT_37, kT_38, kT_39, kT_40, kT_41, kT_42, kT_43, kT_44, kT_45, kT_46, kT_47, kT_48, kT_49, kT_50, kT_51, kT_52, kT_53, kT_54, kT_55, kT_56, kT_57, kT_58, kT_59, kT_60, kT_61, kL_25, kL_26, kL_27, kL_28, kL_29, kL_30, kL_31, kL_32, kL_33, kL_34, kL_35, kL_36, kL_37, kL_38, kL_39, kL_40, kL_41, kL_42, kL_43, kL_44, kL_45, kL_46, kL_47, kL_48, kL_49, kL_50, kL_51, kL_52, kL_53, kL_54, kL_55, kL_56, kL_57, kL_58, kL_59, kL_60, kL_61, kW_24_1, kW_24_2, kW_24_3, kW_24_4, kW_24_5, kW_24_6, kW_24_7, kW_24_8, kW_24_9, kW_24_10, kW_24_11, kW_24_12, kW_24_14, kW_24_15, kW_24_16, kW_24_17, kW_24_18, kW_24_19, kW_24_21, kW_24_22, kW_24_23, kW_24_25, kW_24_26, kW_24_27, kW_24_28, kW_24_29, kW_24_31, kW_24_32, kW_24_33, kW_24_34, kW_24_36, kW_24_37, kW_24_44, kW_24_49, kW_24_50, kW_24_51, kW_24_52, kI_24, kI_w24, kI_25, kI_w25, kI_26, kI_w26, kI_27, kI_w27, kI_28, kI_w28, kI_29, kI_w29, kI_30, kI_w30, kI_31, kI_w31, kI_32, kI_w32, kI_33, kI_w33, kI_34, kI_w34, kI_35, kI_w35, kI_36, kI_w36, kI_37, kI_w37, kI_38, kI_w38, kI_39, kI_w39, kI_40, kI_w40, kI_41, kI_w41, kI_42, kI_w42, kI_43, kI_w43, kI_44, kI_w44, kI_45, kI_w45, kI_46, kI_w46, kI_47, kI_w47, kI_48, kI_w48, kI_49, kI_w49, kI_50, kI_w50, kI_51, kI_w51, kI_52, kI_w52, kI_53, kI_w53, kI_54, kI_w54, kI_55, kI_w55, kI_56, kI_w56, kI_57, kI_w57, kI_58, kI_w58, kI_59, kI_w59, kI_60, kI_w60, kI_61, kI_w61, c_isKind, m_isKind, c_isDay, m_isDay, ha, hb, decide_true, r1, r2, e1]
        exact hK _ _ (kJ.mk hG)
      · have hlt : N 1 < 12 := by omega
        have e1 : (nI (N 1) = 12) = False := by rw [h12, ix_eq (by omega) (by decide)]; exact eq_false hf
        have e1' : (nI (N 1) = nI 12) = False := by rw [ix_eq (by omega) (by decide)]; exact eq_false hf
        simp only [vc_X11_act, mq_tag, mq_len, mq_i, mq_r, mq_l, mq_nx, mq_wi, mq_wr, mq_wl, true_and, and_true, and_false, false_and, and_self, ↓reduceIte, kT_0, kT_1, kT_2, kT_3, kT_4, kT_5, kT_6, kT_7, kT_8, kT_9, kT_10, kT_11, kT_12, kT_13, kT_14, kT_15, kT_16, kT_17, kT_18, kT_19, kT_20, kT_21, kT_22, kT_23, kL_2, kL_3, kL_5, kL_10, kL_11, kL_12, kL_14, kL_15, kL_17, kL_18, kL_19, kL_20, kL_21, kL_22, kL_23, kW_0_0, kW_0_1, kW_0_2, kW_0_3, kW_0_4, kW_0_5, kW_0_6, kW_0_7, kW_1_4, kW_1_5, kW_4_0, kW_4_1, kW_9_0, kW_9_1, kW_9_2, kW_13_0, kW_13_1, kW_16_0, kW_16_1, kW_16_2, kW_16_3, kW_16_4, kW_16_5, kW_1_1, kW_1_2, kW_4_4, kW_8_0, kW_8_1, kW_w1_1, kW_w1_2, kW_w4_4, kW_w8_0, kW_w8_1, kI_0, kI_w0, kI_1, kI_w1, kI_2, kI_w2, kI_3, kI_w3, kI_4, kI_w4, kI_5, kI_w5, kI_6, kI_w6, kI_7, kI_w7, kI_8, kI_w8, kI_9, kI_w9, kI_10, kI_w10, kI_11, kI_w11, kI_12, kI_w12, kI_13, kI_w13, kI_14, kI_w14, kI_15, kI_w15, kI_16, kI_w16, kI_17, kI_w17, kI_18, kI_w18, kI_19, kI_w19, kI_20, kI_w20, kI_21, kI_w21, kI_22, kI_w22, kI_23, kI_w23, c_isKind, c_isDay, ha, hb, decide_true, r1, e1]
        refine c_fp m48 c42 fun c' hc' => ?_
        have hG' := hG.scr (c' := c') (s' := s) (fun j j6 _ _ => hc' j j6) (fun _ _ _ _ _ _ => rfl) (fun _ _ _ => rfl)
        rw [eF]
        cases hfa : gF (fun k => s 16 (576 + k)) (N 3) 0 0 0 with
        | some k =>
          have kb : ∀ (m k st op k' : Nat), gF (fun k => s 16 (576 + k)) m k st op = some k' → k' ≤ k + m := by
            intro m
            induction m with
            | zero => intro k st op k' h; unfold gF at h; split at h <;> cases h; omega
            | succ m ih =>
              intro k st op k' h
              unfold gF at h
              split at h
              · cases h; omega
              · have := ih _ _ _ _ h; omega
          have kb' := kb _ _ _ _ _ hfa
          have n6 : (nI k = -6) = False := ix_m6 (by omega)
          have n0 : (nI k < 0) = False := ix_neg (by omega)
          simp only [kFi, n6, ↓reduceIte]
          refine ⟨kT_24, ?_⟩
          simp only [vc_X12_act, mq_tag, mq_len, mq_i, mq_r, mq_l, mq_nx, mq_wi, mq_wr, mq_wl, true_and, and_true, and_false, false_and, and_self, ↓reduceIte, kT_24, kT_25, kT_26, kT_27, kT_28, kT_29, kT_30, kT_31, kT_32, kT_33, kT_34, kT_35, kT_36, kT_37, kT_38, kT_39, kT_40, kT_41, kT_42, kT_43, kT_44, kT_45, kT_46, kT_47, kT_48, kT_49, kT_50, kT_51, kT_52, kT_53, kT_54, kT_55, kT_56, kT_57, kT_58, kT_59, kT_60, kT_61, kL_25, kL_26, kL_27, kL_28, kL_29, kL_30, kL_31, kL_32, kL_33, kL_34, kL_35, kL_36, kL_37, kL_38, kL_39, kL_40, kL_41, kL_42, kL_43, kL_44, kL_45, kL_46, kL_47, kL_48, kL_49, kL_50, kL_51, kL_52, kL_53, kL_54, kL_55, kL_56, kL_57, kL_58, kL_59, kL_60, kL_61, kW_24_1, kW_24_2, kW_24_3, kW_24_4, kW_24_5, kW_24_6, kW_24_7, kW_24_8, kW_24_9, kW_24_10, kW_24_11, kW_24_12, kW_24_14, kW_24_15, kW_24_16, kW_24_17, kW_24_18, kW_24_19, kW_24_21, kW_24_22, kW_24_23, kW_24_25, kW_24_26, kW_24_27, kW_24_28, kW_24_29, kW_24_31, kW_24_32, kW_24_33, kW_24_34, kW_24_36, kW_24_37, kW_24_44, kW_24_49, kW_24_50, kW_24_51, kW_24_52, kI_24, kI_w24, kI_25, kI_w25, kI_26, kI_w26, kI_27, kI_w27, kI_28, kI_w28, kI_29, kI_w29, kI_30, kI_w30, kI_31, kI_w31, kI_32, kI_w32, kI_33, kI_w33, kI_34, kI_w34, kI_35, kI_w35, kI_36, kI_w36, kI_37, kI_w37, kI_38, kI_w38, kI_39, kI_w39, kI_40, kI_w40, kI_41, kI_w41, kI_42, kI_w42, kI_43, kI_w43, kI_44, kI_w44, kI_45, kI_w45, kI_46, kI_w46, kI_47, kI_w47, kI_48, kI_w48, kI_49, kI_w49, kI_50, kI_w50, kI_51, kI_w51, kI_52, kI_w52, kI_53, kI_w53, kI_54, kI_w54, kI_55, kI_w55, kI_56, kI_w56, kI_57, kI_w57, kI_58, kI_w58, kI_59, kI_w59, kI_60, kI_w60, kI_61, kI_w61, m_isKind, m_isDay, ha, hb, decide_true, r2, e1, m_fp m48 s17, hfa, kFi, n0]
          exact hK _ _ (kJ.mk hG')
        | none =>
          have tx : kT B (mj_u1 (mj_u1 t x 1) (x + 1) 101) x = 1 := (kT_o hx).trans ((mq_u1n (by omega)).trans mq_u1s)
          have x0 : (x = 0) = False := eq_false (by omega)
          have xn : (B + 5 = x + 1) = False := eq_false (by omega)
          have l0 : (nI (N 3) < 0) = False := ix_neg (by omega)
          have n3 : N 3 < 2147483648 := by omega
          simp only [kFi, ↓reduceIte]
          have c5 : c' 5 = c 5 := hc' 5 (by decide)
          have c4 : c' 4 = c 4 := hc' 4 (by decide)
          simp only [vc_X1_pass, vc_J7_copyOf_59c91, vc_X0_init, mj_copy, mq_tag, mq_len, mq_i, mq_r, mq_l, mq_nx, mq_wi, mq_wr, mq_wl, true_and, and_true, and_false, false_and, and_self, ↓reduceIte, kT_0, kT_1, kT_2, kT_3, kT_4, kT_5, kT_6, kT_7, kT_8, kT_9, kT_10, kT_11, kT_12, kT_13, kT_14, kT_15, kT_16, kT_17, kT_18, kT_19, kT_20, kT_21, kT_22, kT_23, kL_2, kL_3, kL_5, kL_10, kL_11, kL_12, kL_14, kL_15, kL_17, kL_18, kL_19, kL_20, kL_21, kL_22, kL_23, kW_0_0, kW_0_1, kW_0_2, kW_0_3, kW_0_4, kW_0_5, kW_0_6, kW_0_7, kW_1_4, kW_1_5, kW_4_0, kW_4_1, kW_9_0, kW_9_1, kW_9_2, kW_13_0, kW_13_1, kW_16_0, kW_16_1, kW_16_2, kW_16_3, kW_16_4, kW_16_5, kW_1_1, kW_1_2, kW_4_4, kW_8_0, kW_8_1, kW_w1_1, kW_w1_2, kW_w4_4, kW_w8_0, kW_w8_1, kI_0, kI_w0, kI_1, kI_w1, kI_2, kI_w2, kI_3, kI_w3, kI_4, kI_w4, kI_5, kI_w5, kI_6, kI_w6, kI_7, kI_w7, kI_8, kI_w8, kI_9, kI_w9, kI_10, kI_w10, kI_11, kI_w11, kI_12, kI_w12, kI_13, kI_w13, kI_14, kI_w14, kI_15, kI_w15, kI_16, kI_w16, kI_17, kI_w17, kI_18, kI_w18, kI_19, kI_w19, kI_20, kI_w20, kI_21, kI_w21, kI_22, kI_w22, kI_23, kI_w23, mq_new, forall_eq, kT_n hx, kI_n hx, kW_n hx, kT_n hx1, kL_n hx1, kI_n hx1, kI_f5, c4, c42, l0, not_false_eq_true, ix_nat n3, m48, xn, x0, tx, kI_wo hx, kW_wo hx, c5, mq_u2s, mq_u2n, mq_u2k, ne_eq, Nat.reduceEqDiff, r1, nI_1]
          refine ⟨kT_24, ?_⟩
          simp only [vc_X12_act, mq_tag, mq_len, mq_i, mq_r, mq_l, mq_nx, mq_wi, mq_wr, mq_wl, true_and, and_true, and_false, false_and, and_self, ↓reduceIte, kT_24, kT_25, kT_26, kT_27, kT_28, kT_29, kT_30, kT_31, kT_32, kT_33, kT_34, kT_35, kT_36, kT_37, kT_38, kT_39, kT_40, kT_41, kT_42, kT_43, kT_44, kT_45, kT_46, kT_47, kT_48, kT_49, kT_50, kT_51, kT_52, kT_53, kT_54, kT_55, kT_56, kT_57, kT_58, kT_59, kT_60, kT_61, kL_25, kL_26, kL_27, kL_28, kL_29, kL_30, kL_31, kL_32, kL_33, kL_34, kL_35, kL_36, kL_37, kL_38, kL_39, kL_40, kL_41, kL_42, kL_43, kL_44, kL_45, kL_46, kL_47, kL_48, kL_49, kL_50, kL_51, kL_52, kL_53, kL_54, kL_55, kL_56, kL_57, kL_58, kL_59, kL_60, kL_61, kW_24_1, kW_24_2, kW_24_3, kW_24_4, kW_24_5, kW_24_6, kW_24_7, kW_24_8, kW_24_9, kW_24_10, kW_24_11, kW_24_12, kW_24_14, kW_24_15, kW_24_16, kW_24_17, kW_24_18, kW_24_19, kW_24_21, kW_24_22, kW_24_23, kW_24_25, kW_24_26, kW_24_27, kW_24_28, kW_24_29, kW_24_31, kW_24_32, kW_24_33, kW_24_34, kW_24_36, kW_24_37, kW_24_44, kW_24_49, kW_24_50, kW_24_51, kW_24_52, kI_24, kI_w24, kI_25, kI_w25, kI_26, kI_w26, kI_27, kI_w27, kI_28, kI_w28, kI_29, kI_w29, kI_30, kI_w30, kI_31, kI_w31, kI_32, kI_w32, kI_33, kI_w33, kI_34, kI_w34, kI_35, kI_w35, kI_36, kI_w36, kI_37, kI_w37, kI_38, kI_w38, kI_39, kI_w39, kI_40, kI_w40, kI_41, kI_w41, kI_42, kI_w42, kI_43, kI_w43, kI_44, kI_w44, kI_45, kI_w45, kI_46, kI_w46, kI_47, kI_w47, kI_48, kI_w48, kI_49, kI_w49, kI_50, kI_w50, kI_51, kI_w51, kI_52, kI_w52, kI_53, kI_w53, kI_54, kI_w54, kI_55, kI_w55, kI_56, kI_w56, kI_57, kI_w57, kI_58, kI_w58, kI_59, kI_w59, kI_60, kI_w60, kI_61, kI_w61, m_isKind, m_isDay, ha, hb, decide_true, r2, e1', m_fp m48 s17, hfa, kFi, show ((-6 : Int32) < 0) = True from eq_true (by decide), h12, ix_in (show 12 < 2147483648 by decide), ix_nat (show 12 < 2147483648 by decide), Nat.reduceLT, ix_in (show N 1 < 2147483648 by omega), ix_nat (show N 1 < 2147483648 by omega), show N 1 < 13 by omega, s17]
          have L := fun x' i' c'' r' u' q' (post : Int32 → mj_M → Prop) => ml_act (B := B) (t := mj_u1 (mj_u1 t x 1) (x + 1) 101) (l := mj_u1 l (x + 1) (N 3)) (g := g) (w := w) (x := x') (i := i') (c := c'') (r := r') (u := u') (q := q') (post := post) (a := a) (b := b) m48 hlt (N 3) 0 (mj_u2 s 17 (N 1) (nI (N 3))) (by omega) (by rw [mq_u2k (by omega)]; exact s17) (by rw [mq_u2n (by decide)]; exact r2)
          simp only [nI_0] at L
          simp only [Nat.zero_add]
          rw [L]
          generalize hE : mj_u2 (mj_u2 (mj_u2 (mj_u2 (kCp (mj_u2 s 17 (N 1) (nI (N 3))) (N 1) (N 3) 0) 18 (N 1) a) 19 (N 1) b) 17 12 0) 0 20 (nI (N 1 + 1)) = e
          have E : ∀ j, j ≠ 0 → j ≠ 16 → j ≠ 17 → j ≠ 18 → j ≠ 19 → e j = s j := fun j j0 j16 j17 j18 j19 => by
            rw [← hE]; funext y; rw [mq_u2n j0, mq_u2n j17, mq_u2n j19, mq_u2n j18]; unfold kCp; rw [if_neg (by omega), mq_u2n j17]
          have E0 : ∀ y, y ≠ 20 → e 0 y = s 0 y := fun y y20 => by
            rw [← hE, mq_u2k y20, mq_u2n (by decide), mq_u2n (by decide), mq_u2n (by decide)]; unfold kCp; rw [if_neg (by omega), mq_u2n (by decide)]
          have E20 : e 0 20 = nI (N 1 + 1) := by rw [← hE, mq_u2s]
          have E17 : ∀ y, y ≠ 12 → e 17 y = if y = N 1 then nI (N 3) else s 17 y := fun y y12 => by
            rw [← hE, mq_u2n (by decide), mq_u2k y12, mq_u2n (by decide), mq_u2n (by decide)]; unfold kCp; rw [if_neg (by omega)]
            by_cases z : y = N 1
            · rw [z, mq_u2s, if_pos rfl]
            · rw [mq_u2k z, if_neg z]
          have E1712 : e 17 12 = 0 := by rw [← hE, mq_u2n (by decide), mq_u2s]
          have E18 : ∀ y, e 18 y = if y = N 1 then a else s 18 y := fun y => by
            rw [← hE, mq_u2n (by decide), mq_u2n (by decide), mq_u2n (by decide)]
            by_cases z : y = N 1
            · rw [z, mq_u2s, if_pos rfl]
            · rw [mq_u2k z, if_neg z]; unfold kCp; rw [if_neg (by omega), mq_u2n (by decide)]
          have E19 : ∀ y, e 19 y = if y = N 1 then b else s 19 y := fun y => by
            rw [← hE, mq_u2n (by decide), mq_u2n (by decide)]
            by_cases z : y = N 1
            · rw [z, mq_u2s, if_pos rfl]
            · rw [mq_u2k z, if_neg z, mq_u2n (by decide)]; unfold kCp; rw [if_neg (by omega), mq_u2n (by decide)]
          have E16 : ∀ y, e 16 y = if 48 * N 1 ≤ y ∧ y < 48 * N 1 + N 3 then s 16 (576 + (y - 48 * N 1)) else s 16 y := fun y => by
            rw [← hE, mq_u2n (by decide), mq_u2n (by decide), mq_u2n (by decide), mq_u2n (by decide)]; unfold kCp
            by_cases z : 48 * N 1 ≤ y ∧ y < 48 * N 1 + N 3
            · rw [if_pos ⟨rfl, by omega, by omega⟩, if_pos z, mq_u2n (by decide)]
            · rw [if_neg (by omega), if_neg z, mq_u2n (by decide)]
          have e16n : ∀ k, k < N 3 → e 16 (48 * N 1 + k) = s 16 (576 + k) := fun k hk => by
            rw [E16, if_pos (by omega), show 48 * N 1 + k - 48 * N 1 = k by omega]
          have e16o : ∀ k, k < 48 * N 1 → e 16 k = s 16 k := fun k hk => by rw [E16, if_neg (by omega)]
          refine hK _ _ (kJ.mk (A := A) (AA := mj_u1 AA (N 1) x) (AT := mj_u1 AT (N 1) (x + 1)) (AN := AN) (N := fun j => if j = 1 then N 1 + 1 else if j = 3 then 0 else N j) ⟨?c1, ?c2, g3.to ?_ ?_ ?_ ?_ ?_ ?_ ?_ ?_, ?c4, g5.to ?_ ?_ ?_ ?_ ?_ ?_ ?_ ?_ ?_ ?_, g6.to ?_ ?_ ?_ ?_ ?_ ?_, g7.to ?_ ?_ ?_ ?_ ?_ ?_ ?_ ?_ ?_ ?_ ?_ ?_ ?_, g8.to ?_ ?_, ?c9, g10.to ?_ ?_⟩)
          case c1 =>
            refine g1.newA (f := c 5) (m0 := N 3) hlt m48 (by rw [mq_u1s, E17 _ (by omega), if_pos rfl]) (by rw [mq_u1s]; exact m48) ?_ ?_ ?_ ?_ ?_ ?_ ?_ ?_ ?_ ?_ ?_ ?_
            · intro a' h1 h2; funext y; simp [mq_u2, mq_u1, h1, h2]
            · intro a' h1; funext y; simp [mq_u2, mq_u1, h1]
            · intro a' h1 h2; exact mq_u1n h2
            · rw [E18, if_pos rfl]; simp [mq_u2, mq_u1]
            · rw [E19, if_pos rfl]; simp [mq_u2, mq_u1]
            · simp [mq_u2, mq_u1]
            · simp [mq_u2, mq_u1]; exact g2.2.2.1
            · intro k hk
              rw [mq_u1s] at hk
              rw [e16n k hk]
              simp [mq_u2, mq_u1]; exact sg k hk
            · intro j j1 j2; exact E j (by omega) (by omega) (by omega) (by omega) (by omega)
            · intro j j1 j2 h hh
              obtain rfl | rfl | rfl : j = 17 ∨ j = 18 ∨ j = 19 := by omega
              · rw [E17 _ (by omega), if_neg (by omega)]
              · rw [E18, if_neg (by omega)]
              · rw [E19, if_neg (by omega)]
            · exact e16o
            · intro j j1 j2; exact E j (by omega) (by omega) (by omega) (by omega) (by omega)
          case c2 =>
            obtain ⟨q1, q2, q3, q4, q5⟩ := g2
            refine ⟨?_, ?_, ?_, ?_, ?_⟩
            · simpa [mq_u1] using q1
            · simpa [mq_u1] using q2
            · simp [mq_u1]
            · simpa [mq_u1] using q4
            · simpa [mq_u1] using q5
          case c4 =>
            refine ⟨by simp, by simp [mq_u2, nI_0], by rw [E1712]; rfl, fun k hk => by simp at hk, by simp [mq_u2], by rw [E20]; rfl, by simp [mq_u2]; rw [hc' 8 (by decide)]; exact r3, by rw [E0 _ (by decide)]; exact r4⟩
          case c9 =>
            intro a' ha'
            by_cases z : a' = N 1
            · subst z
              rw [E17 _ (by omega), E18, E19, if_pos rfl, if_pos rfl, if_pos rfl]
              refine ⟨ha, hb, N 3, m48, rfl, ?_⟩
              rw [gF_to (N 3) 0 0 0 (f := fun k => s 16 (576 + k)) fun j _ hj => e16n j (by omega)]; exact hfa
            · have hlt' : a' < N 1 := by simp only [Nat.reduceEqDiff, ↓reduceIte] at ha'; omega
              obtain ⟨q1, q2, m, q3, q4, q5⟩ := g9 a' hlt'
              rw [E17 _ (by omega), E18, E19, if_neg z, if_neg z, if_neg z]
              refine ⟨q1, q2, m, q3, q4, ?_⟩
              rw [gF_to m 0 0 0 (f := fun k => s 16 (48 * a' + k)) fun j _ hj => e16o _ (by omega)]; exact q5
          all_goals first
            | (exact E0 _ (by decide)) | (exact E _ (by decide) (by decide) (by decide) (by decide) (by decide)) | (simp [mq_u2, hc']; done) | (funext _; simp [mq_u2, hc']; done)
            | (intro j j1 j2; exact E j (by omega) (by omega) (by omega) (by omega) (by omega)) | (intro h _; rw [E 1 (by decide) (by decide) (by decide) (by decide) (by decide)]; exact id)
    · simp only [vc_X11_act, vc_X12_act, mq_tag, mq_len, mq_i, mq_r, mq_l, mq_nx, mq_wi, mq_wr, mq_wl, true_and, and_true, and_false, false_and, and_self, ↓reduceIte, kT_0, kT_1, kT_2, kT_3, kT_4, kT_5, kT_6, kT_7, kT_8, kT_9, kT_10, kT_11, kT_12, kT_13, kT_14, kT_15, kT_16, kT_17, kT_18, kT_19, kT_20, kT_21, kT_22, kT_23, kL_2, kL_3, kL_5, kL_10, kL_11, kL_12, kL_14, kL_15, kL_17, kL_18, kL_19, kL_20, kL_21, kL_22, kL_23, kW_0_0, kW_0_1, kW_0_2, kW_0_3, kW_0_4, kW_0_5, kW_0_6, kW_0_7, kW_1_4, kW_1_5, kW_4_0, kW_4_1, kW_9_0, kW_9_1, kW_9_2, kW_13_0, kW_13_1, kW_16_0, kW_16_1, kW_16_2, kW_16_3, kW_16_4, kW_16_5, kW_1_1, kW_1_2, kW_4_4, kW_8_0, kW_8_1, kW_w1_1, kW_w1_2, kW_w4_4, kW_w8_0, kW_w8_1, kI_0, kI_w0, kI_1, kI_w1, kI_2, kI_w2, kI_3, kI_w3, kI_4, kI_w4, kI_5, kI_w5, kI_6, kI_w6, kI_7, kI_w7, kI_8, kI_w8, kI_9, kI_w9, kI_10, kI_w10, kI_11, kI_w11, kI_12, kI_w12, kI_13, kI_w13, kI_14, kI_w14, kI_15, kI_w15, kI_16, kI_w16, kI_17, kI_w17, kI_18, kI_w18, kI_19, kI_w19, kI_20, kI_w20, kI_21, kI_w21, kI_22, kI_w22, kI_23, kI_w23, kT_24, kT_25, kT_26, kT_27, kT_28, kT_29, kT_30, kT_31, kT_32, kT_33, kT_34, kT_35, kT_36, kT_37, kT_38, kT_39, kT_40, kT_41, kT_42, kT_43, kT_44, kT_45, kT_46, kT_47, kT_48, kT_49, kT_50, kT_51, kT_52, kT_53, kT_54, kT_55, kT_56, kT_57, kT_58, kT_59, kT_60, kT_61, kL_25, kL_26, kL_27, kL_28, kL_29, kL_30, kL_31, kL_32, kL_33, kL_34, kL_35, kL_36, kL_37, kL_38, kL_39, kL_40, kL_41, kL_42, kL_43, kL_44, kL_45, kL_46, kL_47, kL_48, kL_49, kL_50, kL_51, kL_52, kL_53, kL_54, kL_55, kL_56, kL_57, kL_58, kL_59, kL_60, kL_61, kW_24_1, kW_24_2, kW_24_3, kW_24_4, kW_24_5, kW_24_6, kW_24_7, kW_24_8, kW_24_9, kW_24_10, kW_24_11, kW_24_12, kW_24_14, kW_24_15, kW_24_16, kW_24_17, kW_24_18, kW_24_19, kW_24_21, kW_24_22, kW_24_23, kW_24_25, kW_24_26, kW_24_27, kW_24_28, kW_24_29, kW_24_31, kW_24_32, kW_24_33, kW_24_34, kW_24_36, kW_24_37, kW_24_44, kW_24_49, kW_24_50, kW_24_51, kW_24_52, kI_24, kI_w24, kI_25, kI_w25, kI_26, kI_w26, kI_27, kI_w27, kI_28, kI_w28, kI_29, kI_w29, kI_30, kI_w30, kI_31, kI_w31, kI_32, kI_w32, kI_33, kI_w33, kI_34, kI_w34, kI_35, kI_w35, kI_36, kI_w36, kI_37, kI_w37, kI_38, kI_w38, kI_39, kI_w39, kI_40, kI_w40, kI_41, kI_w41, kI_42, kI_w42, kI_43, kI_w43, kI_44, kI_w44, kI_45, kI_w45, kI_46, kI_w46, kI_47, kI_w47, kI_48, kI_w48, kI_49, kI_w49, kI_50, kI_w50, kI_51, kI_w51, kI_52, kI_w52, kI_53, kI_w53, kI_54, kI_w54, kI_55, kI_w55, kI_56, kI_w56, kI_57, kI_w57, kI_58, kI_w58, kI_59, kI_w59, kI_60, kI_w60, kI_61, kI_w61, c_isKind, m_isKind, c_isDay, m_isDay, ha, hb, true_or, or_true, false_or, or_false, not_true_eq_false, not_false_eq_true, true_and, and_true, false_and, and_false, and_self, decide_true, decide_false, ↓reduceIte, Bool.true_and, Bool.false_and, Bool.and_true, Bool.and_false, Bool.not_true, Bool.not_false, Bool.false_eq_true, Bool.true_or, Bool.or_true, Bool.false_or, Bool.or_false, reduceCtorEq, Bool.and_self, Bool.or_self, ne_eq]
      exact hK _ _ (kJ.mk hG)
  · simp only [vc_X11_act, vc_X12_act, mq_tag, mq_len, mq_i, mq_r, mq_l, mq_nx, mq_wi, mq_wr, mq_wl, true_and, and_true, and_false, false_and, and_self, ↓reduceIte, kT_0, kT_1, kT_2, kT_3, kT_4, kT_5, kT_6, kT_7, kT_8, kT_9, kT_10, kT_11, kT_12, kT_13, kT_14, kT_15, kT_16, kT_17, kT_18, kT_19, kT_20, kT_21, kT_22, kT_23, kL_2, kL_3, kL_5, kL_10, kL_11, kL_12, kL_14, kL_15, kL_17, kL_18, kL_19, kL_20, kL_21, kL_22, kL_23, kW_0_0, kW_0_1, kW_0_2, kW_0_3, kW_0_4, kW_0_5, kW_0_6, kW_0_7, kW_1_4, kW_1_5, kW_4_0, kW_4_1, kW_9_0, kW_9_1, kW_9_2, kW_13_0, kW_13_1, kW_16_0, kW_16_1, kW_16_2, kW_16_3, kW_16_4, kW_16_5, kW_1_1, kW_1_2, kW_4_4, kW_8_0, kW_8_1, kW_w1_1, kW_w1_2, kW_w4_4, kW_w8_0, kW_w8_1, kI_0, kI_w0, kI_1, kI_w1, kI_2, kI_w2, kI_3, kI_w3, kI_4, kI_w4, kI_5, kI_w5, kI_6, kI_w6, kI_7, kI_w7, kI_8, kI_w8, kI_9, kI_w9, kI_10, kI_w10, kI_11, kI_w11, kI_12, kI_w12, kI_13, kI_w13, kI_14, kI_w14, kI_15, kI_w15, kI_16, kI_w16, kI_17, kI_w17, kI_18, kI_w18, kI_19, kI_w19, kI_20, kI_w20, kI_21, kI_w21, kI_22, kI_w22, kI_23, kI_w23, kT_24, kT_25, kT_26, kT_27, kT_28, kT_29, kT_30, kT_31, kT_32, kT_33, kT_34, kT_35, kT_36, kT_37, kT_38, kT_39, kT_40, kT_41, kT_42, kT_43, kT_44, kT_45, kT_46, kT_47, kT_48, kT_49, kT_50, kT_51, kT_52, kT_53, kT_54, kT_55, kT_56, kT_57, kT_58, kT_59, kT_60, kT_61, kL_25, kL_26, kL_27, kL_28, kL_29, kL_30, kL_31, kL_32, kL_33, kL_34, kL_35, kL_36, kL_37, kL_38, kL_39, kL_40, kL_41, kL_42, kL_43, kL_44, kL_45, kL_46, kL_47, kL_48, kL_49, kL_50, kL_51, kL_52, kL_53, kL_54, kL_55, kL_56, kL_57, kL_58, kL_59, kL_60, kL_61, kW_24_1, kW_24_2, kW_24_3, kW_24_4, kW_24_5, kW_24_6, kW_24_7, kW_24_8, kW_24_9, kW_24_10, kW_24_11, kW_24_12, kW_24_14, kW_24_15, kW_24_16, kW_24_17, kW_24_18, kW_24_19, kW_24_21, kW_24_22, kW_24_23, kW_24_25, kW_24_26, kW_24_27, kW_24_28, kW_24_29, kW_24_31, kW_24_32, kW_24_33, kW_24_34, kW_24_36, kW_24_37, kW_24_44, kW_24_49, kW_24_50, kW_24_51, kW_24_52, kI_24, kI_w24, kI_25, kI_w25, kI_26, kI_w26, kI_27, kI_w27, kI_28, kI_w28, kI_29, kI_w29, kI_30, kI_w30, kI_31, kI_w31, kI_32, kI_w32, kI_33, kI_w33, kI_34, kI_w34, kI_35, kI_w35, kI_36, kI_w36, kI_37, kI_w37, kI_38, kI_w38, kI_39, kI_w39, kI_40, kI_w40, kI_41, kI_w41, kI_42, kI_w42, kI_43, kI_w43, kI_44, kI_w44, kI_45, kI_w45, kI_46, kI_w46, kI_47, kI_w47, kI_48, kI_w48, kI_49, kI_w49, kI_50, kI_w50, kI_51, kI_w51, kI_52, kI_w52, kI_53, kI_w53, kI_54, kI_w54, kI_55, kI_w55, kI_56, kI_w56, kI_57, kI_w57, kI_58, kI_w58, kI_59, kI_w59, kI_60, kI_w60, kI_61, kI_w61, c_isKind, m_isKind, ha, true_or, or_true, false_or, or_false, not_true_eq_false, not_false_eq_true, true_and, and_true, false_and, and_false, and_self, decide_true, decide_false, ↓reduceIte, Bool.true_and, Bool.false_and, Bool.and_true, Bool.and_false, Bool.not_true, Bool.not_false, Bool.false_eq_true, Bool.true_or, Bool.or_true, Bool.false_or, Bool.or_false, reduceCtorEq, Bool.and_self, Bool.or_self, ne_eq]
    exact hK _ _ (kJ.mk hG)
end
/-! which act is in force -/
def kGe (s : Nat → Nat → Int32) (a : Nat) : Option Nat → Bool
  | none => true
  | some b => decide (s 19 b ≤ s 19 a)
def kGt (s : Nat → Nat → Int32) (a : Nat) : Option Nat → Bool
  | none => true
  | some b => decide (s 19 b < s 19 a)
def kBe (s : Nat → Nat → Int32) (kd d : Int32) : Nat → Option Nat
  | 0 => none
  | a + 1 => if s 18 a = kd ∧ s 19 a ≤ d ∧ kGe s a (kBe s kd d a) = true then some a else kBe s kd d a
def kBd (s : Nat → Nat → Int32) (kd d : Int32) : Nat → Option Nat → Option Nat
  | 0, b => b
  | a + 1, b => kBd s kd d a (if s 18 a = kd ∧ s 19 a ≤ d ∧ kGt s a b = true then some a else b)
def kBm (s : Nat → Nat → Int32) (b : Option Nat) : Option Nat → Option Nat
  | none => b
  | some m => match b with
    | none => some m
    | some b' => if s 19 b' < s 19 m then some m else some b'
theorem kBd_eq {s : Nat → Nat → Int32} {kd d : Int32} : ∀ (a : Nat) (b : Option Nat), kBd s kd d a b = kBm s b (kBe s kd d a)
  | 0, b => rfl
  | a + 1, b => by
    have e1 : kBd s kd d (a + 1) b = kBd s kd d a (if s 18 a = kd ∧ s 19 a ≤ d ∧ kGt s a b = true then some a else b) := rfl
    have e2 : kBe s kd d (a + 1) = if s 18 a = kd ∧ s 19 a ≤ d ∧ kGe s a (kBe s kd d a) = true then some a else kBe s kd d a := rfl
    rw [e1, e2, kBd_eq a]
    by_cases c1 : s 18 a = kd ∧ s 19 a ≤ d
    · cases hb : kBe s kd d a with
      | none =>
        cases b with
        | none => simp only [c1, kGe, kGt, kBm, and_self, ↓reduceIte]
        | some b' =>
          by_cases c4 : s 19 b' < s 19 a <;> simp only [c1, c4, kGe, kGt, kBm, decide_true, decide_false, Bool.false_eq_true, and_false, and_self, ↓reduceIte]
      | some m =>
        cases b with
        | none =>
          by_cases c2 : s 19 a < s 19 m
          · have c3 : ¬ s 19 m ≤ s 19 a := Int32.not_le.mpr c2
            simp only [c1, c2, c3, kGe, kGt, kBm, decide_true, decide_false, Bool.false_eq_true, and_false, and_self, ↓reduceIte]
          · have c3 : s 19 m ≤ s 19 a := Int32.not_lt.mp c2
            simp only [c1, c2, c3, kGe, kGt, kBm, decide_true, decide_false, Bool.false_eq_true, and_false, and_self, ↓reduceIte]
        | some b' =>
          by_cases c4 : s 19 b' < s 19 a
          · by_cases c2 : s 19 a < s 19 m
            · have c3 : ¬ s 19 m ≤ s 19 a := Int32.not_le.mpr c2
              have c5 : s 19 b' < s 19 m := by rw [i_lt] at c2 c4 ⊢; omega
              simp only [c1, c2, c3, c4, c5, kGe, kGt, kBm, decide_true, decide_false, Bool.false_eq_true, and_false, and_self, ↓reduceIte]
            · have c3 : s 19 m ≤ s 19 a := Int32.not_lt.mp c2
              simp only [c1, c2, c3, c4, kGe, kGt, kBm, decide_true, decide_false, Bool.false_eq_true, and_false, and_self, ↓reduceIte]
          · by_cases c2 : s 19 a < s 19 m
            · have c3 : ¬ s 19 m ≤ s 19 a := Int32.not_le.mpr c2
              simp only [c1, c3, c4, kGe, kGt, kBm, decide_true, decide_false, Bool.false_eq_true, and_false, and_self, ↓reduceIte]
            · have c3 : s 19 m ≤ s 19 a := Int32.not_lt.mp c2
              have c5 : ¬ s 19 b' < s 19 m := by rw [i_lt] at c4 ⊢; rw [i_le] at c3; omega
              simp only [c1, c3, c4, c5, kGe, kGt, kBm, decide_true, decide_false, Bool.false_eq_true, and_false, and_self, ↓reduceIte]
    · rw [if_neg (fun z => c1 ⟨z.1, z.2.1⟩), if_neg (fun z => c1 ⟨z.1, z.2.1⟩)]
theorem kBe_some {s : Nat → Nat → Int32} {kd d : Int32} : ∀ {a b : Nat}, kBe s kd d a = some b → b < a ∧ s 18 b = kd
  | 0, _, h => by cases h
  | a + 1, b, h => by
    unfold kBe at h
    split at h
    · rename_i z; cases h; exact ⟨by omega, z.1⟩
    · have := kBe_some h; exact ⟨by omega, this.2⟩
section
variable {B x n na nn : Nat} {A AA AT AN : Nat → Nat} {t l u : Nat → Nat} {i c s e : Nat → Nat → Int32} {r : Nat → Nat → Nat} {q g w : Nat → Nat → Int64}
def kAp (AA : Nat → Nat) (a : Nat) : Nat := if a = 0 then 0 else AA (a - 1)
theorem cl_force (H : kCD B A AA AT AN n na nn e t l i r x) {kd d : Int32} {post : Nat → mj_M → Prop} : ∀ (a : Nat) (b : Option Nat), a ≤ na → (∀ b', b = some b' → b' < na) → (∃ fe, vb_X1_inForce_8 post fe kd d (kFp AA b) (kAp AA a) (kT B t, kL B l, kI B i c s, kW B r u, kI B q g w, x)) = post (kFp AA (kBd e kd d a b)) (kT B t, kL B l, kI B i c s, kW B r u, kI B q g w, x)
  | 0, b, _, _ => by
    rw [ex_succ rfl]
    simp only [vb_X1_inForce_8, kAp, kBd, ↓reduceIte, ex_ite, exists_and_left, exists_const, exists_and_right]
  | a + 1, b, ha, hb => by
    have ha' : a < na := by omega
    have e1 : kAp AA (a + 1) = AA a := by unfold kAp; rw [if_neg (by omega), Nat.add_sub_cancel]
    have e2 : (if a = 0 then 0 else AA (a - 1)) = kAp AA a := rfl
    have I := fun b' hb' => cl_force H (kd := kd) (d := d) (post := post) a b' (by omega) hb'
    rw [ex_succ rfl]
    cases b with
    | none =>
      have I1 := I none (fun _ h => by cases h)
      have I2 := I (some a) (fun _ h => by cases h; exact ha')
      simp only [vb_X1_inForce_8, vb_X1_inForce_47, e1, mq_tag, mq_len, mq_i, mq_r, mq_l, mq_nx, mq_wi, mq_wr, mq_wl, true_and, and_true, and_false, false_and, and_self, ↓reduceIte, kT_0, kT_1, kT_2, kT_3, kT_4, kT_5, kT_6, kT_7, kT_8, kT_9, kT_10, kT_11, kT_12, kT_13, kT_14, kT_15, kT_16, kT_17, kT_18, kT_19, kT_20, kT_21, kT_22, kT_23, kL_2, kL_3, kL_5, kL_10, kL_11, kL_12, kL_14, kL_15, kL_17, kL_18, kL_19, kL_20, kL_21, kL_22, kL_23, kW_0_0, kW_0_1, kW_0_2, kW_0_3, kW_0_4, kW_0_5, kW_0_6, kW_0_7, kW_1_4, kW_1_5, kW_4_0, kW_4_1, kW_9_0, kW_9_1, kW_9_2, kW_13_0, kW_13_1, kW_16_0, kW_16_1, kW_16_2, kW_16_3, kW_16_4, kW_16_5, kW_1_1, kW_1_2, kW_4_4, kW_8_0, kW_8_1, kW_w1_1, kW_w1_2, kW_w4_4, kW_w8_0, kW_w8_1, kI_0, kI_w0, kI_1, kI_w1, kI_2, kI_w2, kI_3, kI_w3, kI_4, kI_w4, kI_5, kI_w5, kI_6, kI_w6, kI_7, kI_w7, kI_8, kI_w8, kI_9, kI_w9, kI_10, kI_w10, kI_11, kI_w11, kI_12, kI_w12, kI_13, kI_w13, kI_14, kI_w14, kI_15, kI_w15, kI_16, kI_w16, kI_17, kI_w17, kI_18, kI_w18, kI_19, kI_w19, kI_20, kI_w20, kI_21, kI_w21, kI_22, kI_w22, kI_23, kI_w23, H.atAT ha', H.atAI ha', H.atAW ha', e2, show kFp AA none = 0 from rfl, ex_ite, exists_and_left, exists_const, exists_and_right, kBd, kGt, ← i_nlt (a := d) (b := e 19 a)]
      simp only [show kFp AA none = 0 from rfl, show kFp AA (some a) = AA a from rfl] at I1 I2
      rw [I1, I2]
      by_cases c1 : e 18 a = kd <;> by_cases c2 : d < e 19 a <;> simp only [c1, c2, true_or, or_true, false_or, or_false, not_true_eq_false, not_false_eq_true, true_and, and_true, false_and, and_false, and_self, decide_true, decide_false, ↓reduceIte, Bool.true_and, Bool.false_and, Bool.and_true, Bool.and_false, Bool.not_true, Bool.not_false, Bool.false_eq_true, Bool.true_or, Bool.or_true, Bool.false_or, Bool.or_false, reduceCtorEq, Bool.and_self, Bool.or_self, ne_eq]
    | some b' =>
      have hb' := hb b' rfl
      have I1 := I (some b') (fun _ h => by cases h; exact hb')
      have I2 := I (some a) (fun _ h => by cases h; exact ha')
      simp only [vb_X1_inForce_8, vb_X1_inForce_47, e1, mq_tag, mq_len, mq_i, mq_r, mq_l, mq_nx, mq_wi, mq_wr, mq_wl, true_and, and_true, and_false, false_and, and_self, ↓reduceIte, kT_0, kT_1, kT_2, kT_3, kT_4, kT_5, kT_6, kT_7, kT_8, kT_9, kT_10, kT_11, kT_12, kT_13, kT_14, kT_15, kT_16, kT_17, kT_18, kT_19, kT_20, kT_21, kT_22, kT_23, kL_2, kL_3, kL_5, kL_10, kL_11, kL_12, kL_14, kL_15, kL_17, kL_18, kL_19, kL_20, kL_21, kL_22, kL_23, kW_0_0, kW_0_1, kW_0_2, kW_0_3, kW_0_4, kW_0_5, kW_0_6, kW_0_7, kW_1_4, kW_1_5, kW_4_0, kW_4_1, kW_9_0, kW_9_1, kW_9_2, kW_13_0, kW_13_1, kW_16_0, kW_16_1, kW_16_2, kW_16_3, kW_16_4, kW_16_5, kW_1_1, kW_1_2, kW_4_4, kW_8_0, kW_8_1, kW_w1_1, kW_w1_2, kW_w4_4, kW_w8_0, kW_w8_1, kI_0, kI_w0, kI_1, kI_w1, kI_2, kI_w2, kI_3, kI_w3, kI_4, kI_w4, kI_5, kI_w5, kI_6, kI_w6, kI_7, kI_w7, kI_8, kI_w8, kI_9, kI_w9, kI_10, kI_w10, kI_11, kI_w11, kI_12, kI_w12, kI_13, kI_w13, kI_14, kI_w14, kI_15, kI_w15, kI_16, kI_w16, kI_17, kI_w17, kI_18, kI_w18, kI_19, kI_w19, kI_20, kI_w20, kI_21, kI_w21, kI_22, kI_w22, kI_23, kI_w23, H.atAT ha', H.atAI ha', H.atAW ha', H.atAT hb', H.atAI hb', H.atAW hb', e2, show kFp AA (some b') = AA b' from rfl, ex_ite, exists_and_left, exists_const, exists_and_right, kBd, kGt, decide_eq_true_eq, ← i_nlt (a := d) (b := e 19 a), ← i_nle (a := e 19 a) (b := e 19 b')]
      simp only [show kFp AA (some b') = AA b' from rfl, show kFp AA (some a) = AA a from rfl] at I1 I2
      rw [I1, I2]
      by_cases c1 : e 18 a = kd <;> by_cases c2 : d < e 19 a <;> by_cases c3 : e 19 a ≤ e 19 b' <;> simp only [c1, c2, c3, true_or, or_true, false_or, or_false, not_true_eq_false, not_false_eq_true, true_and, and_true, false_and, and_false, and_self, decide_true, decide_false, ↓reduceIte, Bool.true_and, Bool.false_and, Bool.and_true, Bool.and_false, Bool.not_true, Bool.not_false, Bool.false_eq_true, Bool.true_or, Bool.or_true, Bool.false_or, Bool.or_false, reduceCtorEq, Bool.and_self, Bool.or_self, ne_eq]
theorem c_force (H : kCD B A AA AT AN n na nn e t l i r x) (U : kU A AA AN n na nn u) {kd d : Int32} {post : Nat → mj_M → Prop} : vc_X1_inForce (B + 4) kd d (kT B t, kL B l, kI B i c s, kW B r u, kI B q g w, x) post = post (kFp AA (kBe e kd d na)) (kT B t, kL B l, kI B i c s, kW B r u, kI B q g w, x) := by
  have h2 : u 2 = kAp AA na := U.2.2.1
  simp only [vc_X1_inForce, mq_tag, mq_len, mq_i, mq_r, mq_l, mq_nx, mq_wi, mq_wr, mq_wl, true_and, and_true, and_false, false_and, and_self, ↓reduceIte, kT_0, kT_1, kT_2, kT_3, kT_4, kT_5, kT_6, kT_7, kT_8, kT_9, kT_10, kT_11, kT_12, kT_13, kT_14, kT_15, kT_16, kT_17, kT_18, kT_19, kT_20, kT_21, kT_22, kT_23, kL_2, kL_3, kL_5, kL_10, kL_11, kL_12, kL_14, kL_15, kL_17, kL_18, kL_19, kL_20, kL_21, kL_22, kL_23, kW_0_0, kW_0_1, kW_0_2, kW_0_3, kW_0_4, kW_0_5, kW_0_6, kW_0_7, kW_1_4, kW_1_5, kW_4_0, kW_4_1, kW_9_0, kW_9_1, kW_9_2, kW_13_0, kW_13_1, kW_16_0, kW_16_1, kW_16_2, kW_16_3, kW_16_4, kW_16_5, kW_1_1, kW_1_2, kW_4_4, kW_8_0, kW_8_1, kW_w1_1, kW_w1_2, kW_w4_4, kW_w8_0, kW_w8_1, kI_0, kI_w0, kI_1, kI_w1, kI_2, kI_w2, kI_3, kI_w3, kI_4, kI_w4, kI_5, kI_w5, kI_6, kI_w6, kI_7, kI_w7, kI_8, kI_w8, kI_9, kI_w9, kI_10, kI_w10, kI_11, kI_w11, kI_12, kI_w12, kI_13, kI_w13, kI_14, kI_w14, kI_15, kI_w15, kI_16, kI_w16, kI_17, kI_w17, kI_18, kI_w18, kI_19, kI_w19, kI_20, kI_w20, kI_21, kI_w21, kI_22, kI_w22, kI_23, kI_w23, h2]
  have := cl_force H (c := c) (s := s) (u := u) (q := q) (g := g) (w := w) (kd := kd) (d := d) (post := post) na none (Nat.le_refl _) (fun _ h => by cases h)
  have hb : kBm e none (kBe e kd d na) = kBe e kd d na := by cases kBe e kd d na <;> rfl
  rw [kBd_eq, hb] at this
  exact this
theorem ml_on (hn : s 0 20 = nI na) (h12 : na ≤ 12) {kd d : Int32} {post : Int32 → mj_M → Prop} : ∀ (m a : Nat), a + m = na → (∃ fe, vb_X12_actOn_5 post fe (B + 24) kd d (kFn (kBe s kd d a)) (nI a) (kT B t, kL B l, kI B i c s, kW B r u, kI B q g w, x)) = post (kFn (kBe s kd d na)) (kT B t, kL B l, kI B i c s, kW B r u, kI B q g w, x)
  | 0, a, ha => by
    have ea : a = na := by omega
    subst ea
    rw [ex_succ rfl]
    simp only [vb_X12_actOn_5, mq_tag, mq_len, mq_i, mq_r, mq_l, mq_nx, mq_wi, mq_wr, mq_wl, true_and, and_true, and_false, false_and, and_self, ↓reduceIte, kT_24, kT_25, kT_26, kT_27, kT_28, kT_29, kT_30, kT_31, kT_32, kT_33, kT_34, kT_35, kT_36, kT_37, kT_38, kT_39, kT_40, kT_41, kT_42, kT_43, kT_44, kT_45, kT_46, kT_47, kT_48, kT_49, kT_50, kT_51, kT_52, kT_53, kT_54, kT_55, kT_56, kT_57, kT_58, kT_59, kT_60, kT_61, kL_25, kL_26, kL_27, kL_28, kL_29, kL_30, kL_31, kL_32, kL_33, kL_34, kL_35, kL_36, kL_37, kL_38, kL_39, kL_40, kL_41, kL_42, kL_43, kL_44, kL_45, kL_46, kL_47, kL_48, kL_49, kL_50, kL_51, kL_52, kL_53, kL_54, kL_55, kL_56, kL_57, kL_58, kL_59, kL_60, kL_61, kW_24_1, kW_24_2, kW_24_3, kW_24_4, kW_24_5, kW_24_6, kW_24_7, kW_24_8, kW_24_9, kW_24_10, kW_24_11, kW_24_12, kW_24_14, kW_24_15, kW_24_16, kW_24_17, kW_24_18, kW_24_19, kW_24_21, kW_24_22, kW_24_23, kW_24_25, kW_24_26, kW_24_27, kW_24_28, kW_24_29, kW_24_31, kW_24_32, kW_24_33, kW_24_34, kW_24_36, kW_24_37, kW_24_44, kW_24_49, kW_24_50, kW_24_51, kW_24_52, kI_24, kI_w24, kI_25, kI_w25, kI_26, kI_w26, kI_27, kI_w27, kI_28, kI_w28, kI_29, kI_w29, kI_30, kI_w30, kI_31, kI_w31, kI_32, kI_w32, kI_33, kI_w33, kI_34, kI_w34, kI_35, kI_w35, kI_36, kI_w36, kI_37, kI_w37, kI_38, kI_w38, kI_39, kI_w39, kI_40, kI_w40, kI_41, kI_w41, kI_42, kI_w42, kI_43, kI_w43, kI_44, kI_w44, kI_45, kI_w45, kI_46, kI_w46, kI_47, kI_w47, kI_48, kI_w48, kI_49, kI_w49, kI_50, kI_w50, kI_51, kI_w51, kI_52, kI_w52, kI_53, kI_w53, kI_54, kI_w54, kI_55, kI_w55, kI_56, kI_w56, kI_57, kI_w57, kI_58, kI_w58, kI_59, kI_w59, kI_60, kI_w60, kI_61, kI_w61, hn, Int32.le_refl, ex_ite, exists_and_left, exists_const, exists_and_right]
  | m + 1, a, ha => by
    have a1 : a < 2147483648 := by omega
    have I := ml_on hn h12 (kd := kd) (d := d) (post := post) m (a + 1) (by omega)
    have e : kBe s kd d (a + 1) = if s 18 a = kd ∧ s 19 a ≤ d ∧ kGe s a (kBe s kd d a) = true then some a else kBe s kd d a := rfl
    rw [e] at I
    rw [ex_succ rfl]
    cases hb : kBe s kd d a with
    | none =>
      rw [hb] at I
      simp only [vb_X12_actOn_5, vb_X12_actOn_40, vb_X12_actOn_41, mq_tag, mq_len, mq_i, mq_r, mq_l, mq_nx, mq_wi, mq_wr, mq_wl, true_and, and_true, and_false, false_and, and_self, ↓reduceIte, kT_24, kT_25, kT_26, kT_27, kT_28, kT_29, kT_30, kT_31, kT_32, kT_33, kT_34, kT_35, kT_36, kT_37, kT_38, kT_39, kT_40, kT_41, kT_42, kT_43, kT_44, kT_45, kT_46, kT_47, kT_48, kT_49, kT_50, kT_51, kT_52, kT_53, kT_54, kT_55, kT_56, kT_57, kT_58, kT_59, kT_60, kT_61, kL_25, kL_26, kL_27, kL_28, kL_29, kL_30, kL_31, kL_32, kL_33, kL_34, kL_35, kL_36, kL_37, kL_38, kL_39, kL_40, kL_41, kL_42, kL_43, kL_44, kL_45, kL_46, kL_47, kL_48, kL_49, kL_50, kL_51, kL_52, kL_53, kL_54, kL_55, kL_56, kL_57, kL_58, kL_59, kL_60, kL_61, kW_24_1, kW_24_2, kW_24_3, kW_24_4, kW_24_5, kW_24_6, kW_24_7, kW_24_8, kW_24_9, kW_24_10, kW_24_11, kW_24_12, kW_24_14, kW_24_15, kW_24_16, kW_24_17, kW_24_18, kW_24_19, kW_24_21, kW_24_22, kW_24_23, kW_24_25, kW_24_26, kW_24_27, kW_24_28, kW_24_29, kW_24_31, kW_24_32, kW_24_33, kW_24_34, kW_24_36, kW_24_37, kW_24_44, kW_24_49, kW_24_50, kW_24_51, kW_24_52, kI_24, kI_w24, kI_25, kI_w25, kI_26, kI_w26, kI_27, kI_w27, kI_28, kI_w28, kI_29, kI_w29, kI_30, kI_w30, kI_31, kI_w31, kI_32, kI_w32, kI_33, kI_w33, kI_34, kI_w34, kI_35, kI_w35, kI_36, kI_w36, kI_37, kI_w37, kI_38, kI_w38, kI_39, kI_w39, kI_40, kI_w40, kI_41, kI_w41, kI_42, kI_w42, kI_43, kI_w43, kI_44, kI_w44, kI_45, kI_w45, kI_46, kI_w46, kI_47, kI_w47, kI_48, kI_w48, kI_49, kI_w49, kI_50, kI_w50, kI_51, kI_w51, kI_52, kI_w52, kI_53, kI_w53, kI_54, kI_w54, kI_55, kI_w55, kI_56, kI_w56, kI_57, kI_w57, kI_58, kI_w58, kI_59, kI_w59, kI_60, kI_w60, kI_61, kI_w61, hn, ix_le (show na < 2147483648 by omega) a1, show ¬ na ≤ a by omega, ix_in a1, ix_nat a1, show a < 12 by omega, kFn, kGe, decide_eq_true_eq, show ((-1 : Int32) < 0) = True from eq_true (by decide), Bool.false_eq_true, nI_1, ex_ite, exists_and_left, exists_const, exists_and_right, ← i_nlt (a := d) (b := s 19 a)] at I ⊢
      by_cases c1 : s 18 a = kd <;> by_cases c2 : d < s 19 a <;> simp only [c1, c2, true_or, or_true, false_or, or_false, not_true_eq_false, not_false_eq_true, true_and, and_true, false_and, and_false, and_self, decide_true, decide_false, ↓reduceIte, Bool.true_and, Bool.false_and, Bool.and_true, Bool.and_false, Bool.not_true, Bool.not_false, Bool.false_eq_true, Bool.true_or, Bool.or_true, Bool.false_or, Bool.or_false, reduceCtorEq, Bool.and_self, Bool.or_self, ne_eq] at I ⊢ <;> exact I
    | some b =>
      have hb2 := (kBe_some hb).1
      rw [hb] at I
      simp only [vb_X12_actOn_5, vb_X12_actOn_40, vb_X12_actOn_41, mq_tag, mq_len, mq_i, mq_r, mq_l, mq_nx, mq_wi, mq_wr, mq_wl, true_and, and_true, and_false, false_and, and_self, ↓reduceIte, kT_24, kT_25, kT_26, kT_27, kT_28, kT_29, kT_30, kT_31, kT_32, kT_33, kT_34, kT_35, kT_36, kT_37, kT_38, kT_39, kT_40, kT_41, kT_42, kT_43, kT_44, kT_45, kT_46, kT_47, kT_48, kT_49, kT_50, kT_51, kT_52, kT_53, kT_54, kT_55, kT_56, kT_57, kT_58, kT_59, kT_60, kT_61, kL_25, kL_26, kL_27, kL_28, kL_29, kL_30, kL_31, kL_32, kL_33, kL_34, kL_35, kL_36, kL_37, kL_38, kL_39, kL_40, kL_41, kL_42, kL_43, kL_44, kL_45, kL_46, kL_47, kL_48, kL_49, kL_50, kL_51, kL_52, kL_53, kL_54, kL_55, kL_56, kL_57, kL_58, kL_59, kL_60, kL_61, kW_24_1, kW_24_2, kW_24_3, kW_24_4, kW_24_5, kW_24_6, kW_24_7, kW_24_8, kW_24_9, kW_24_10, kW_24_11, kW_24_12, kW_24_14, kW_24_15, kW_24_16, kW_24_17, kW_24_18, kW_24_19, kW_24_21, kW_24_22, kW_24_23, kW_24_25, kW_24_26, kW_24_27, kW_24_28, kW_24_29, kW_24_31, kW_24_32, kW_24_33, kW_24_34, kW_24_36, kW_24_37, kW_24_44, kW_24_49, kW_24_50, kW_24_51, kW_24_52, kI_24, kI_w24, kI_25, kI_w25, kI_26, kI_w26, kI_27, kI_w27, kI_28, kI_w28, kI_29, kI_w29, kI_30, kI_w30, kI_31, kI_w31, kI_32, kI_w32, kI_33, kI_w33, kI_34, kI_w34, kI_35, kI_w35, kI_36, kI_w36, kI_37, kI_w37, kI_38, kI_w38, kI_39, kI_w39, kI_40, kI_w40, kI_41, kI_w41, kI_42, kI_w42, kI_43, kI_w43, kI_44, kI_w44, kI_45, kI_w45, kI_46, kI_w46, kI_47, kI_w47, kI_48, kI_w48, kI_49, kI_w49, kI_50, kI_w50, kI_51, kI_w51, kI_52, kI_w52, kI_53, kI_w53, kI_54, kI_w54, kI_55, kI_w55, kI_56, kI_w56, kI_57, kI_w57, kI_58, kI_w58, kI_59, kI_w59, kI_60, kI_w60, kI_61, kI_w61, hn, ix_le (show na < 2147483648 by omega) a1, show ¬ na ≤ a by omega, ix_in a1, ix_nat a1, show a < 12 by omega, kFn, kGe, decide_eq_true_eq, ix_neg (show b < 2147483648 by omega), ix_in (show b < 2147483648 by omega), ix_nat (show b < 2147483648 by omega), show b < 12 by omega, Bool.false_eq_true, nI_1, ex_ite, exists_and_left, exists_const, exists_and_right, ← i_nlt (a := d) (b := s 19 a), ← i_nlt (a := s 19 a) (b := s 19 b)] at I ⊢
      by_cases c1 : s 18 a = kd <;> by_cases c2 : d < s 19 a <;> by_cases c3 : s 19 a < s 19 b <;> simp only [c1, c2, c3, true_or, or_true, false_or, or_false, not_true_eq_false, not_false_eq_true, true_and, and_true, false_and, and_false, and_self, decide_true, decide_false, ↓reduceIte, Bool.true_and, Bool.false_and, Bool.and_true, Bool.and_false, Bool.not_true, Bool.not_false, Bool.false_eq_true, Bool.true_or, Bool.or_true, Bool.false_or, Bool.or_false, reduceCtorEq, Bool.and_self, Bool.or_self, ne_eq] at I ⊢ <;> exact I
theorem m_on (hn : s 0 20 = nI na) (h12 : na ≤ 12) {kd d : Int32} {post : Int32 → mj_M → Prop} : vc_X12_actOn (B + 24) kd d (kT B t, kL B l, kI B i c s, kW B r u, kI B q g w, x) post = post (kFn (kBe s kd d na)) (kT B t, kL B l, kI B i c s, kW B r u, kI B q g w, x) := by
  unfold vc_X12_actOn
  have := ml_on (B := B) (x := x) (t := t) (l := l) (u := u) (i := i) (c := c) (s := s) (r := r) (q := q) (g := g) (w := w) hn h12 (kd := kd) (d := d) (post := post) na 0 (by omega)
  rw [nI_0] at this; exact this
end

/-! STAGE B: fault, act -/
theorem gSt_le {st op : Nat} {ch : Int32} {st' : Nat} (hs : st ≤ 8) (h : gSt st ch op = some st') : st' ≤ 8 ∧ (ch = 41 → 0 < op) := by
  unfold gSt at h
  split at h
  · split at h
    · rename_i z; cases h; exact ⟨by omega, fun y => by rcases z with z | z <;> rw [z] at y <;> exact absurd y (by decide)⟩
    · split at h
      · rename_i z; cases h; exact ⟨by omega, fun y => absurd y (gFact_n z).2.2⟩
      · cases h
  · split at h
    · split at h
      · rename_i z; cases h; exact ⟨by omega, fun y => by rcases z with z | z | z <;> rw [z] at y <;> exact absurd y (by decide)⟩
      · cases h
    · split at h
      · rename_i z; cases h; exact ⟨by omega, fun y => absurd y (gDig_n z.2).2.2.1⟩
      · split at h
        · cases h
        · split at h
          · rename_i z; cases h; exact ⟨by omega, fun y => by rcases z with z | z <;> rw [z] at y <;> exact absurd y (by decide)⟩
          · split at h
            · rename_i z; cases h; exact ⟨by omega, fun _ => z.2⟩
            · cases h
section
variable {B x : Nat} {t l u : Nat → Nat} {i c s : Nat → Nat → Int32} {r : Nat → Nat → Nat} {q g w : Nat → Nat → Int64}
theorem c_fp {n0 : Nat} (h48 : n0 ≤ 48) (hl : c 4 2 = nI n0) {post : Int32 → mj_M → Prop} (hp : ∀ c', (∀ j, j ≠ 6 → c' j = c j) → post (kFi (gF (c 5) n0 0 0 0)) (kT B t, kL B l, kI B i c' s, kW B r u, kI B q g w, x)) : vc_X1_faultPlace (B + 4) (kT B t, kL B l, kI B i c s, kW B r u, kI B q g w, x) post := by
  have := cl_fp (B := B) (t := t) (l := l) (u := u) (i := i) (s := s) (r := r) (q := q) (g := g) (w := w) (x := x) (n0 := n0) (post := post) (c 5) n0 0 0 0 (mj_u2 (mj_u2 (mj_u2 c 6 0 0) 6 1 0) 6 2 0) (by omega) h48
    (kGm.up (by simp [kGp, nI_0]) nI_0.symm (fun z => by omega) (by decide) (by decide)) (Nat.le_refl _) (by simpa [mq_u2] using hl) (by funext y; simp [mq_u2]) (fun c' hc' => hp c' (fun j hj => by rw [hc' j hj, mj_u2_ne _ hj, mj_u2_ne _ hj, mj_u2_ne _ hj]))
  simp only [vc_X1_faultPlace, vc_X2_restart, mq_tag, mq_len, mq_i, mq_r, mq_l, mq_nx, mq_wi, mq_wr, mq_wl, true_and, and_true, and_false, false_and, and_self, ↓reduceIte, kT_0, kT_1, kT_2, kT_3, kT_4, kT_5, kT_6, kT_7, kT_8, kT_9, kT_10, kT_11, kT_12, kT_13, kT_14, kT_15, kT_16, kT_17, kT_18, kT_19, kT_20, kT_21, kT_22, kT_23, kL_2, kL_3, kL_5, kL_10, kL_11, kL_12, kL_14, kL_15, kL_17, kL_18, kL_19, kL_20, kL_21, kL_22, kL_23, kW_0_0, kW_0_1, kW_0_2, kW_0_3, kW_0_4, kW_0_5, kW_0_6, kW_0_7, kW_1_4, kW_1_5, kW_4_0, kW_4_1, kW_9_0, kW_9_1, kW_9_2, kW_13_0, kW_13_1, kW_16_0, kW_16_1, kW_16_2, kW_16_3, kW_16_4, kW_16_5, kW_1_1, kW_1_2, kW_4_4, kW_8_0, kW_8_1, kW_w1_1, kW_w1_2, kW_w4_4, kW_w8_0, kW_w8_1, kI_0, kI_w0, kI_1, kI_w1, kI_2, kI_w2, kI_3, kI_w3, kI_4, kI_w4, kI_5, kI_w5, kI_6, kI_w6, kI_7, kI_w7, kI_8, kI_w8, kI_9, kI_w9, kI_10, kI_w10, kI_11, kI_w11, kI_12, kI_w12, kI_13, kI_w13, kI_14, kI_w14, kI_15, kI_w15, kI_16, kI_w16, kI_17, kI_w17, kI_18, kI_w18, kI_19, kI_w19, kI_20, kI_w20, kI_21, kI_w21, kI_22, kI_w22, kI_23, kI_w23]
  rw [nI_0] at this; exact this
theorem ml_fp {n0 : Nat} (h48 : n0 ≤ 48) (hs : s 17 12 = nI n0) {post : Int32 → mj_M → Prop} : ∀ (m k st op : Nat), k + m = n0 → st ≤ 8 → op ≤ k → (∃ fe, vb_X12_faultOf_6 post fe (B + 24) (nI st) (nI op) (nI k) (kT B t, kL B l, kI B i c s, kW B r u, kI B q g w, x)) = post (kFi (gF (fun k => s 16 (576 + k)) m k st op)) (kT B t, kL B l, kI B i c s, kW B r u, kI B q g w, x)
  | 0, k, st, op, hk, h8, ho => by
    have h12 : (12 : Int32) = nI 12 := by decide
    have e2 : (nI st ≤ 2) = (st ≤ 2) := by rw [show (2 : Int32) = nI 2 by decide, ix_le (by omega) (by decide)]
    have e0 : (nI op = 0) = (op = 0) := by rw [← nI_0, ix_eq (by omega) (by decide)]
    rw [ex_succ rfl]
    simp only [vb_X12_faultOf_6, mq_tag, mq_len, mq_i, mq_r, mq_l, mq_nx, mq_wi, mq_wr, mq_wl, true_and, and_true, and_false, false_and, and_self, ↓reduceIte, kT_24, kT_25, kT_26, kT_27, kT_28, kT_29, kT_30, kT_31, kT_32, kT_33, kT_34, kT_35, kT_36, kT_37, kT_38, kT_39, kT_40, kT_41, kT_42, kT_43, kT_44, kT_45, kT_46, kT_47, kT_48, kT_49, kT_50, kT_51, kT_52, kT_53, kT_54, kT_55, kT_56, kT_57, kT_58, kT_59, kT_60, kT_61, kL_25, kL_26, kL_27, kL_28, kL_29, kL_30, kL_31, kL_32, kL_33, kL_34, kL_35, kL_36, kL_37, kL_38, kL_39, kL_40, kL_41, kL_42, kL_43, kL_44, kL_45, kL_46, kL_47, kL_48, kL_49, kL_50, kL_51, kL_52, kL_53, kL_54, kL_55, kL_56, kL_57, kL_58, kL_59, kL_60, kL_61, kW_24_1, kW_24_2, kW_24_3, kW_24_4, kW_24_5, kW_24_6, kW_24_7, kW_24_8, kW_24_9, kW_24_10, kW_24_11, kW_24_12, kW_24_14, kW_24_15, kW_24_16, kW_24_17, kW_24_18, kW_24_19, kW_24_21, kW_24_22, kW_24_23, kW_24_25, kW_24_26, kW_24_27, kW_24_28, kW_24_29, kW_24_31, kW_24_32, kW_24_33, kW_24_34, kW_24_36, kW_24_37, kW_24_44, kW_24_49, kW_24_50, kW_24_51, kW_24_52, kI_24, kI_w24, kI_25, kI_w25, kI_26, kI_w26, kI_27, kI_w27, kI_28, kI_w28, kI_29, kI_w29, kI_30, kI_w30, kI_31, kI_w31, kI_32, kI_w32, kI_33, kI_w33, kI_34, kI_w34, kI_35, kI_w35, kI_36, kI_w36, kI_37, kI_w37, kI_38, kI_w38, kI_39, kI_w39, kI_40, kI_w40, kI_41, kI_w41, kI_42, kI_w42, kI_43, kI_w43, kI_44, kI_w44, kI_45, kI_w45, kI_46, kI_w46, kI_47, kI_w47, kI_48, kI_w48, kI_49, kI_w49, kI_50, kI_w50, kI_51, kI_w51, kI_52, kI_w52, kI_53, kI_w53, kI_54, kI_w54, kI_55, kI_w55, kI_56, kI_w56, kI_57, kI_w57, kI_58, kI_w58, kI_59, kI_w59, kI_60, kI_w60, kI_61, kI_w61, h12, ix_in (show 12 < 2147483648 by decide), ix_nat (show 12 < 2147483648 by decide), Nat.reduceLT, hs, ix_le (show n0 < 2147483648 by omega) (show k < 2147483648 by omega), show n0 ≤ k by omega, e2, e0, ex_ite, exists_and_left, exists_const, exists_and_right, gF]
    have kn : k = n0 := by omega
    rcases Classical.propComplete (st ≤ 2) with z | z
    · have z2 : ¬ 2 < st := by have := of_eq_true z; omega
      simp only [z, z2, kFi, kn, true_or, or_true, false_or, or_false, not_true_eq_false, not_false_eq_true, true_and, and_true, false_and, and_false, and_self, decide_true, decide_false, ↓reduceIte, Bool.true_and, Bool.false_and, Bool.and_true, Bool.and_false, Bool.not_true, Bool.not_false, Bool.false_eq_true, Bool.true_or, Bool.or_true, Bool.false_or, Bool.or_false, reduceCtorEq, Bool.and_self, Bool.or_self, ne_eq]
    · have z2 : 2 < st := by have := of_eq_false z; omega
      rcases Classical.propComplete (op = 0) with y | y <;> simp only [z, z2, y, kFi, kn, true_or, or_true, false_or, or_false, not_true_eq_false, not_false_eq_true, true_and, and_true, false_and, and_false, and_self, decide_true, decide_false, ↓reduceIte, Bool.true_and, Bool.false_and, Bool.and_true, Bool.and_false, Bool.not_true, Bool.not_false, Bool.false_eq_true, Bool.true_or, Bool.or_true, Bool.false_or, Bool.or_false, reduceCtorEq, Bool.and_self, Bool.or_self, ne_eq]
  | m + 1, k, st, op, hk, h8, ho => by
    have h12 : (12 : Int32) = nI 12 := by decide
    have h576 : (576 : Int32) = nI 576 := by decide
    have k1 : 576 + k < 2147483648 := by omega
    have e : gF (fun k => s 16 (576 + k)) (m + 1) k st op = match gSt st (s 16 (576 + k)) op with
      | none => some k
      | some st' => gF (fun k => s 16 (576 + k)) m (k + 1) st' (gOp (s 16 (576 + k)) op) := rfl
    rw [ex_succ rfl]
    simp only [vb_X12_faultOf_6, mq_tag, mq_len, mq_i, mq_r, mq_l, mq_nx, mq_wi, mq_wr, mq_wl, true_and, and_true, and_false, false_and, and_self, ↓reduceIte, kT_24, kT_25, kT_26, kT_27, kT_28, kT_29, kT_30, kT_31, kT_32, kT_33, kT_34, kT_35, kT_36, kT_37, kT_38, kT_39, kT_40, kT_41, kT_42, kT_43, kT_44, kT_45, kT_46, kT_47, kT_48, kT_49, kT_50, kT_51, kT_52, kT_53, kT_54, kT_55, kT_56, kT_57, kT_58, kT_59, kT_60, kT_61, kL_25, kL_26, kL_27, kL_28, kL_29, kL_30, kL_31, kL_32, kL_33, kL_34, kL_35, kL_36, kL_37, kL_38, kL_39, kL_40, kL_41, kL_42, kL_43, kL_44, kL_45, kL_46, kL_47, kL_48, kL_49, kL_50, kL_51, kL_52, kL_53, kL_54, kL_55, kL_56, kL_57, kL_58, kL_59, kL_60, kL_61, kW_24_1, kW_24_2, kW_24_3, kW_24_4, kW_24_5, kW_24_6, kW_24_7, kW_24_8, kW_24_9, kW_24_10, kW_24_11, kW_24_12, kW_24_14, kW_24_15, kW_24_16, kW_24_17, kW_24_18, kW_24_19, kW_24_21, kW_24_22, kW_24_23, kW_24_25, kW_24_26, kW_24_27, kW_24_28, kW_24_29, kW_24_31, kW_24_32, kW_24_33, kW_24_34, kW_24_36, kW_24_37, kW_24_44, kW_24_49, kW_24_50, kW_24_51, kW_24_52, kI_24, kI_w24, kI_25, kI_w25, kI_26, kI_w26, kI_27, kI_w27, kI_28, kI_w28, kI_29, kI_w29, kI_30, kI_w30, kI_31, kI_w31, kI_32, kI_w32, kI_33, kI_w33, kI_34, kI_w34, kI_35, kI_w35, kI_36, kI_w36, kI_37, kI_w37, kI_38, kI_w38, kI_39, kI_w39, kI_40, kI_w40, kI_41, kI_w41, kI_42, kI_w42, kI_43, kI_w43, kI_44, kI_w44, kI_45, kI_w45, kI_46, kI_w46, kI_47, kI_w47, kI_48, kI_w48, kI_49, kI_w49, kI_50, kI_w50, kI_51, kI_w51, kI_52, kI_w52, kI_53, kI_w53, kI_54, kI_w54, kI_55, kI_w55, kI_56, kI_w56, kI_57, kI_w57, kI_58, kI_w58, kI_59, kI_w59, kI_60, kI_w60, kI_61, kI_w61, h12, ix_in (show 12 < 2147483648 by decide), ix_nat (show 12 < 2147483648 by decide), Nat.reduceLT, hs, ix_le (show n0 < 2147483648 by omega) (show k < 2147483648 by omega), show ¬ n0 ≤ k by omega, h576, nI_add, ix_in k1, ix_nat k1, show 576 + k < 624 by omega, m_step h8 (show op ≤ 48 by omega), nI_1, ex_ite, exists_and_left, exists_const, exists_and_right]
    rw [e]
    cases hg : gSt st (s 16 (576 + k)) op with
    | none =>
      simp only [kSi, show ((0 : Int32) ≤ -1) = False from eq_false (by decide), ↓reduceIte, kFi]
    | some st' =>
      obtain ⟨g8, g41⟩ := gSt_le h8 hg
      have I := fun o' ho' => ml_fp (post := post) h48 hs m (k + 1) st' o' (by omega) g8 ho'
      simp only [kSi, ix_nn (show st' < 2147483648 by omega), ↓reduceIte]
      by_cases c40 : s 16 (576 + k) = 40
      · have eo : gOp (s 16 (576 + k)) op = op + 1 := by unfold gOp; rw [if_pos c40]
        rw [eo]
        simp only [c40, ↓reduceIte]
        exact I (op + 1) (by omega)
      · by_cases c41 : s 16 (576 + k) = 41
        · have p0 := g41 c41
          have eo : gOp (s 16 (576 + k)) op = op - 1 := by unfold gOp; rw [if_neg c40, if_pos c41]
          have em : nI op + -1 = nI (op - 1) := by rw [← ix_sub1 p0]; exact (Int32.sub_eq_add_neg _ _).symm
          rw [eo]
          simp only [c41, show ((41 : Int32) = 40) = False from eq_false (by decide), ↓reduceIte, em]
          exact I (op - 1) (by omega)
        · have eo : gOp (s 16 (576 + k)) op = op := by unfold gOp; rw [if_neg c40, if_neg c41]
          rw [eo]
          simp only [c40, c41, ↓reduceIte, Int32.add_zero]
          exact I op (by omega)
theorem m_fp {n0 : Nat} (h48 : n0 ≤ 48) (hs : s 17 12 = nI n0) {post : Int32 → mj_M → Prop} : vc_X12_faultOf (B + 24) (kT B t, kL B l, kI B i c s, kW B r u, kI B q g w, x) post = post (kFi (gF (fun k => s 16 (576 + k)) n0 0 0 0)) (kT B t, kL B l, kI B i c s, kW B r u, kI B q g w, x) := by
  unfold vc_X12_faultOf
  have := ml_fp (B := B) (t := t) (l := l) (u := u) (i := i) (c := c) (s := s) (r := r) (q := q) (g := g) (w := w) (x := x) h48 hs (post := post) n0 0 0 0 (by omega) (by decide) (Nat.le_refl _)
  rw [nI_0] at this; exact this
end
section
variable {B : Nat} {M : mj_M} {K : Int32 → Int32 → mj_M → Prop}
theorem T_fault (h : kJ B M) (hK : ∀ v M', kJ B M' → K v v M') : vc_X11_fault B M (fun v M1 => mj_tag M1 (B + 24) = 13 ∧ vc_X12_fault (B + 24) M1 (fun v' M2 => K v v' M2)) := by
  obtain ⟨A, AA, AT, AN, N, t, l, u, i, c, s, r, q, g, w, x, rfl, hG⟩ := h
  obtain ⟨g1, g2, g3, g4, g5, g6, g7, g8, g9, g10⟩ := id hG
  have eF : gF (c 5) (N 3) 0 0 0 = gF (fun k => s 16 (576 + k)) (N 3) 0 0 0 := gF_to _ _ _ _ fun j _ hj => g4.2.2.2.1 j (by omega)
  simp only [vc_X11_fault, mq_tag, mq_len, mq_i, mq_r, mq_l, mq_nx, mq_wi, mq_wr, mq_wl, true_and, and_true, and_false, false_and, and_self, ↓reduceIte, kT_0, kT_1, kT_2, kT_3, kT_4, kT_5, kT_6, kT_7, kT_8, kT_9, kT_10, kT_11, kT_12, kT_13, kT_14, kT_15, kT_16, kT_17, kT_18, kT_19, kT_20, kT_21, kT_22, kT_23, kL_2, kL_3, kL_5, kL_10, kL_11, kL_12, kL_14, kL_15, kL_17, kL_18, kL_19, kL_20, kL_21, kL_22, kL_23, kW_0_0, kW_0_1, kW_0_2, kW_0_3, kW_0_4, kW_0_5, kW_0_6, kW_0_7, kW_1_4, kW_1_5, kW_4_0, kW_4_1, kW_9_0, kW_9_1, kW_9_2, kW_13_0, kW_13_1, kW_16_0, kW_16_1, kW_16_2, kW_16_3, kW_16_4, kW_16_5, kW_1_1, kW_1_2, kW_4_4, kW_8_0, kW_8_1, kW_w1_1, kW_w1_2, kW_w4_4, kW_w8_0, kW_w8_1, kI_0, kI_w0, kI_1, kI_w1, kI_2, kI_w2, kI_3, kI_w3, kI_4, kI_w4, kI_5, kI_w5, kI_6, kI_w6, kI_7, kI_w7, kI_8, kI_w8, kI_9, kI_w9, kI_10, kI_w10, kI_11, kI_w11, kI_12, kI_w12, kI_13, kI_w13, kI_14, kI_w14, kI_15, kI_w15, kI_16, kI_w16, kI_17, kI_w17, kI_18, kI_w18, kI_19, kI_w19, kI_20, kI_w20, kI_21, kI_w21, kI_22, kI_w22, kI_23, kI_w23]
  refine c_fp g4.1 g4.2.1 fun c' hc' => ⟨kT_24, ?_⟩
  simp only [vc_X12_fault, mq_tag, mq_len, mq_i, mq_r, mq_l, mq_nx, mq_wi, mq_wr, mq_wl, true_and, and_true, and_false, false_and, and_self, ↓reduceIte, kT_24, kT_25, kT_26, kT_27, kT_28, kT_29, kT_30, kT_31, kT_32, kT_33, kT_34, kT_35, kT_36, kT_37, kT_38, kT_39, kT_40, kT_41, kT_42, kT_43, kT_44, kT_45, kT_46, kT_47, kT_48, kT_49, kT_50, kT_51, kT_52, kT_53, kT_54, kT_55, kT_56, kT_57, kT_58, kT_59, kT_60, kT_61, kL_25, kL_26, kL_27, kL_28, kL_29, kL_30, kL_31, kL_32, kL_33, kL_34, kL_35, kL_36, kL_37, kL_38, kL_39, kL_40, kL_41, kL_42, kL_43, kL_44, kL_45, kL_46, kL_47, kL_48, kL_49, kL_50, kL_51, kL_52, kL_53, kL_54, kL_55, kL_56, kL_57, kL_58, kL_59, kL_60, kL_61, kW_24_1, kW_24_2, kW_24_3, kW_24_4, kW_24_5, kW_24_6, kW_24_7, kW_24_8, kW_24_9, kW_24_10, kW_24_11, kW_24_12, kW_24_14, kW_24_15, kW_24_16, kW_24_17, kW_24_18, kW_24_19, kW_24_21, kW_24_22, kW_24_23, kW_24_25, kW_24_26, kW_24_27, kW_24_28, kW_24_29, kW_24_31, kW_24_32, kW_24_33, kW_24_34, kW_24_36, kW_24_37, kW_24_44, kW_24_49, kW_24_50, kW_24_51, kW_24_52, kI_24, kI_w24, kI_25, kI_w25, kI_26, kI_w26, kI_27, kI_w27, kI_28, kI_w28, kI_29, kI_w29, kI_30, kI_w30, kI_31, kI_w31, kI_32, kI_w32, kI_33, kI_w33, kI_34, kI_w34, kI_35, kI_w35, kI_36, kI_w36, kI_37, kI_w37, kI_38, kI_w38, kI_39, kI_w39, kI_40, kI_w40, kI_41, kI_w41, kI_42, kI_w42, kI_43, kI_w43, kI_44, kI_w44, kI_45, kI_w45, kI_46, kI_w46, kI_47, kI_w47, kI_48, kI_w48, kI_49, kI_w49, kI_50, kI_w50, kI_51, kI_w51, kI_52, kI_w52, kI_53, kI_w53, kI_54, kI_w54, kI_55, kI_w55, kI_56, kI_w56, kI_57, kI_w57, kI_58, kI_w58, kI_59, kI_w59, kI_60, kI_w60, kI_61, kI_w61, m_fp g4.1 g4.2.2.1]
  rw [eF]
  exact hK _ _ (kJ.mk (hG.scr (fun j j6 _ _ => hc' j j6) (fun _ _ _ _ _ _ => rfl) (fun _ _ _ => rfl)))
/-- the copying of a text to the row of an act -/
def kCp (s : Nat → Nat → Int32) (a m k : Nat) : Nat → Nat → Int32 := fun j h => if j = 16 ∧ 48 * a + k ≤ h ∧ h < 48 * a + k + m then s 16 (576 + (h - 48 * a)) else s j h
theorem ml_act {x : Nat} {t l u : Nat → Nat} {i c : Nat → Nat → Int32} {r : Nat → Nat → Nat} {q g w : Nat → Nat → Int64} {n0 na : Nat} {a b : Int32} (h48 : n0 ≤ 48) (hna : na < 12) {post : Int32 → mj_M → Prop} : ∀ (m k : Nat) (s : Nat → Nat → Int32), k + m = n0 → s 17 12 = nI n0 → s 0 20 = nI na →
    (∃ fe, vb_X12_act_59 post fe (B + 24) a b (nI k) (kT B t, kL B l, kI B i c s, kW B r u, kI B q g w, x)) = post (nI (na + 1)) (kT B t, kL B l, kI B i c (mj_u2 (mj_u2 (mj_u2 (mj_u2 (kCp s na m k) 18 na a) 19 na b) 17 12 0) 0 20 (nI (na + 1))), kW B r u, kI B q g w, x)
  | 0, k, s, hk, hs, h20 => by
    have h12 : (12 : Int32) = nI 12 := by decide
    have e1 : kCp s na 0 k = s := by funext j h; unfold kCp; rw [if_neg (by omega)]
    rw [ex_succ rfl, e1]
    simp only [vb_X12_act_59, mq_tag, mq_len, mq_i, mq_r, mq_l, mq_nx, mq_wi, mq_wr, mq_wl, true_and, and_true, and_false, false_and, and_self, ↓reduceIte, kT_24, kT_25, kT_26, kT_27, kT_28, kT_29, kT_30, kT_31, kT_32, kT_33, kT_34, kT_35, kT_36, kT_37, kT_38, kT_39, kT_40, kT_41, kT_42, kT_43, kT_44, kT_45, kT_46, kT_47, kT_48, kT_49, kT_50, kT_51, kT_52, kT_53, kT_54, kT_55, kT_56, kT_57, kT_58, kT_59, kT_60, kT_61, kL_25, kL_26, kL_27, kL_28, kL_29, kL_30, kL_31, kL_32, kL_33, kL_34, kL_35, kL_36, kL_37, kL_38, kL_39, kL_40, kL_41, kL_42, kL_43, kL_44, kL_45, kL_46, kL_47, kL_48, kL_49, kL_50, kL_51, kL_52, kL_53, kL_54, kL_55, kL_56, kL_57, kL_58, kL_59, kL_60, kL_61, kW_24_1, kW_24_2, kW_24_3, kW_24_4, kW_24_5, kW_24_6, kW_24_7, kW_24_8, kW_24_9, kW_24_10, kW_24_11, kW_24_12, kW_24_14, kW_24_15, kW_24_16, kW_24_17, kW_24_18, kW_24_19, kW_24_21, kW_24_22, kW_24_23, kW_24_25, kW_24_26, kW_24_27, kW_24_28, kW_24_29, kW_24_31, kW_24_32, kW_24_33, kW_24_34, kW_24_36, kW_24_37, kW_24_44, kW_24_49, kW_24_50, kW_24_51, kW_24_52, kI_24, kI_w24, kI_25, kI_w25, kI_26, kI_w26, kI_27, kI_w27, kI_28, kI_w28, kI_29, kI_w29, kI_30, kI_w30, kI_31, kI_w31, kI_32, kI_w32, kI_33, kI_w33, kI_34, kI_w34, kI_35, kI_w35, kI_36, kI_w36, kI_37, kI_w37, kI_38, kI_w38, kI_39, kI_w39, kI_40, kI_w40, kI_41, kI_w41, kI_42, kI_w42, kI_43, kI_w43, kI_44, kI_w44, kI_45, kI_w45, kI_46, kI_w46, kI_47, kI_w47, kI_48, kI_w48, kI_49, kI_w49, kI_50, kI_w50, kI_51, kI_w51, kI_52, kI_w52, kI_53, kI_w53, kI_54, kI_w54, kI_55, kI_w55, kI_56, kI_w56, kI_57, kI_w57, kI_58, kI_w58, kI_59, kI_w59, kI_60, kI_w60, kI_61, kI_w61, h12, ix_in (show 12 < 2147483648 by decide), ix_nat (show 12 < 2147483648 by decide), Nat.reduceLT, hs, ix_le (show n0 < 2147483648 by omega) (show k < 2147483648 by omega), show n0 ≤ k by omega, h20, ix_in (show na < 2147483648 by omega), ix_nat (show na < 2147483648 by omega), hna, mq_u2s, mq_u2n, ne_eq, Nat.reduceEqDiff, not_false_eq_true, nI_1, ex_ite, exists_and_left, exists_const, exists_and_right]
  | m + 1, k, s, hk, hs, h20 => by
    have h12 : (12 : Int32) = nI 12 := by decide
    have h576 : (576 : Int32) = nI 576 := by decide
    have m48 : (48 : Int32) * nI na = nI (48 * na) := by rw [show (48 : Int32) = nI 48 by decide]; exact (Int32.ofNat_mul 48 na).symm
    have e1 : kCp s na (m + 1) k = kCp (mj_u2 s 16 (48 * na + k) (s 16 (576 + k))) na m (k + 1) := by
      funext j h
      unfold kCp
      by_cases hj : j = 16
      · subst hj
        by_cases hh : h = 48 * na + k
        · subst hh
          rw [if_pos (by omega), if_neg (by omega), mq_u2s, show 48 * na + k - 48 * na = k by omega]
        · by_cases hr : 48 * na + (k + 1) ≤ h ∧ h < 48 * na + (k + 1) + m
          · rw [if_pos (by omega), if_pos (by omega), mq_u2k (by omega)]
          · rw [if_neg (by omega), if_neg (by omega), mq_u2k hh]
      · rw [if_neg (by omega), if_neg (by omega), mq_u2n hj]
    have I := ml_act (t := t) (l := l) (u := u) (i := i) (c := c) (r := r) (q := q) (g := g) (w := w) (x := x) (post := post) (a := a) (b := b) h48 hna m (k + 1) (mj_u2 s 16 (48 * na + k) (s 16 (576 + k))) (by omega) (by rw [mq_u2n (by decide)]; exact hs) (by rw [mq_u2n (by decide)]; exact h20)
    rw [ex_succ rfl]
    simp only [vb_X12_act_59, mq_tag, mq_len, mq_i, mq_r, mq_l, mq_nx, mq_wi, mq_wr, mq_wl, true_and, and_true, and_false, false_and, and_self, ↓reduceIte, kT_24, kT_25, kT_26, kT_27, kT_28, kT_29, kT_30, kT_31, kT_32, kT_33, kT_34, kT_35, kT_36, kT_37, kT_38, kT_39, kT_40, kT_41, kT_42, kT_43, kT_44, kT_45, kT_46, kT_47, kT_48, kT_49, kT_50, kT_51, kT_52, kT_53, kT_54, kT_55, kT_56, kT_57, kT_58, kT_59, kT_60, kT_61, kL_25, kL_26, kL_27, kL_28, kL_29, kL_30, kL_31, kL_32, kL_33, kL_34, kL_35, kL_36, kL_37, kL_38, kL_39, kL_40, kL_41, kL_42, kL_43, kL_44, kL_45, kL_46, kL_47, kL_48, kL_49, kL_50, kL_51, kL_52, kL_53, kL_54, kL_55, kL_56, kL_57, kL_58, kL_59, kL_60, kL_61, kW_24_1, kW_24_2, kW_24_3, kW_24_4, kW_24_5, kW_24_6, kW_24_7, kW_24_8, kW_24_9, kW_24_10, kW_24_11, kW_24_12, kW_24_14, kW_24_15, kW_24_16, kW_24_17, kW_24_18, kW_24_19, kW_24_21, kW_24_22, kW_24_23, kW_24_25, kW_24_26, kW_24_27, kW_24_28, kW_24_29, kW_24_31, kW_24_32, kW_24_33, kW_24_34, kW_24_36, kW_24_37, kW_24_44, kW_24_49, kW_24_50, kW_24_51, kW_24_52, kI_24, kI_w24, kI_25, kI_w25, kI_26, kI_w26, kI_27, kI_w27, kI_28, kI_w28, kI_29, kI_w29, kI_30, kI_w30, kI_31, kI_w31, kI_32, kI_w32, kI_33, kI_w33, kI_34, kI_w34, kI_35, kI_w35, kI_36, kI_w36, kI_37, kI_w37, kI_38, kI_w38, kI_39, kI_w39, kI_40, kI_w40, kI_41, kI_w41, kI_42, kI_w42, kI_43, kI_w43, kI_44, kI_w44, kI_45, kI_w45, kI_46, kI_w46, kI_47, kI_w47, kI_48, kI_w48, kI_49, kI_w49, kI_50, kI_w50, kI_51, kI_w51, kI_52, kI_w52, kI_53, kI_w53, kI_54, kI_w54, kI_55, kI_w55, kI_56, kI_w56, kI_57, kI_w57, kI_58, kI_w58, kI_59, kI_w59, kI_60, kI_w60, kI_61, kI_w61, h12, ix_in (show 12 < 2147483648 by decide), ix_nat (show 12 < 2147483648 by decide), Nat.reduceLT, hs, ix_le (show n0 < 2147483648 by omega) (show k < 2147483648 by omega), show ¬ n0 ≤ k by omega, h576, h20, m48, nI_add, ix_in (show 576 + k < 2147483648 by omega), ix_nat (show 576 + k < 2147483648 by omega), ix_in (show 48 * na + k < 2147483648 by omega), ix_nat (show 48 * na + k < 2147483648 by omega), show 576 + k < 624 by omega, show 48 * na + k < 624 by omega, nI_1, ex_ite, exists_and_left, exists_const, exists_and_right]
    rw [I, e1]
theorem kI_f5 {α : Type} {B : Nat} {i c s : Nat → Nat → α} : kI B i c s (B + 5) = c 5 := by funext k; exact kI_5
/-- an act and its text are made -/
theorem kCD.newA {B x n na nn : Nat} {A AA AT AN : Nat → Nat} {t l : Nat → Nat} {i e : Nat → Nat → Int32} {r : Nat → Nat → Nat} {e' i' : Nat → Nat → Int32} {r' : Nat → Nat → Nat} {l' : Nat → Nat} {f : Nat → Int32} {m0 : Nat} (H : kCD B A AA AT AN n na nn e t l i r x) (hna : na < 12) (hm : m0 ≤ 48) (hl : nI (l' (x + 1)) = e' 17 na) (hlm : l' (x + 1) ≤ 48)
    (hi : ∀ a, a ≠ x → a ≠ x + 1 → i' a = i a) (hr : ∀ a, a ≠ x → r' a = r a) (hlo : ∀ a, a ≠ x → a ≠ x + 1 → l' a = l a)
    (x0 : i' x 0 = e' 18 na) (x1 : i' x 1 = e' 19 na) (x2 : r' x 2 = x + 1) (x3 : r' x 3 = if na = 0 then 0 else AA (na - 1)) (x4 : ∀ k, k < l' (x + 1) → i' (x + 1) k = e' 16 (48 * na + k))
    (o1 : ∀ j, 1 ≤ j → j ≤ 12 → e' j = e j) (o2 : ∀ j, 17 ≤ j → j ≤ 19 → ∀ h, h < na → e' j h = e j h) (o3 : ∀ h, h < 48 * na → e' 16 h = e 16 h) (o4 : ∀ j, 25 ≤ j → j ≤ 29 → e' j = e j) :
    kCD B A (mj_u1 AA na x) (mj_u1 AT na (x + 1)) AN n (na + 1) nn e' (mj_u1 (mj_u1 t x 1) (x + 1) 101) l' i' r' (x + 2) := by
  obtain ⟨⟨p1, p2, p3, p4, p5⟩, ⟨⟨a1, a2⟩, ⟨b1, b2⟩, ⟨c1, c2⟩, ⟨d1, d2⟩⟩, v1, v2, k1, k2, k3⟩ := id H
  have LA : ∀ h, h < na → mj_u1 AA na x h = AA h := fun h hh => mq_u1n (by omega)
  have LT : ∀ h, h < na → mj_u1 AT na (x + 1) h = AT h := fun h hh => mq_u1n (by omega)
  have tt : ∀ a, a < x → mj_u1 (mj_u1 t x 1) (x + 1) 101 a = t a := fun a h => by rw [mq_u1n (by omega), mq_u1n (by omega)]
  refine ⟨⟨p1, by omega, p3, p4, by omega⟩, ⟨⟨?_, a2⟩, ⟨?_, ?_⟩, ⟨?_, ?_⟩, ⟨?_, d2⟩⟩, ?_, ?_, ?_, ?_, ?_⟩
  · intro h hh; obtain ⟨q1, q2, q3⟩ := a1 h hh; rw [tt _ q2]; exact ⟨q1, by omega, q3⟩
  · intro h hh
    by_cases e1 : h = na
    · subst e1; rw [mq_u1s]; exact ⟨p5, by omega, by rw [mq_u1n (by omega), mq_u1s]⟩
    · obtain ⟨q1, q2, q3⟩ := b1 h (by omega); rw [LA h (by omega), tt _ q2]; exact ⟨q1, by omega, q3⟩
  · intro a b ha hb hab
    by_cases e1 : a = na <;> by_cases e2 : b = na
    · omega
    · subst e1; rw [mq_u1s, LA b (by omega)] at hab; have := (b1 b (by omega)).2.1; omega
    · subst e2; rw [mq_u1s, LA a (by omega)] at hab; have := (b1 a (by omega)).2.1; omega
    · rw [LA a (by omega), LA b (by omega)] at hab; exact b2 a b (by omega) (by omega) hab
  · intro h hh
    by_cases e1 : h = na
    · subst e1; rw [mq_u1s]; exact ⟨by omega, by omega, mq_u1s⟩
    · obtain ⟨q1, q2, q3⟩ := c1 h (by omega); rw [LT h (by omega), tt _ q2]; exact ⟨q1, by omega, q3⟩
  · intro a b ha hb hab
    by_cases e1 : a = na <;> by_cases e2 : b = na
    · omega
    · subst e1; rw [mq_u1s, LT b (by omega)] at hab; have := (c1 b (by omega)).2.1; omega
    · subst e2; rw [mq_u1s, LT a (by omega)] at hab; have := (c1 a (by omega)).2.1; omega
    · rw [LT a (by omega), LT b (by omega)] at hab; exact c2 a b (by omega) (by omega) hab
  · intro h hh; obtain ⟨q1, q2, q3⟩ := d1 h hh; rw [tt _ q2]; exact ⟨q1, by omega, q3⟩
  · intro h hh; rw [o1 1 (by decide) (by decide), o1 12 (by decide) (by decide)]; exact v1 h hh
  · intro k hk; rw [o4 25 (by decide) (by decide)]; exact v2 k hk
  · intro h hh
    have z := (a1 h hh).2.1
    obtain ⟨q1, q2, q3, q4, q5⟩ := k1 h hh
    unfold kH1
    rw [hi _ (by omega) (by omega), hr _ (by omega), o1 1 (by decide) (by decide), o1 12 (by decide) (by decide)]
    exact ⟨q1, fun j j1 j2 => by rw [o1 j (by omega) (by omega)]; exact q2 j j1 j2, q3, q4, q5⟩
  · intro a ha
    by_cases e1 : a = na
    · subst e1
      unfold kA1
      rw [mq_u1s, mq_u1s]
      refine ⟨x0, x1, x2, ?_, hl, hlm, x4⟩
      rw [x3]
      by_cases z : a = 0
      · rw [if_pos z, if_pos z]
      · rw [if_neg z, if_neg z, LA _ (by omega)]
    · have ha' : a < na := by omega
      have z := (b1 a ha').2.1
      have z2 := (c1 a ha').2.1
      obtain ⟨q1, q2, q3, q4, q5, q6, q7⟩ := k2 a ha'
      unfold kA1
      rw [LA a ha', LT a ha', hi _ (show AA a ≠ x by omega) (by omega), hr _ (show AA a ≠ x by omega), hi _ (show AT a ≠ x by omega) (by omega), hlo _ (show AT a ≠ x by omega) (by omega), o2 17 (by decide) (by decide) a ha', o2 18 (by decide) (by decide) a ha', o2 19 (by decide) (by decide) a ha']
      refine ⟨q1, q2, q3, ?_, q5, q6, fun k hk => by rw [o3 _ (by omega)]; exact q7 k hk⟩
      rw [q4]
      by_cases z : a = 0
      · rw [if_pos z, if_pos z]
      · rw [if_neg z, if_neg z, LA _ (by omega)]
  · intro k hk
    have z := (d1 k hk).2.1
    obtain ⟨q1, q2, q3, q4, q5, q6, q7⟩ := k3 k hk
    unfold kN1
    rw [hi _ (by omega) (by omega), hr _ (by omega), o4 25 (by decide) (by decide), o4 26 (by decide) (by decide), o4 27 (by decide) (by decide), o4 28 (by decide) (by decide), o4 29 (by decide) (by decide)]
    exact ⟨q1, q2, q3, q4, q5, q6, q7⟩
end

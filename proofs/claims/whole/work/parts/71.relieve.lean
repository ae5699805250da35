/-! STAGE B: relief -/
def kRe (e : Nat → Nat → Int32) (o : Int32) (m k : Nat) : Nat → Nat → Int32 := fun j h => if k ≤ h ∧ h < k + m ∧ e 12 h = o then (if j = 6 then 0 else if j = 12 then -6 else e j h) else e j h
theorem kRe_0 {e : Nat → Nat → Int32} {o : Int32} {k : Nat} : kRe e o 0 k = e := by
  funext j h; unfold kRe; rw [if_neg (by omega)]
theorem kRe_f {e : Nat → Nat → Int32} {o : Int32} {m k : Nat} (hc : ¬ e 12 k = o) : kRe e o (m + 1) k = kRe e o m (k + 1) := by
  funext j h
  unfold kRe
  by_cases hk : h = k
  · subst hk
    rw [if_neg (fun z => hc z.2.2), if_neg (by omega)]
  · have e1 : (k ≤ h ∧ h < k + (m + 1) ∧ e 12 h = o) = (k + 1 ≤ h ∧ h < k + 1 + m ∧ e 12 h = o) := propext ⟨fun z => ⟨by omega, by omega, z.2.2⟩, fun z => ⟨by omega, by omega, z.2.2⟩⟩
    simp only [e1]
theorem kRe_t {e : Nat → Nat → Int32} {o : Int32} {m k : Nat} (hc : e 12 k = o) : kRe e o (m + 1) k = kRe (mj_u2 (mj_u2 e 6 k 0) 12 k (-6)) o m (k + 1) := by
  funext j h
  unfold kRe
  by_cases hk : h = k
  · subst hk
    have n2 : ¬ (h + 1 ≤ h ∧ h < h + 1 + m ∧ mj_u2 (mj_u2 e 6 h 0) 12 h (-6) 12 h = o) := by omega
    rw [if_pos ⟨Nat.le_refl _, by omega, hc⟩, if_neg n2]
    by_cases j6 : j = 6
    · subst j6; simp [mq_u2]
    · by_cases j12 : j = 12
      · subst j12; simp [mq_u2]
      · simp [mq_u2, j6, j12]
  · have e2 : mj_u2 (mj_u2 e 6 k 0) 12 k (-6) 12 h = e 12 h := by rw [mq_u2k hk, mq_u2k hk]
    have e1 : (k ≤ h ∧ h < k + (m + 1) ∧ e 12 h = o) = (k + 1 ≤ h ∧ h < k + 1 + m ∧ e 12 h = o) := propext ⟨fun z => ⟨by omega, by omega, z.2.2⟩, fun z => ⟨by omega, by omega, z.2.2⟩⟩
    rw [e2]
    simp only [e1, mq_u2, hk, and_false, ↓reduceIte]
section
variable {B x n na nn : Nat} {A AA AT AN : Nat → Nat} {t l u : Nat → Nat} {c : Nat → Nat → Int32} {q g w : Nat → Nat → Int64}
theorem cl_stand {s : Nat → Nat → Int32} {k0 : Nat} (hk0 : k0 < n) {post : Int32 → mj_M → Prop} : ∀ m k (a : Nat) (e i : Nat → Nat → Int32) (r : Nat → Nat → Nat), k + m = n → kCD B A AA AT AN n na nn e t l i r x →
    (∀ i' r', kCD B A AA AT AN n na nn (kRe e (nI k0) m k) t l i' r' x → post (nI (a + kNm (fun h => decide (e 12 h = nI k0)) m k)) (kT B t, kL B l, kI B i' c s, kW B r' u, kI B q g w, x)) →
    ∃ fe, vb_X4_standAgain_18 post fe (A k0) (nI a) (kP A n k) (kT B t, kL B l, kI B i c s, kW B r u, kI B q g w, x)
  | 0, k, a, e, i, r, hk, H, hp => by
    refine ex_imp ⟨0, ?_⟩
    simp only [vb_X4_standAgain_18, kP_ge (show n ≤ k by omega), ↓reduceIte]
    exact hp i r (by rw [kRe_0]; exact H)
  | m + 1, k, a, e, i, r, hk, H, hp => by
    have hk' : k < n := by omega
    have H2 := (H.wi hk' (j := 6) (by decide) 0).w12 hk' (v := -6) kV_m6
    rw [kR_m6] at H2
    have e4 : kW B (mj_u2 r (A k) 13 0) u (A k) 1 = kP A n (k + 1) := (kW_o (H.AH hk')).trans ((mq_u2k (by decide)).trans (H.2.2.2.2.1 k hk').2.2.1)
    rw [ex_succ rfl]
    simp only [vb_X4_standAgain_18, kP_lt hk', mq_tag, mq_len, mq_i, mq_r, mq_l, mq_nx, mq_wi, mq_wr, mq_wl, true_and, and_true, and_false, false_and, and_self, ↓reduceIte, kT_0, kT_1, kT_2, kT_3, kT_4, kT_5, kT_6, kT_7, kT_8, kT_9, kT_10, kT_11, kT_12, kT_13, kT_14, kT_15, kT_16, kT_17, kT_18, kT_19, kT_20, kT_21, kT_22, kT_23, kL_2, kL_3, kL_5, kL_10, kL_11, kL_12, kL_14, kL_15, kL_17, kL_18, kL_19, kL_20, kL_21, kL_22, kL_23, kW_0_0, kW_0_1, kW_0_2, kW_0_3, kW_0_4, kW_0_5, kW_0_6, kW_0_7, kW_1_4, kW_1_5, kW_4_0, kW_4_1, kW_9_0, kW_9_1, kW_9_2, kW_13_0, kW_13_1, kW_16_0, kW_16_1, kW_16_2, kW_16_3, kW_16_4, kW_16_5, kW_1_1, kW_1_2, kW_4_4, kW_8_0, kW_8_1, kW_w1_1, kW_w1_2, kW_w4_4, kW_w8_0, kW_w8_1, kI_0, kI_w0, kI_1, kI_w1, kI_2, kI_w2, kI_3, kI_w3, kI_4, kI_w4, kI_5, kI_w5, kI_6, kI_w6, kI_7, kI_w7, kI_8, kI_w8, kI_9, kI_w9, kI_10, kI_w10, kI_11, kI_w11, kI_12, kI_w12, kI_13, kI_w13, kI_14, kI_w14, kI_15, kI_w15, kI_16, kI_w16, kI_17, kI_w17, kI_18, kI_w18, kI_19, kI_w19, kI_20, kI_w20, kI_21, kI_w21, kI_22, kI_w22, kI_23, kI_w23, H.atT hk', H.atI hk', H.atW hk', H.RH (H.V12 hk') hk0, kI_wo (H.AH hk'), kW_wo (H.AH hk'), e4, nI_1, ex_ite, exists_and_left, exists_const, exists_and_right]
    by_cases q1 : e 12 k = nI k0
    · simp only [q1, ↓reduceIte]
      refine cl_stand hk0 m (k + 1) (a + 1) _ _ _ (by omega) H2 fun i' r' h => ?_
      have h2 := hp i' r' (by rw [kRe_t q1]; exact h)
      have e5 : kNm (fun h => decide (mj_u2 (mj_u2 e 6 k 0) 12 k (-6) 12 h = nI k0)) m (k + 1) = kNm (fun h => decide (e 12 h = nI k0)) m (k + 1) := by
        have : ∀ m k', k < k' → kNm (fun h => decide (mj_u2 (mj_u2 e 6 k 0) 12 k (-6) 12 h = nI k0)) m k' = kNm (fun h => decide (e 12 h = nI k0)) m k' := by
          intro m
          induction m with
          | zero => intro k' _; rfl
          | succ m ih =>
            intro k' hk2
            simp only [kNm]
            have e9 : mj_u2 (mj_u2 e 6 k 0) 12 k (-6) 12 k' = e 12 k' := by rw [mq_u2k (by omega), mq_u2k (by omega)]
            rw [ih (k' + 1) (by omega)]
            simp only [e9]
        exact this m (k + 1) (by omega)
      rw [e5]
      rwa [show a + kNm (fun h => decide (e 12 h = nI k0)) (m + 1) k = a + 1 + kNm (fun h => decide (e 12 h = nI k0)) m (k + 1) by
        simp only [kNm, q1, decide_true, ↓reduceIte]; omega] at h2
    · simp only [q1, ↓reduceIte]
      refine cl_stand hk0 m (k + 1) a e i r (by omega) H fun i' r' h => ?_
      have h2 := hp i' r' (by rw [kRe_f q1]; exact h)
      rwa [show a + kNm (fun h => decide (e 12 h = nI k0)) (m + 1) k = a + kNm (fun h => decide (e 12 h = nI k0)) m (k + 1) by
        simp only [kNm, q1, decide_false, Bool.false_eq_true, ↓reduceIte]; omega] at h2
theorem ml_stand {i : Nat → Nat → Int32} {r : Nat → Nat → Nat} {o : Int32} {post : Int32 → mj_M → Prop} (h40 : n ≤ 40) : ∀ m k (a : Nat) (s : Nat → Nat → Int32), k + m = n → s 0 13 = nI n → (∀ h, k ≤ h → h < n → s 12 h = o → s 6 h = 4) →
    (∃ fe, vb_X12_relieve_140 post fe (B + 24) o (nI a) (nI k) (kT B t, kL B l, kI B i c s, kW B r u, kI B q g w, x)) = post (nI (a + kNm (fun h => decide (s 12 h = o)) m k)) (kT B t, kL B l, kI B i c (kRe s o m k), kW B r u, kI B q g w, x)
  | 0, k, a, s, hk, hn, he => by
    rw [ex_succ rfl, kRe_0]
    simp only [vb_X12_relieve_140, mq_tag, mq_len, mq_i, mq_r, mq_l, mq_nx, mq_wi, mq_wr, mq_wl, true_and, and_true, and_false, false_and, and_self, ↓reduceIte, kT_24, kT_25, kT_26, kT_27, kT_28, kT_29, kT_30, kT_31, kT_32, kT_33, kT_34, kT_35, kT_36, kT_37, kT_38, kT_39, kT_40, kT_41, kT_42, kT_43, kT_44, kT_45, kT_46, kT_47, kT_48, kT_49, kT_50, kT_51, kT_52, kT_53, kT_54, kT_55, kT_56, kT_57, kT_58, kT_59, kT_60, kT_61, kL_25, kL_26, kL_27, kL_28, kL_29, kL_30, kL_31, kL_32, kL_33, kL_34, kL_35, kL_36, kL_37, kL_38, kL_39, kL_40, kL_41, kL_42, kL_43, kL_44, kL_45, kL_46, kL_47, kL_48, kL_49, kL_50, kL_51, kL_52, kL_53, kL_54, kL_55, kL_56, kL_57, kL_58, kL_59, kL_60, kL_61, kW_24_1, kW_24_2, kW_24_3, kW_24_4, kW_24_5, kW_24_6, kW_24_7, kW_24_8, kW_24_9, kW_24_10, kW_24_11, kW_24_12, kW_24_14, kW_24_15, kW_24_16, kW_24_17, kW_24_18, kW_24_19, kW_24_21, kW_24_22, kW_24_23, kW_24_25, kW_24_26, kW_24_27, kW_24_28, kW_24_29, kW_24_31, kW_24_32, kW_24_33, kW_24_34, kW_24_36, kW_24_37, kW_24_44, kW_24_49, kW_24_50, kW_24_51, kW_24_52, kI_24, kI_w24, kI_25, kI_w25, kI_26, kI_w26, kI_27, kI_w27, kI_28, kI_w28, kI_29, kI_w29, kI_30, kI_w30, kI_31, kI_w31, kI_32, kI_w32, kI_33, kI_w33, kI_34, kI_w34, kI_35, kI_w35, kI_36, kI_w36, kI_37, kI_w37, kI_38, kI_w38, kI_39, kI_w39, kI_40, kI_w40, kI_41, kI_w41, kI_42, kI_w42, kI_43, kI_w43, kI_44, kI_w44, kI_45, kI_w45, kI_46, kI_w46, kI_47, kI_w47, kI_48, kI_w48, kI_49, kI_w49, kI_50, kI_w50, kI_51, kI_w51, kI_52, kI_w52, kI_53, kI_w53, kI_54, kI_w54, kI_55, kI_w55, kI_56, kI_w56, kI_57, kI_w57, kI_58, kI_w58, kI_59, kI_w59, kI_60, kI_w60, kI_61, kI_w61, hn, ix_le (show n < 2147483648 by omega) (show k < 2147483648 by omega), show n ≤ k by omega, ex_ite, exists_and_left, exists_const, exists_and_right]
    rfl
  | m + 1, k, a, s, hk, hn, he => by
    have hk' : k < n := by omega
    have k1 : k < 2147483648 := by omega
    rw [ex_succ rfl]
    simp only [vb_X12_relieve_140, mq_tag, mq_len, mq_i, mq_r, mq_l, mq_nx, mq_wi, mq_wr, mq_wl, true_and, and_true, and_false, false_and, and_self, ↓reduceIte, kT_24, kT_25, kT_26, kT_27, kT_28, kT_29, kT_30, kT_31, kT_32, kT_33, kT_34, kT_35, kT_36, kT_37, kT_38, kT_39, kT_40, kT_41, kT_42, kT_43, kT_44, kT_45, kT_46, kT_47, kT_48, kT_49, kT_50, kT_51, kT_52, kT_53, kT_54, kT_55, kT_56, kT_57, kT_58, kT_59, kT_60, kT_61, kL_25, kL_26, kL_27, kL_28, kL_29, kL_30, kL_31, kL_32, kL_33, kL_34, kL_35, kL_36, kL_37, kL_38, kL_39, kL_40, kL_41, kL_42, kL_43, kL_44, kL_45, kL_46, kL_47, kL_48, kL_49, kL_50, kL_51, kL_52, kL_53, kL_54, kL_55, kL_56, kL_57, kL_58, kL_59, kL_60, kL_61, kW_24_1, kW_24_2, kW_24_3, kW_24_4, kW_24_5, kW_24_6, kW_24_7, kW_24_8, kW_24_9, kW_24_10, kW_24_11, kW_24_12, kW_24_14, kW_24_15, kW_24_16, kW_24_17, kW_24_18, kW_24_19, kW_24_21, kW_24_22, kW_24_23, kW_24_25, kW_24_26, kW_24_27, kW_24_28, kW_24_29, kW_24_31, kW_24_32, kW_24_33, kW_24_34, kW_24_36, kW_24_37, kW_24_44, kW_24_49, kW_24_50, kW_24_51, kW_24_52, kI_24, kI_w24, kI_25, kI_w25, kI_26, kI_w26, kI_27, kI_w27, kI_28, kI_w28, kI_29, kI_w29, kI_30, kI_w30, kI_31, kI_w31, kI_32, kI_w32, kI_33, kI_w33, kI_34, kI_w34, kI_35, kI_w35, kI_36, kI_w36, kI_37, kI_w37, kI_38, kI_w38, kI_39, kI_w39, kI_40, kI_w40, kI_41, kI_w41, kI_42, kI_w42, kI_43, kI_w43, kI_44, kI_w44, kI_45, kI_w45, kI_46, kI_w46, kI_47, kI_w47, kI_48, kI_w48, kI_49, kI_w49, kI_50, kI_w50, kI_51, kI_w51, kI_52, kI_w52, kI_53, kI_w53, kI_54, kI_w54, kI_55, kI_w55, kI_56, kI_w56, kI_57, kI_w57, kI_58, kI_w58, kI_59, kI_w59, kI_60, kI_w60, kI_61, kI_w61, hn, ix_le (show n < 2147483648 by omega) (show k < 2147483648 by omega), show ¬ n ≤ k by omega, ix_in k1, ix_nat k1, show k < 40 by omega, nI_1, ex_ite, exists_and_left, exists_const, exists_and_right]
    by_cases q1 : s 12 k = o
    · have I := ml_stand (i := i) (r := r) (o := o) (post := post) h40 m (k + 1) (a + 1) (mj_u2 (mj_u2 s 6 k 0) 12 k (-6)) (by omega) (by rw [mq_u2n (by decide), mq_u2n (by decide)]; exact hn) (fun h h1 h2 h3 => by
        rw [mq_u2k (by omega), mq_u2k (by omega)] at h3
        rw [mq_u2n (by decide), mq_u2k (by omega)]; exact he h (by omega) h2 h3)
      have e5 : kNm (fun h => decide (mj_u2 (mj_u2 s 6 k 0) 12 k (-6) 12 h = o)) m (k + 1) = kNm (fun h => decide (s 12 h = o)) m (k + 1) := by
        have : ∀ m k', k < k' → kNm (fun h => decide (mj_u2 (mj_u2 s 6 k 0) 12 k (-6) 12 h = o)) m k' = kNm (fun h => decide (s 12 h = o)) m k' := by
          intro m
          induction m with
          | zero => intro k' _; rfl
          | succ m ih =>
            intro k' hk2
            simp only [kNm]
            have e9 : mj_u2 (mj_u2 s 6 k 0) 12 k (-6) 12 k' = s 12 k' := by rw [mq_u2k (by omega), mq_u2k (by omega)]
            rw [ih (k' + 1) (by omega)]
            simp only [e9]
        exact this m (k + 1) (by omega)
      rw [I, e5]
      simp only [he k (Nat.le_refl _) hk' q1, q1, ↓reduceIte]
      rw [kRe_t q1, show a + kNm (fun h => decide (s 12 h = o)) (m + 1) k = a + 1 + kNm (fun h => decide (s 12 h = o)) m (k + 1) by
        simp only [kNm, q1, decide_true, ↓reduceIte]; omega]
    · have I := ml_stand (i := i) (r := r) (o := o) (post := post) h40 m (k + 1) a s (by omega) hn (fun h h1 h2 h3 => he h (by omega) h2 h3)
      rw [I]
      simp only [q1, ↓reduceIte]
      rw [kRe_f q1, show a + kNm (fun h => decide (s 12 h = o)) (m + 1) k = a + kNm (fun h => decide (s 12 h = o)) m (k + 1) by
        simp only [kNm, q1, decide_false, Bool.false_eq_true, ↓reduceIte]; omega]
      split <;> rfl
theorem ml_barred {s i : Nat → Nat → Int32} {r : Nat → Nat → Nat} (hn : s 0 13 = nI n) (h40 : n ≤ 40) (hw : ∀ h, h < n → 0 ≤ s 6 h) {k0 : Nat} (hk0 : k0 < n) {a b : Int32} {post : Bool → mj_M → Prop} : ∀ m k (fl : Bool), k + m = n → (∃ fe, vb_X12_isBarred_6 post fe (B + 24) (nI k0) a b fl (nI k) (kT B t, kL B l, kI B i c s, kW B r u, kI B q g w, x)) = post (fl || kAny (kAno s (s 1 k0) k0 (s 2 k0) a b) m k) (kT B t, kL B l, kI B i c s, kW B r u, kI B q g w, x)
  | 0, k, fl, hk => by
    rw [ex_succ rfl]
    simp only [vb_X12_isBarred_6, mq_tag, mq_len, mq_i, mq_r, mq_l, mq_nx, mq_wi, mq_wr, mq_wl, true_and, and_true, and_false, false_and, and_self, ↓reduceIte, kT_24, kT_25, kT_26, kT_27, kT_28, kT_29, kT_30, kT_31, kT_32, kT_33, kT_34, kT_35, kT_36, kT_37, kT_38, kT_39, kT_40, kT_41, kT_42, kT_43, kT_44, kT_45, kT_46, kT_47, kT_48, kT_49, kT_50, kT_51, kT_52, kT_53, kT_54, kT_55, kT_56, kT_57, kT_58, kT_59, kT_60, kT_61, kL_25, kL_26, kL_27, kL_28, kL_29, kL_30, kL_31, kL_32, kL_33, kL_34, kL_35, kL_36, kL_37, kL_38, kL_39, kL_40, kL_41, kL_42, kL_43, kL_44, kL_45, kL_46, kL_47, kL_48, kL_49, kL_50, kL_51, kL_52, kL_53, kL_54, kL_55, kL_56, kL_57, kL_58, kL_59, kL_60, kL_61, kW_24_1, kW_24_2, kW_24_3, kW_24_4, kW_24_5, kW_24_6, kW_24_7, kW_24_8, kW_24_9, kW_24_10, kW_24_11, kW_24_12, kW_24_14, kW_24_15, kW_24_16, kW_24_17, kW_24_18, kW_24_19, kW_24_21, kW_24_22, kW_24_23, kW_24_25, kW_24_26, kW_24_27, kW_24_28, kW_24_29, kW_24_31, kW_24_32, kW_24_33, kW_24_34, kW_24_36, kW_24_37, kW_24_44, kW_24_49, kW_24_50, kW_24_51, kW_24_52, kI_24, kI_w24, kI_25, kI_w25, kI_26, kI_w26, kI_27, kI_w27, kI_28, kI_w28, kI_29, kI_w29, kI_30, kI_w30, kI_31, kI_w31, kI_32, kI_w32, kI_33, kI_w33, kI_34, kI_w34, kI_35, kI_w35, kI_36, kI_w36, kI_37, kI_w37, kI_38, kI_w38, kI_39, kI_w39, kI_40, kI_w40, kI_41, kI_w41, kI_42, kI_w42, kI_43, kI_w43, kI_44, kI_w44, kI_45, kI_w45, kI_46, kI_w46, kI_47, kI_w47, kI_48, kI_w48, kI_49, kI_w49, kI_50, kI_w50, kI_51, kI_w51, kI_52, kI_w52, kI_53, kI_w53, kI_54, kI_w54, kI_55, kI_w55, kI_56, kI_w56, kI_57, kI_w57, kI_58, kI_w58, kI_59, kI_w59, kI_60, kI_w60, kI_61, kI_w61, hn, ix_le (show n < 2147483648 by omega) (show k < 2147483648 by omega), show n ≤ k by omega, ex_ite, exists_and_left, exists_const, exists_and_right, kAny, Bool.or_false]
  | m + 1, k, fl, hk => by
    have hk' : k < n := by omega
    have k1 : k < 2147483648 := by omega
    have k2 : k0 < 2147483648 := by omega
    have I := fun fl => ml_barred (i := i) (r := r) (post := post) (a := a) (b := b) hn h40 hw hk0 m (k + 1) fl (by omega)
    rw [ex_succ rfl]
    simp only [vb_X12_isBarred_6, mq_tag, mq_len, mq_i, mq_r, mq_l, mq_nx, mq_wi, mq_wr, mq_wl, true_and, and_true, and_false, false_and, and_self, ↓reduceIte, kT_24, kT_25, kT_26, kT_27, kT_28, kT_29, kT_30, kT_31, kT_32, kT_33, kT_34, kT_35, kT_36, kT_37, kT_38, kT_39, kT_40, kT_41, kT_42, kT_43, kT_44, kT_45, kT_46, kT_47, kT_48, kT_49, kT_50, kT_51, kT_52, kT_53, kT_54, kT_55, kT_56, kT_57, kT_58, kT_59, kT_60, kT_61, kL_25, kL_26, kL_27, kL_28, kL_29, kL_30, kL_31, kL_32, kL_33, kL_34, kL_35, kL_36, kL_37, kL_38, kL_39, kL_40, kL_41, kL_42, kL_43, kL_44, kL_45, kL_46, kL_47, kL_48, kL_49, kL_50, kL_51, kL_52, kL_53, kL_54, kL_55, kL_56, kL_57, kL_58, kL_59, kL_60, kL_61, kW_24_1, kW_24_2, kW_24_3, kW_24_4, kW_24_5, kW_24_6, kW_24_7, kW_24_8, kW_24_9, kW_24_10, kW_24_11, kW_24_12, kW_24_14, kW_24_15, kW_24_16, kW_24_17, kW_24_18, kW_24_19, kW_24_21, kW_24_22, kW_24_23, kW_24_25, kW_24_26, kW_24_27, kW_24_28, kW_24_29, kW_24_31, kW_24_32, kW_24_33, kW_24_34, kW_24_36, kW_24_37, kW_24_44, kW_24_49, kW_24_50, kW_24_51, kW_24_52, kI_24, kI_w24, kI_25, kI_w25, kI_26, kI_w26, kI_27, kI_w27, kI_28, kI_w28, kI_29, kI_w29, kI_30, kI_w30, kI_31, kI_w31, kI_32, kI_w32, kI_33, kI_w33, kI_34, kI_w34, kI_35, kI_w35, kI_36, kI_w36, kI_37, kI_w37, kI_38, kI_w38, kI_39, kI_w39, kI_40, kI_w40, kI_41, kI_w41, kI_42, kI_w42, kI_43, kI_w43, kI_44, kI_w44, kI_45, kI_w45, kI_46, kI_w46, kI_47, kI_w47, kI_48, kI_w48, kI_49, kI_w49, kI_50, kI_w50, kI_51, kI_w51, kI_52, kI_w52, kI_53, kI_w53, kI_54, kI_w54, kI_55, kI_w55, kI_56, kI_w56, kI_57, kI_w57, kI_58, kI_w58, kI_59, kI_w59, kI_60, kI_w60, kI_61, kI_w61, hn, ix_le (show n < 2147483648 by omega) k1, show ¬ n ≤ k by omega, ix_eq k1 k2, ix_in k2, ix_nat k2, show k0 < 40 by omega, m_inWay (show k < 40 by omega) (hw k hk'), nI_1, ex_ite, exists_and_left, exists_const, exists_and_right, I, kAny, kAno]
    cases fl
    · rcases Bool.eq_false_or_eq_true (kmt s k (s 2 k0) a b) with h3 | h3 <;> by_cases h2 : k = k0 <;> by_cases h1 : s 1 k = s 1 k0
      all_goals first | (simp only [h1, h2, h3, true_or, or_true, false_or, or_false, not_true_eq_false, not_false_eq_true, true_and, and_true, false_and, and_false, and_self, decide_true, decide_false, ↓reduceIte, Bool.true_and, Bool.false_and, Bool.and_true, Bool.and_false, Bool.not_true, Bool.not_false, Bool.false_eq_true, Bool.true_or, Bool.or_true, Bool.false_or, Bool.or_false, reduceCtorEq, Bool.and_self, Bool.or_self, ne_eq]; done) | (subst h2; simp only [h1, h3, true_or, or_true, false_or, or_false, not_true_eq_false, not_false_eq_true, true_and, and_true, false_and, and_false, and_self, decide_true, decide_false, ↓reduceIte, Bool.true_and, Bool.false_and, Bool.and_true, Bool.and_false, Bool.not_true, Bool.not_false, Bool.false_eq_true, Bool.true_or, Bool.or_true, Bool.false_or, Bool.or_false, reduceCtorEq, Bool.and_self, Bool.or_self, ne_eq]; done) | (subst h2; simp [h1, h3])
    · simp only [true_or, or_true, false_or, or_false, not_true_eq_false, not_false_eq_true, true_and, and_true, false_and, and_false, and_self, decide_true, decide_false, ↓reduceIte, Bool.true_and, Bool.false_and, Bool.and_true, Bool.and_false, Bool.not_true, Bool.not_false, Bool.false_eq_true, Bool.true_or, Bool.or_true, Bool.false_or, Bool.or_false, reduceCtorEq, Bool.and_self, Bool.or_self, ne_eq]
theorem m_barred {s i : Nat → Nat → Int32} {r : Nat → Nat → Nat} (hn : s 0 13 = nI n) (h40 : n ≤ 40) (hw : ∀ h, h < n → 0 ≤ s 6 h) {k0 : Nat} (hk0 : k0 < n) {a b : Int32} {post : Bool → mj_M → Prop} : vc_X12_isBarred (B + 24) (nI k0) a b (kT B t, kL B l, kI B i c s, kW B r u, kI B q g w, x) post = post (kAny (kAno s (s 1 k0) k0 (s 2 k0) a b) n 0) (kT B t, kL B l, kI B i c s, kW B r u, kI B q g w, x) := by
  unfold vc_X12_isBarred
  rw [← nI_0, ml_barred hn h40 hw hk0 n 0 false (by omega), Bool.false_or]
end
theorem kHo.rel {s : Nat → Nat → Int32} {n k ko : Nat} (h : kHo s n) (h40 : n ≤ 40) (hk : k < n) (hko : ko < n) (ho : s 1 k = nI ko) (hw : s 6 k = 2) (hon : kon s ko (s 0 0) = true) : kHo (kRe (mj_u2 (mj_u2 s 6 k 0) 11 k (-6)) (nI k) n 0) n := by
  obtain ⟨a1, a2, ⟨rk, R⟩, a4⟩ := h
  generalize hE : kRe (mj_u2 (mj_u2 s 6 k 0) 11 k (-6)) (nI k) n 0 = e
  have s12k : s 12 k = -6 := by
    by_cases z : s 12 k = -6
    · exact z
    · have := (a4 k hk).2.1 z; rw [hw] at this; exact absurd this (by decide)
  have s12k' : ¬ s 12 k = nI k := by rw [s12k]; intro z; exact absurd z.symm (by rw [ix_m6 (by omega)]; exact id)
  have kko : ko ≠ k := fun z => by have := (R k hk).2 ko hko ho; rw [z] at this; omega
  have E : ∀ j h, e j h = if h < n ∧ s 12 h = nI k then (if j = 6 then 0 else if j = 12 then -6 else s j h) else (if h = k ∧ j = 6 then 0 else if h = k ∧ j = 11 then -6 else s j h) := by
    intro j h
    rw [← hE]
    unfold kRe
    have e12 : mj_u2 (mj_u2 s 6 k 0) 11 k (-6) 12 h = s 12 h := by rw [mq_u2n (by decide), mq_u2n (by decide)]
    rw [e12]
    by_cases c1 : h < n ∧ s 12 h = nI k
    · have hhk : h ≠ k := fun z => s12k' (by have c2 := c1.2; rw [z] at c2; exact c2)
      rw [if_pos ⟨by omega, by omega, c1.2⟩, if_pos c1, mq_u2k hhk, mq_u2k hhk]
    · rw [if_neg (fun z => c1 ⟨by omega, z.2.2⟩), if_neg c1]
      by_cases hhk : h = k
      · subst hhk
        by_cases j6 : j = 6
        · subst j6; simp [mq_u2]
        · by_cases j11 : j = 11
          · subst j11; simp [mq_u2]
          · simp [mq_u2, j6, j11]
      · rw [mq_u2k hhk, mq_u2k hhk]; simp only [hhk, false_and, ↓reduceIte]
  have Eo : ∀ j, j ≠ 6 → j ≠ 11 → j ≠ 12 → e j = s j := fun j j6 j11 j12 => by
    funext h; rw [E]; simp only [j6, j11, j12, and_false, ↓reduceIte]; split <;> rfl
  have e0 := Eo 0 (by decide) (by decide) (by decide)
  have e1 := Eo 1 (by decide) (by decide) (by decide)
  have e2 := Eo 2 (by decide) (by decide) (by decide)
  have e3 := Eo 3 (by decide) (by decide) (by decide)
  have e4 := Eo 4 (by decide) (by decide) (by decide)
  have e5 := Eo 5 (by decide) (by decide) (by decide)
  have e7 := Eo 7 (by decide) (by decide) (by decide)
  have e8 := Eo 8 (by decide) (by decide) (by decide)
  have e9 := Eo 9 (by decide) (by decide) (by decide)
  have e10 := Eo 10 (by decide) (by decide) (by decide)
  -- 6 and 12: three kinds
  have E6 : ∀ h, e 6 h = if h < n ∧ s 12 h = nI k then 0 else if h = k then 0 else s 6 h := fun h => by
    rw [E]; simp only [↓reduceIte, and_true, Nat.reduceEqDiff, and_false]
  have E12 : ∀ h, e 12 h = if h < n ∧ s 12 h = nI k then -6 else s 12 h := fun h => by
    rw [E]; simp only [↓reduceIte, and_true, Nat.reduceEqDiff, and_false]
  have K6 : ∀ h, h < n → (s 12 h = nI k ∧ e 6 h = 0 ∧ e 12 h = -6 ∧ s 6 h = 4) ∨ (h = k ∧ e 6 h = 0 ∧ e 12 h = -6) ∨ (h ≠ k ∧ s 12 h ≠ nI k ∧ e 6 h = s 6 h ∧ e 12 h = s 12 h) := by
    intro h hh
    rw [E6, E12]
    by_cases c1 : s 12 h = nI k
    · left
      have s6 : s 6 h = 4 := (a4 h hh).2.1 (by rw [c1]; intro z; exact absurd z (by rw [ix_m6 (by omega)]; exact id))
      have y : h < n ∧ s 12 h = nI k := ⟨hh, c1⟩
      rw [if_pos y, if_pos y]; exact ⟨c1, rfl, rfl, s6⟩
    · right
      have y : ¬ (h < n ∧ s 12 h = nI k) := fun z => c1 z.2
      rw [if_neg y, if_neg y]
      by_cases hhk : h = k
      · left; subst hhk; simp only [↓reduceIte]; exact ⟨trivial, trivial, s12k⟩
      · right; rw [if_neg hhk]; exact ⟨hhk, c1, rfl, rfl⟩
  have un0 : ∀ h, e 6 h = 0 → kun e h = s 4 h := fun h z => by unfold kun; rw [z, if_pos rfl, e4]
  simp only [kon, decide_eq_true_eq] at hon
  have wko : s 6 ko = 0 := by
    by_cases w0 : s 6 ko = 0
    · exact w0
    · exfalso
      obtain ⟨o1, o2⟩ := hon
      simp only [kun, w0, ↓reduceIte] at o2
      obtain ⟨q1, q2, q3, _⟩ := a4 ko hko
      rw [i_lt] at o2; rw [i_le] at o1
      by_cases h4 : s 6 ko = 4
      · rcases q3 h4 with z | z
        · rw [i_le] at z; omega
        · rw [z] at o2; omega
      · have := i_le.mp (q1 w0 h4).1; omega
  refine ⟨by rw [e0]; exact a1, fun h hh => ?_, ⟨rk, by rw [e1]; exact R⟩, fun h hh => ?_⟩
  · obtain ⟨q1, q2, q3, q4, q5, q6, q7, q8, q9, q10, q11⟩ := a2 h hh
    unfold kR1
    rw [e1, e2, e3, e4, e5, e7, e8, e9, e10]
    have e11 : e 11 h = -6 ∨ e 11 h = s 11 h := by
      rw [E]; split
      · right; rfl
      · split
        · rename_i z; exact absurd z.2 (by decide)
        · split
          · left; rfl
          · right; rfl
    refine ⟨q1, q2, q3, q4, ?_, q6, q7, q8, q9, ?_, ?_⟩
    · rcases K6 h hh with ⟨_, z, _⟩ | ⟨_, z, _⟩ | ⟨_, _, z, _⟩ <;> rw [z]
      · exact ⟨by decide, by decide⟩
      · exact ⟨by decide, by decide⟩
      · exact q5
    · rcases e11 with z | z <;> rw [z]
      · exact .inl rfl
      · exact q10
    · rcases K6 h hh with ⟨_, _, z, _⟩ | ⟨_, _, z⟩ | ⟨_, _, _, z⟩ <;> rw [z]
      · exact .inl rfl
      · exact .inl rfl
      · exact q11
  · obtain ⟨q1, q2, q3, q4, q5⟩ := a4 h hh
    unfold kR2
    rw [e0, e1, e3, e4, e5]
    -- what an end of the one above says
    have upA : ∀ k', k' < n → s 1 h = nI k' → s 6 k' = 0 → e 6 k' = 0 := fun k' hk' _ z => by
      rcases K6 k' hk' with ⟨_, _, _, z2⟩ | ⟨_, z2, _⟩ | ⟨_, _, z2, _⟩
      · rw [z] at z2; exact absurd z2 (by decide)
      · exact z2
      · rw [z2]; exact z
    rcases K6 h hh with ⟨c0, c1, c2, c3⟩ | ⟨c0, c1, c2⟩ | ⟨c0, c00, c1, c2⟩
    · rw [c1, c2]
      refine ⟨fun z => absurd rfl z, fun z => absurd rfl z, fun z => absurd z (by decide), fun z => ?_, fun k' hk' he => ?_⟩
      · have := (q4 z).1; rw [c3] at this; exact absurd this (by decide)
      · obtain ⟨p1, p2, p3, p4, p5⟩ := q5 k' hk' he
        have z6 : e 6 k' = 0 := by
          rcases (p5 c3).2 k hk c0 with ⟨y, _⟩ | ⟨_, y⟩
          · rcases K6 k' hk' with ⟨_, z, _⟩ | ⟨_, z, _⟩ | ⟨z, _⟩
            · exact z
            · exact z
            · exact absurd y z
          · rcases K6 k' hk' with ⟨_, z, _⟩ | ⟨_, z, _⟩ | ⟨_, z, _⟩
            · exact z
            · exact z
            · exact absurd y z
        refine ⟨p1, p2, fun _ _ => by rw [un0 k' z6]; exact p1, fun _ _ => z6, fun z => absurd z (by decide)⟩
    · subst c0
      rw [c1, c2]
      refine ⟨fun z => absurd rfl z, fun z => absurd rfl z, fun z => absurd z (by decide), fun z => ?_, fun k' hk' he => ?_⟩
      · rw [ho] at z; exact absurd z (by rw [ix_m1 (by omega)]; exact id)
      · obtain ⟨p1, p2, p3, p4, p5⟩ := q5 k' hk' he
        rw [ho, ix_eq (by omega) (by omega)] at he
        subst he
        have z6 : e 6 ko = 0 := by
          rcases K6 ko hk' with ⟨_, z, _⟩ | ⟨_, z, _⟩ | ⟨_, _, z, _⟩
          · exact z
          · exact z
          · rw [z]; exact wko
        exact ⟨p1, .inr hon.1, fun _ _ => by rw [un0 ko z6]; exact p1, fun _ _ => z6, fun z => absurd z (by decide)⟩
    · rw [c1, c2]
      refine ⟨q1, q2, q3, q4, fun k' hk' he => ?_⟩
      obtain ⟨p1, p2, p3, p4, p5⟩ := q5 k' hk' he
      refine ⟨p1, p2, fun z1 z2 => ?_, fun z1 z2 => upA k' hk' he (p4 z1 z2), fun z => ?_⟩
      · by_cases z6 : e 6 k' = 0
        · rw [un0 k' z6]; exact p1
        · rcases K6 k' hk' with ⟨_, z, _⟩ | ⟨_, z, _⟩ | ⟨_, _, z, _⟩
          · exact absurd z z6
          · exact absurd z z6
          · have : kun e k' = kun s k' := by unfold kun; rw [z, e4, e5]
            rw [this]; exact p3 z1 z2
      · obtain ⟨p6, p7⟩ := p5 z
        rcases K6 k' hk' with ⟨y0, y1, y2, y3⟩ | ⟨y0, y1, y2⟩ | ⟨_, _, y1, y2⟩
        · exfalso
          rcases (a2 h hh).2.2.2.2.2.2.2.2.2.2 with g | ⟨m, hm, g⟩
          · rcases p6 g with f | ⟨_, f⟩
            · rw [y3] at f; exact absurd f (by decide)
            · rw [y0] at f; exact absurd f (by rw [ix_m6 (by omega)]; exact id)
          · rcases p7 m hm g with ⟨_, f⟩ | ⟨_, f⟩
            · rw [y3] at f; exact absurd f (by decide)
            · rw [y0] at f; exact c00 (by rw [g, f])
        · exfalso
          subst y0
          rcases (a2 h hh).2.2.2.2.2.2.2.2.2.2 with g | ⟨m, hm, g⟩
          · rcases p6 g with f | ⟨f, _⟩ <;> rw [hw] at f <;> exact absurd f (by decide)
          · rcases p7 m hm g with ⟨f, _⟩ | ⟨f, _⟩
            · exact c00 (by rw [g, f])
            · rw [hw] at f; exact absurd f (by decide)
        · rw [y1, y2]; exact ⟨p6, p7⟩

/-! STAGE B: whether a text is so, the reference's way -/
def rM (s : Nat → Nat → Int32) (W I T : Nat → Bool) (D cnt : Nat) : Prop := (∀ j, j ≤ D → s 21 j = mj_b (W j) ∧ s 22 j = mj_b (I j) ∧ s 23 j = mj_b (T j)) ∧ s 0 24 = nI cnt
def rF (s s' : Nat → Nat → Int32) : Prop := (∀ j, j ≠ 0 → j ≠ 21 → j ≠ 22 → j ≠ 23 → s' j = s j) ∧ ∀ j, j ≠ 24 → s' 0 j = s 0 j
theorem rF.refl (s : Nat → Nat → Int32) : rF s s := ⟨fun _ _ _ _ _ => rfl, fun _ _ => rfl⟩
theorem rF.trans {s s' s'' : Nat → Nat → Int32} (h : rF s s') (h' : rF s' s'') : rF s s'' := ⟨fun j a b c d => (h'.1 j a b c d).trans (h.1 j a b c d), fun j a => (h'.2 j a).trans (h.2 j a)⟩
theorem rF.w21 {s : Nat → Nat → Int32} {j : Nat} (hj : j = 21 ∨ j = 22 ∨ j = 23) (k : Nat) (v : Int32) : rF s (mj_u2 s j k v) := ⟨fun j' a b c d => mj_u2_ne _ (by omega), fun j' _ => mq_u2n (by omega)⟩
theorem rF.w24 {s : Nat → Nat → Int32} (v : Int32) : rF s (mj_u2 s 0 24 v) := ⟨fun j' a _ _ _ => mj_u2_ne _ a, fun j' h => mq_u2k h⟩
theorem b_ne (a b : Bool) : (mj_b a = mj_b b) = ((a != b) = false) := by cases a <;> cases b <;> simp [mj_b]
section
variable {B x : Nat} {t l u : Nat → Nat} {i c : Nat → Nat → Int32} {r : Nat → Nat → Nat} {q g w : Nat → Nat → Int64}
theorem m_begin {s : Nat → Nat → Int32} {D : Nat} (hD : D < 49) {post : Unit → mj_M → Prop} : vc_X12_begin (B + 24) (nI D) (kT B t, kL B l, kI B i c s, kW B r u, kI B q g w, x) post = post () (kT B t, kL B l, kI B i c (mj_u2 (mj_u2 (mj_u2 s 21 D 0) 22 D 1) 23 D 0), kW B r u, kI B q g w, x) := by
  have k1 : D < 2147483648 := by omega
  simp only [vc_X12_begin, mq_tag, mq_len, mq_i, mq_r, mq_l, mq_nx, mq_wi, mq_wr, mq_wl, true_and, and_true, and_false, false_and, and_self, ↓reduceIte, kT_24, kT_25, kT_26, kT_27, kT_28, kT_29, kT_30, kT_31, kT_32, kT_33, kT_34, kT_35, kT_36, kT_37, kT_38, kT_39, kT_40, kT_41, kT_42, kT_43, kT_44, kT_45, kT_46, kT_47, kT_48, kT_49, kT_50, kT_51, kT_52, kT_53, kT_54, kT_55, kT_56, kT_57, kT_58, kT_59, kT_60, kT_61, kL_25, kL_26, kL_27, kL_28, kL_29, kL_30, kL_31, kL_32, kL_33, kL_34, kL_35, kL_36, kL_37, kL_38, kL_39, kL_40, kL_41, kL_42, kL_43, kL_44, kL_45, kL_46, kL_47, kL_48, kL_49, kL_50, kL_51, kL_52, kL_53, kL_54, kL_55, kL_56, kL_57, kL_58, kL_59, kL_60, kL_61, kW_24_1, kW_24_2, kW_24_3, kW_24_4, kW_24_5, kW_24_6, kW_24_7, kW_24_8, kW_24_9, kW_24_10, kW_24_11, kW_24_12, kW_24_14, kW_24_15, kW_24_16, kW_24_17, kW_24_18, kW_24_19, kW_24_21, kW_24_22, kW_24_23, kW_24_25, kW_24_26, kW_24_27, kW_24_28, kW_24_29, kW_24_31, kW_24_32, kW_24_33, kW_24_34, kW_24_36, kW_24_37, kW_24_44, kW_24_49, kW_24_50, kW_24_51, kW_24_52, kI_24, kI_w24, kI_25, kI_w25, kI_26, kI_w26, kI_27, kI_w27, kI_28, kI_w28, kI_29, kI_w29, kI_30, kI_w30, kI_31, kI_w31, kI_32, kI_w32, kI_33, kI_w33, kI_34, kI_w34, kI_35, kI_w35, kI_36, kI_w36, kI_37, kI_w37, kI_38, kI_w38, kI_39, kI_w39, kI_40, kI_w40, kI_41, kI_w41, kI_42, kI_w42, kI_43, kI_w43, kI_44, kI_w44, kI_45, kI_w45, kI_46, kI_w46, kI_47, kI_w47, kI_48, kI_w48, kI_49, kI_w49, kI_50, kI_w50, kI_51, kI_w51, kI_52, kI_w52, kI_53, kI_w53, kI_54, kI_w54, kI_55, kI_w55, kI_56, kI_w56, kI_57, kI_w57, kI_58, kI_w58, kI_59, kI_w59, kI_60, kI_w60, kI_61, kI_w61, ix_in k1, ix_nat k1, hD]; rfl
theorem m_join {s : Nat → Nat → Int32} {W I T : Nat → Bool} {E D cnt : Nat} (h : rM s W I T E cnt) (hl : D ≤ E) (hD : D < 49) {b : Bool} {post : Unit → mj_M → Prop} : vc_X12_join (B + 24) (nI D) b (kT B t, kL B l, kI B i c s, kW B r u, kI B q g w, x) post = post () (kT B t, kL B l, kI B i c (mj_u2 (mj_u2 s 22 D (mj_b (I D && (b != T D)))) 23 D 0), kW B r u, kI B q g w, x) := by
  have k1 : D < 2147483648 := by omega
  obtain ⟨q1, q2, q3⟩ := h.1 D hl
  simp only [vc_X12_join, vb_X12_join_28, vb_X12_join_29, mq_tag, mq_len, mq_i, mq_r, mq_l, mq_nx, mq_wi, mq_wr, mq_wl, true_and, and_true, and_false, false_and, and_self, ↓reduceIte, kT_24, kT_25, kT_26, kT_27, kT_28, kT_29, kT_30, kT_31, kT_32, kT_33, kT_34, kT_35, kT_36, kT_37, kT_38, kT_39, kT_40, kT_41, kT_42, kT_43, kT_44, kT_45, kT_46, kT_47, kT_48, kT_49, kT_50, kT_51, kT_52, kT_53, kT_54, kT_55, kT_56, kT_57, kT_58, kT_59, kT_60, kT_61, kL_25, kL_26, kL_27, kL_28, kL_29, kL_30, kL_31, kL_32, kL_33, kL_34, kL_35, kL_36, kL_37, kL_38, kL_39, kL_40, kL_41, kL_42, kL_43, kL_44, kL_45, kL_46, kL_47, kL_48, kL_49, kL_50, kL_51, kL_52, kL_53, kL_54, kL_55, kL_56, kL_57, kL_58, kL_59, kL_60, kL_61, kW_24_1, kW_24_2, kW_24_3, kW_24_4, kW_24_5, kW_24_6, kW_24_7, kW_24_8, kW_24_9, kW_24_10, kW_24_11, kW_24_12, kW_24_14, kW_24_15, kW_24_16, kW_24_17, kW_24_18, kW_24_19, kW_24_21, kW_24_22, kW_24_23, kW_24_25, kW_24_26, kW_24_27, kW_24_28, kW_24_29, kW_24_31, kW_24_32, kW_24_33, kW_24_34, kW_24_36, kW_24_37, kW_24_44, kW_24_49, kW_24_50, kW_24_51, kW_24_52, kI_24, kI_w24, kI_25, kI_w25, kI_26, kI_w26, kI_27, kI_w27, kI_28, kI_w28, kI_29, kI_w29, kI_30, kI_w30, kI_31, kI_w31, kI_32, kI_w32, kI_33, kI_w33, kI_34, kI_w34, kI_35, kI_w35, kI_36, kI_w36, kI_37, kI_w37, kI_38, kI_w38, kI_39, kI_w39, kI_40, kI_w40, kI_41, kI_w41, kI_42, kI_w42, kI_43, kI_w43, kI_44, kI_w44, kI_45, kI_w45, kI_46, kI_w46, kI_47, kI_w47, kI_48, kI_w48, kI_49, kI_w49, kI_50, kI_w50, kI_51, kI_w51, kI_52, kI_w52, kI_53, kI_w53, kI_54, kI_w54, kI_55, kI_w55, kI_56, kI_w56, kI_57, kI_w57, kI_58, kI_w58, kI_59, kI_w59, kI_60, kI_w60, kI_61, kI_w61, ix_in k1, ix_nat k1, hD, q2, q3, ix_b0, b_ne]
  rcases Bool.eq_false_or_eq_true (I D) with z1 | z1 <;> rcases Bool.eq_false_or_eq_true (b != T D) with z2 | z2 <;> simp only [z1, z2, true_or, or_true, false_or, or_false, not_true_eq_false, not_false_eq_true, true_and, and_true, false_and, and_false, and_self, decide_true, decide_false, ↓reduceIte, Bool.true_and, Bool.false_and, Bool.and_true, Bool.and_false, Bool.not_true, Bool.not_false, Bool.false_eq_true, Bool.true_or, Bool.or_true, Bool.false_or, Bool.or_false, reduceCtorEq, Bool.and_self, Bool.or_self, ne_eq] <;> rfl
theorem rM.join {s : Nat → Nat → Int32} {W I T : Nat → Bool} {E D cnt : Nat} (h : rM s W I T E cnt) (hl : D ≤ E) (b : Bool) : rM (mj_u2 (mj_u2 s 22 D (mj_b b)) 23 D 0) W (ub I D b) (ub T D false) D cnt := by
  obtain ⟨p1, p2⟩ := h
  refine ⟨fun j hj => ?_, by rw [mq_u2n (by decide), mq_u2n (by decide)]; exact p2⟩
  obtain ⟨q1, q2, q3⟩ := p1 j (by omega)
  refine ⟨by rw [mq_u2n (by decide), mq_u2n (by decide)]; exact q1, ?_, ?_⟩
  · rw [mq_u2n (by decide)]
    by_cases e : j = D
    · subst e; rw [mq_u2s]; simp [ub]
    · rw [mq_u2k e]; simp [ub, e, q2]
  · by_cases e : j = D
    · subst e; rw [mq_u2s]; simp [ub, mj_b]
    · rw [mq_u2k e, mq_u2n (by decide)]; simp [ub, e, q3]
/-- a row of digits -/
theorem ml_dg {a len : Nat} (ha : a < 12) (hlen : len ≤ 48) {f : Nat → Int32} (fc : Int32 → Int32) (tu : Nat → Bool) : ∀ (m k st op : Nat) (nm : Int32), k + (m + 1) = len → gF f (m + 1) k st op = none → gDig (f k) = true → 2 ≤ st → ∃ (m' k' st' : Nat) (nm' : Int32), k' + m' = len ∧ m' ≤ m ∧ k < k' ∧ gF f m' k' st' op = none ∧ 2 < st' ∧ (m' = 0 ∨ gDig (f k') = false) ∧
    (∀ (W I T : Nat → Bool) (cnt : Nat) (lf cp : Int32), ev f fc tu (m + 1) k W I T op cnt lf cp nm = ev f fc tu m' k' W (ub I op (I op && ((kCo lf cp nm' != tu cnt) != T op))) (ub T op false) op (cnt + 1) lf cp nm') ∧
    (∀ (K : Nat → Int32 → Int32 → Int32 → Int32 → Int32 → Int32 → mj_M → Prop) (post : Bool → mj_M → Prop) (h d v o ch how : Int32) (s : Nat → Nat → Int32), s 17 a = nI len → (∀ k, k < len → s 16 (48 * a + k) = f k) →
      (∃ fe, vb_X12_holds_220 K post fe (B + 24) (nI a) h d v o (nI k) ch how nm (kT B t, kL B l, kI B i c s, kW B r u, kI B q g w, x)) = vb_X12_holds_278 K post (B + 24) (nI a) h d v o (nI k') ch how nm' (kT B t, kL B l, kI B i c s, kW B r u, kI B q g w, x))
  | 0, k, st, op, nm, hk, hg, hd, hs => by
    obtain ⟨d38, d124, d41, d40⟩ := gDig_n hd
    have eo : gOp (f k) op = op := by unfold gOp; rw [if_neg d40, if_neg d41]
    have hg2 : ∃ st', gF f 0 (k + 1) st' op = none ∧ 2 < st' := by
      unfold gF at hg
      cases hst : gSt st (f k) op with
      | none => rw [hst] at hg; cases hg
      | some st' =>
        rw [hst, eo] at hg
        refine ⟨st', hg, ?_⟩
        unfold gSt at hst
        rw [if_neg (by omega), if_neg (by omega)] at hst
        split at hst
        · cases hst; omega
        · simp only [d38, d124, d41, or_self, false_and, ↓reduceIte] at hst
          split at hst <;> cases hst
    obtain ⟨st', hg', hs'⟩ := hg2
    have nf : mj_fact (f k) = false := by
      cases z : mj_fact (f k) with
      | false => rfl
      | true =>
        simp only [gDig, decide_eq_true_eq] at hd
        simp only [mj_fact, decide_eq_true_eq] at z
        rcases z with z | z | z | z | z | z | z <;> rw [z] at hd <;> exact absurd hd (by decide)
    refine ⟨0, k + 1, st', nm * 10 + f k - 48, by omega, Nat.le_refl _, by omega, hg', hs', .inl rfl, ?_, ?_⟩
    · intro W I T cnt lf cp
      show (if mj_fact (f k) = true then _ else _) = _
      rw [if_neg (by rw [nf]; decide), if_pos hd, if_pos (.inl rfl)]
    · intro K post h d v o ch how s s17 s16
      have m48 : (48 : Int32) * nI a = nI (48 * a) := by rw [show (48 : Int32) = nI 48 by decide]; exact (Int32.ofNat_mul 48 a).symm
      have k2 : 48 * a + k < 2147483648 := by omega
      have e1 : 10 * nm + f k - 48 = nm * 10 + f k - 48 := by rw [Int32.mul_comm]
      rw [ex_succ rfl]
      simp only [vb_X12_holds_220, mq_tag, mq_len, mq_i, mq_r, mq_l, mq_nx, mq_wi, mq_wr, mq_wl, true_and, and_true, and_false, false_and, and_self, ↓reduceIte, kT_24, kT_25, kT_26, kT_27, kT_28, kT_29, kT_30, kT_31, kT_32, kT_33, kT_34, kT_35, kT_36, kT_37, kT_38, kT_39, kT_40, kT_41, kT_42, kT_43, kT_44, kT_45, kT_46, kT_47, kT_48, kT_49, kT_50, kT_51, kT_52, kT_53, kT_54, kT_55, kT_56, kT_57, kT_58, kT_59, kT_60, kT_61, kL_25, kL_26, kL_27, kL_28, kL_29, kL_30, kL_31, kL_32, kL_33, kL_34, kL_35, kL_36, kL_37, kL_38, kL_39, kL_40, kL_41, kL_42, kL_43, kL_44, kL_45, kL_46, kL_47, kL_48, kL_49, kL_50, kL_51, kL_52, kL_53, kL_54, kL_55, kL_56, kL_57, kL_58, kL_59, kL_60, kL_61, kW_24_1, kW_24_2, kW_24_3, kW_24_4, kW_24_5, kW_24_6, kW_24_7, kW_24_8, kW_24_9, kW_24_10, kW_24_11, kW_24_12, kW_24_14, kW_24_15, kW_24_16, kW_24_17, kW_24_18, kW_24_19, kW_24_21, kW_24_22, kW_24_23, kW_24_25, kW_24_26, kW_24_27, kW_24_28, kW_24_29, kW_24_31, kW_24_32, kW_24_33, kW_24_34, kW_24_36, kW_24_37, kW_24_44, kW_24_49, kW_24_50, kW_24_51, kW_24_52, kI_24, kI_w24, kI_25, kI_w25, kI_26, kI_w26, kI_27, kI_w27, kI_28, kI_w28, kI_29, kI_w29, kI_30, kI_w30, kI_31, kI_w31, kI_32, kI_w32, kI_33, kI_w33, kI_34, kI_w34, kI_35, kI_w35, kI_36, kI_w36, kI_37, kI_w37, kI_38, kI_w38, kI_39, kI_w39, kI_40, kI_w40, kI_41, kI_w41, kI_42, kI_w42, kI_43, kI_w43, kI_44, kI_w44, kI_45, kI_w45, kI_46, kI_w46, kI_47, kI_w47, kI_48, kI_w48, kI_49, kI_w49, kI_50, kI_w50, kI_51, kI_w51, kI_52, kI_w52, kI_53, kI_w53, kI_54, kI_w54, kI_55, kI_w55, kI_56, kI_w56, kI_57, kI_w57, kI_58, kI_w58, kI_59, kI_w59, kI_60, kI_w60, kI_61, kI_w61, ix_in (show a < 2147483648 by omega), ix_nat (show a < 2147483648 by omega), show a < 13 by omega, s17, ix_le (show len < 2147483648 by omega) (show k < 2147483648 by omega), show ¬ len ≤ k by omega, m48, nI_add, ix_in k2, ix_nat k2, show 48 * a + k < 624 by omega, s16 k (by omega), m_isDigit, hd, nI_1, e1, ex_ite, exists_and_left, exists_const, exists_and_right]
      rw [ex_succ rfl]
      simp only [vb_X12_holds_220, mq_tag, mq_len, mq_i, mq_r, mq_l, mq_nx, mq_wi, mq_wr, mq_wl, true_and, and_true, and_false, false_and, and_self, ↓reduceIte, kT_24, kT_25, kT_26, kT_27, kT_28, kT_29, kT_30, kT_31, kT_32, kT_33, kT_34, kT_35, kT_36, kT_37, kT_38, kT_39, kT_40, kT_41, kT_42, kT_43, kT_44, kT_45, kT_46, kT_47, kT_48, kT_49, kT_50, kT_51, kT_52, kT_53, kT_54, kT_55, kT_56, kT_57, kT_58, kT_59, kT_60, kT_61, kL_25, kL_26, kL_27, kL_28, kL_29, kL_30, kL_31, kL_32, kL_33, kL_34, kL_35, kL_36, kL_37, kL_38, kL_39, kL_40, kL_41, kL_42, kL_43, kL_44, kL_45, kL_46, kL_47, kL_48, kL_49, kL_50, kL_51, kL_52, kL_53, kL_54, kL_55, kL_56, kL_57, kL_58, kL_59, kL_60, kL_61, kW_24_1, kW_24_2, kW_24_3, kW_24_4, kW_24_5, kW_24_6, kW_24_7, kW_24_8, kW_24_9, kW_24_10, kW_24_11, kW_24_12, kW_24_14, kW_24_15, kW_24_16, kW_24_17, kW_24_18, kW_24_19, kW_24_21, kW_24_22, kW_24_23, kW_24_25, kW_24_26, kW_24_27, kW_24_28, kW_24_29, kW_24_31, kW_24_32, kW_24_33, kW_24_34, kW_24_36, kW_24_37, kW_24_44, kW_24_49, kW_24_50, kW_24_51, kW_24_52, kI_24, kI_w24, kI_25, kI_w25, kI_26, kI_w26, kI_27, kI_w27, kI_28, kI_w28, kI_29, kI_w29, kI_30, kI_w30, kI_31, kI_w31, kI_32, kI_w32, kI_33, kI_w33, kI_34, kI_w34, kI_35, kI_w35, kI_36, kI_w36, kI_37, kI_w37, kI_38, kI_w38, kI_39, kI_w39, kI_40, kI_w40, kI_41, kI_w41, kI_42, kI_w42, kI_43, kI_w43, kI_44, kI_w44, kI_45, kI_w45, kI_46, kI_w46, kI_47, kI_w47, kI_48, kI_w48, kI_49, kI_w49, kI_50, kI_w50, kI_51, kI_w51, kI_52, kI_w52, kI_53, kI_w53, kI_54, kI_w54, kI_55, kI_w55, kI_56, kI_w56, kI_57, kI_w57, kI_58, kI_w58, kI_59, kI_w59, kI_60, kI_w60, kI_61, kI_w61, ix_in (show a < 2147483648 by omega), ix_nat (show a < 2147483648 by omega), show a < 13 by omega, s17, ix_le (show len < 2147483648 by omega) (show k + 1 < 2147483648 by omega), show len ≤ k + 1 by omega, ex_ite, exists_and_left, exists_const, exists_and_right]
  | m + 1, k, st, op, nm, hk, hg, hd, hs => by
    obtain ⟨d38, d124, d41, d40⟩ := gDig_n hd
    have eo : gOp (f k) op = op := by unfold gOp; rw [if_neg d40, if_neg d41]
    have hg2 : ∃ st', gF f (m + 1) (k + 1) st' op = none ∧ 2 < st' := by
      unfold gF at hg
      cases hst : gSt st (f k) op with
      | none => rw [hst] at hg; cases hg
      | some st' =>
        rw [hst, eo] at hg
        refine ⟨st', hg, ?_⟩
        unfold gSt at hst
        rw [if_neg (by omega), if_neg (by omega)] at hst
        split at hst
        · cases hst; omega
        · simp only [d38, d124, d41, or_self, false_and, ↓reduceIte] at hst
          split at hst <;> cases hst
    obtain ⟨st', hg', hs'⟩ := hg2
    have nf : mj_fact (f k) = false := by
      cases z : mj_fact (f k) with
      | false => rfl
      | true =>
        simp only [gDig, decide_eq_true_eq] at hd
        simp only [mj_fact, decide_eq_true_eq] at z
        rcases z with z | z | z | z | z | z | z <;> rw [z] at hd <;> exact absurd hd (by decide)
    have m48 : (48 : Int32) * nI a = nI (48 * a) := by rw [show (48 : Int32) = nI 48 by decide]; exact (Int32.ofNat_mul 48 a).symm
    have k2 : 48 * a + k < 2147483648 := by omega
    have e1 : 10 * nm + f k - 48 = nm * 10 + f k - 48 := by rw [Int32.mul_comm]
    rcases Bool.eq_false_or_eq_true (gDig (f (k + 1))) with hd2 | hd2
    · obtain ⟨m', k', st2, nm', p1, p2, p3, p4, p5, p6, p7, p8⟩ := ml_dg ha hlen fc tu m (k + 1) st' op (nm * 10 + f k - 48) (by omega) hg' hd2 (by omega)
      refine ⟨m', k', st2, nm', p1, by omega, by omega, p4, p5, p6, ?_, ?_⟩
      · intro W I T cnt lf cp
        rw [← p7]
        show (if mj_fact (f k) = true then _ else _) = _
        rw [if_neg (by rw [nf]; decide), if_pos hd, if_neg (fun z => by rcases z with z | z; omega; rw [hd2] at z; cases z)]
      · intro K post h d v o ch how s s17 s16
        rw [← p8 K post h d v o ch how s s17 s16, ex_succ rfl]
        simp only [vb_X12_holds_220, mq_tag, mq_len, mq_i, mq_r, mq_l, mq_nx, mq_wi, mq_wr, mq_wl, true_and, and_true, and_false, false_and, and_self, ↓reduceIte, kT_24, kT_25, kT_26, kT_27, kT_28, kT_29, kT_30, kT_31, kT_32, kT_33, kT_34, kT_35, kT_36, kT_37, kT_38, kT_39, kT_40, kT_41, kT_42, kT_43, kT_44, kT_45, kT_46, kT_47, kT_48, kT_49, kT_50, kT_51, kT_52, kT_53, kT_54, kT_55, kT_56, kT_57, kT_58, kT_59, kT_60, kT_61, kL_25, kL_26, kL_27, kL_28, kL_29, kL_30, kL_31, kL_32, kL_33, kL_34, kL_35, kL_36, kL_37, kL_38, kL_39, kL_40, kL_41, kL_42, kL_43, kL_44, kL_45, kL_46, kL_47, kL_48, kL_49, kL_50, kL_51, kL_52, kL_53, kL_54, kL_55, kL_56, kL_57, kL_58, kL_59, kL_60, kL_61, kW_24_1, kW_24_2, kW_24_3, kW_24_4, kW_24_5, kW_24_6, kW_24_7, kW_24_8, kW_24_9, kW_24_10, kW_24_11, kW_24_12, kW_24_14, kW_24_15, kW_24_16, kW_24_17, kW_24_18, kW_24_19, kW_24_21, kW_24_22, kW_24_23, kW_24_25, kW_24_26, kW_24_27, kW_24_28, kW_24_29, kW_24_31, kW_24_32, kW_24_33, kW_24_34, kW_24_36, kW_24_37, kW_24_44, kW_24_49, kW_24_50, kW_24_51, kW_24_52, kI_24, kI_w24, kI_25, kI_w25, kI_26, kI_w26, kI_27, kI_w27, kI_28, kI_w28, kI_29, kI_w29, kI_30, kI_w30, kI_31, kI_w31, kI_32, kI_w32, kI_33, kI_w33, kI_34, kI_w34, kI_35, kI_w35, kI_36, kI_w36, kI_37, kI_w37, kI_38, kI_w38, kI_39, kI_w39, kI_40, kI_w40, kI_41, kI_w41, kI_42, kI_w42, kI_43, kI_w43, kI_44, kI_w44, kI_45, kI_w45, kI_46, kI_w46, kI_47, kI_w47, kI_48, kI_w48, kI_49, kI_w49, kI_50, kI_w50, kI_51, kI_w51, kI_52, kI_w52, kI_53, kI_w53, kI_54, kI_w54, kI_55, kI_w55, kI_56, kI_w56, kI_57, kI_w57, kI_58, kI_w58, kI_59, kI_w59, kI_60, kI_w60, kI_61, kI_w61, ix_in (show a < 2147483648 by omega), ix_nat (show a < 2147483648 by omega), show a < 13 by omega, s17, ix_le (show len < 2147483648 by omega) (show k < 2147483648 by omega), show ¬ len ≤ k by omega, m48, nI_add, ix_in k2, ix_nat k2, show 48 * a + k < 624 by omega, s16 k (by omega), m_isDigit, hd, nI_1, e1, ex_ite, exists_and_left, exists_const, exists_and_right]
    · refine ⟨m + 1, k + 1, st', nm * 10 + f k - 48, by omega, Nat.le_refl _, by omega, hg', hs', .inr hd2, ?_, ?_⟩
      · intro W I T cnt lf cp
        show (if mj_fact (f k) = true then _ else _) = _
        rw [if_neg (by rw [nf]; decide), if_pos hd, if_pos (.inr hd2)]
      · intro K post h d v o ch how s s17 s16
        have k3 : 48 * a + (k + 1) < 2147483648 := by omega
        rw [ex_succ rfl]
        simp only [vb_X12_holds_220, mq_tag, mq_len, mq_i, mq_r, mq_l, mq_nx, mq_wi, mq_wr, mq_wl, true_and, and_true, and_false, false_and, and_self, ↓reduceIte, kT_24, kT_25, kT_26, kT_27, kT_28, kT_29, kT_30, kT_31, kT_32, kT_33, kT_34, kT_35, kT_36, kT_37, kT_38, kT_39, kT_40, kT_41, kT_42, kT_43, kT_44, kT_45, kT_46, kT_47, kT_48, kT_49, kT_50, kT_51, kT_52, kT_53, kT_54, kT_55, kT_56, kT_57, kT_58, kT_59, kT_60, kT_61, kL_25, kL_26, kL_27, kL_28, kL_29, kL_30, kL_31, kL_32, kL_33, kL_34, kL_35, kL_36, kL_37, kL_38, kL_39, kL_40, kL_41, kL_42, kL_43, kL_44, kL_45, kL_46, kL_47, kL_48, kL_49, kL_50, kL_51, kL_52, kL_53, kL_54, kL_55, kL_56, kL_57, kL_58, kL_59, kL_60, kL_61, kW_24_1, kW_24_2, kW_24_3, kW_24_4, kW_24_5, kW_24_6, kW_24_7, kW_24_8, kW_24_9, kW_24_10, kW_24_11, kW_24_12, kW_24_14, kW_24_15, kW_24_16, kW_24_17, kW_24_18, kW_24_19, kW_24_21, kW_24_22, kW_24_23, kW_24_25, kW_24_26, kW_24_27, kW_24_28, kW_24_29, kW_24_31, kW_24_32, kW_24_33, kW_24_34, kW_24_36, kW_24_37, kW_24_44, kW_24_49, kW_24_50, kW_24_51, kW_24_52, kI_24, kI_w24, kI_25, kI_w25, kI_26, kI_w26, kI_27, kI_w27, kI_28, kI_w28, kI_29, kI_w29, kI_30, kI_w30, kI_31, kI_w31, kI_32, kI_w32, kI_33, kI_w33, kI_34, kI_w34, kI_35, kI_w35, kI_36, kI_w36, kI_37, kI_w37, kI_38, kI_w38, kI_39, kI_w39, kI_40, kI_w40, kI_41, kI_w41, kI_42, kI_w42, kI_43, kI_w43, kI_44, kI_w44, kI_45, kI_w45, kI_46, kI_w46, kI_47, kI_w47, kI_48, kI_w48, kI_49, kI_w49, kI_50, kI_w50, kI_51, kI_w51, kI_52, kI_w52, kI_53, kI_w53, kI_54, kI_w54, kI_55, kI_w55, kI_56, kI_w56, kI_57, kI_w57, kI_58, kI_w58, kI_59, kI_w59, kI_60, kI_w60, kI_61, kI_w61, ix_in (show a < 2147483648 by omega), ix_nat (show a < 2147483648 by omega), show a < 13 by omega, s17, ix_le (show len < 2147483648 by omega) (show k < 2147483648 by omega), show ¬ len ≤ k by omega, m48, nI_add, ix_in k2, ix_nat k2, show 48 * a + k < 624 by omega, s16 k (by omega), m_isDigit, hd, nI_1, e1, ex_ite, exists_and_left, exists_const, exists_and_right]
        rw [ex_succ rfl]
        simp only [vb_X12_holds_220, mq_tag, mq_len, mq_i, mq_r, mq_l, mq_nx, mq_wi, mq_wr, mq_wl, true_and, and_true, and_false, false_and, and_self, ↓reduceIte, kT_24, kT_25, kT_26, kT_27, kT_28, kT_29, kT_30, kT_31, kT_32, kT_33, kT_34, kT_35, kT_36, kT_37, kT_38, kT_39, kT_40, kT_41, kT_42, kT_43, kT_44, kT_45, kT_46, kT_47, kT_48, kT_49, kT_50, kT_51, kT_52, kT_53, kT_54, kT_55, kT_56, kT_57, kT_58, kT_59, kT_60, kT_61, kL_25, kL_26, kL_27, kL_28, kL_29, kL_30, kL_31, kL_32, kL_33, kL_34, kL_35, kL_36, kL_37, kL_38, kL_39, kL_40, kL_41, kL_42, kL_43, kL_44, kL_45, kL_46, kL_47, kL_48, kL_49, kL_50, kL_51, kL_52, kL_53, kL_54, kL_55, kL_56, kL_57, kL_58, kL_59, kL_60, kL_61, kW_24_1, kW_24_2, kW_24_3, kW_24_4, kW_24_5, kW_24_6, kW_24_7, kW_24_8, kW_24_9, kW_24_10, kW_24_11, kW_24_12, kW_24_14, kW_24_15, kW_24_16, kW_24_17, kW_24_18, kW_24_19, kW_24_21, kW_24_22, kW_24_23, kW_24_25, kW_24_26, kW_24_27, kW_24_28, kW_24_29, kW_24_31, kW_24_32, kW_24_33, kW_24_34, kW_24_36, kW_24_37, kW_24_44, kW_24_49, kW_24_50, kW_24_51, kW_24_52, kI_24, kI_w24, kI_25, kI_w25, kI_26, kI_w26, kI_27, kI_w27, kI_28, kI_w28, kI_29, kI_w29, kI_30, kI_w30, kI_31, kI_w31, kI_32, kI_w32, kI_33, kI_w33, kI_34, kI_w34, kI_35, kI_w35, kI_36, kI_w36, kI_37, kI_w37, kI_38, kI_w38, kI_39, kI_w39, kI_40, kI_w40, kI_41, kI_w41, kI_42, kI_w42, kI_43, kI_w43, kI_44, kI_w44, kI_45, kI_w45, kI_46, kI_w46, kI_47, kI_w47, kI_48, kI_w48, kI_49, kI_w49, kI_50, kI_w50, kI_51, kI_w51, kI_52, kI_w52, kI_53, kI_w53, kI_54, kI_w54, kI_55, kI_w55, kI_56, kI_w56, kI_57, kI_w57, kI_58, kI_w58, kI_59, kI_w59, kI_60, kI_w60, kI_61, kI_w61, ix_in (show a < 2147483648 by omega), ix_nat (show a < 2147483648 by omega), show a < 13 by omega, s17, ix_le (show len < 2147483648 by omega) (show k + 1 < 2147483648 by omega), show ¬ len ≤ k + 1 by omega, m48, nI_add, ix_in k3, ix_nat k3, show 48 * a + (k + 1) < 624 by omega, s16 (k + 1) (by omega), m_isDigit, hd2, Bool.false_eq_true, ex_ite, exists_and_left, exists_const, exists_and_right]
end

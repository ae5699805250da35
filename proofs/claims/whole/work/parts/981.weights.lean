/-! STAGE B: weights of floors; floors as bits -/
theorem Int32_nI {v : Int32} (h : 0 ≤ v) : v = nI v.toNatClampNeg := by
  obtain ⟨k, hk, rfl⟩ := ix_of h
  rw [ix_nat hk]
theorem nI_mul (a b : Nat) : nI a * nI b = nI (a * b) := (Int32.ofNat_mul a b).symm
theorem nI_div {a b : Nat} (ha : a < 2147483648) (hb : b < 2147483648) : nI a / nI b = nI (a / b) := by
  have h := Nat.div_le_self a b
  apply i_eq.mpr
  rw [Int32.toInt_div, nI_toInt ha, nI_toInt hb, nI_toInt (by omega), ← Int.ofNat_tdiv]
  generalize a / b = y at h ⊢
  rw [Int.bmod_eq_of_le (by omega) (by omega)]
theorem lN_div {a b : Nat} (ha : a < 9000000000000000000) (hb : b < 9000000000000000000) : lN a / lN b = lN (a / b) := by
  have h := Nat.div_le_self a b
  apply l_eq.mpr
  rw [Int64.toInt_div, lN_t ha, lN_t hb, lN_t (by omega), ← Int.ofNat_tdiv]
  generalize a / b = y at h ⊢
  rw [Int.bmod_eq_of_le (by omega) (by omega)]
def kWn (P : Nat → Bool) (W : Nat → Nat) : Nat → Nat → Nat → Nat
  | 0, _, a => a
  | m + 1, k, a => kWn P W m (k + 1) (if P k = true then a + W k else a)
section
variable {P Q : Nat → Bool} {W : Nat → Nat}
theorem kWn_le (hW : ∀ f, f < 12 → W f ≤ 100) : ∀ m k a, k + m = 12 → a ≤ 100 * k → kWn P W m k a ≤ 1200
  | 0, k, a, hk, ha => by show a ≤ 1200; omega
  | m + 1, k, a, hk, ha => by
    have := hW k (by omega)
    refine kWn_le hW m (k + 1) _ (by omega) ?_
    split <;> omega
theorem kWn_mono (h : ∀ j, j < 12 → P j = true → Q j = true) : ∀ m k a b, k + m = 12 → a ≤ b → kWn P W m k a ≤ kWn Q W m k b
  | 0, _, _, _, _, hab => hab
  | m + 1, k, a, b, hk, hab => by
    refine kWn_mono h m (k + 1) _ _ (by omega) ?_
    by_cases z : P k = true
    · rw [if_pos z, if_pos (h k (by omega) z)]; omega
    · rw [if_neg z]; split <;> omega
theorem kWn_ge : ∀ m k a, a ≤ kWn P W m k a
  | 0, _, _ => Nat.le_refl _
  | m + 1, k, a => by
    have := kWn_ge m (k + 1) (if P k = true then a + W k else a)
    show a ≤ kWn P W m (k + 1) _
    split at this <;> rename_i z
    · rw [if_pos z]; omega
    · rw [if_neg z]; omega
theorem kWn_pos (hW : ∀ f, f < 12 → 1 ≤ W f) {j : Nat} (hj : P j = true) : ∀ m k a, k + m = 12 → k ≤ j → j < 12 → 1 ≤ kWn P W m k a
  | 0, _, _, _, _, _ => by omega
  | m + 1, k, a, hk, h1, h2 => by
    show 1 ≤ kWn P W m (k + 1) _
    by_cases z : j = k
    · subst z
      rw [if_pos hj]
      have := kWn_ge (P := P) (W := W) m (j + 1) (a + W j)
      have := hW j h2
      omega
    · exact kWn_pos hW hj m (k + 1) _ (by omega) (by omega) h2
end
def kWv (s : Nat → Nat → Int32) (v : Nat) : Nat := kWn v.testBit (fun f => (s 14 f).toNatClampNeg) 12 0 0
theorem bit_ne0 {v : Nat} (h0 : v ≠ 0) (h : v < 4096) : ∃ j, j < 12 ∧ v.testBit j = true := by
  have hm := kMk_S (p := 12) (m := v) (by decide) h
  have z := kMk_0 hm
  cases hk : kAny v.testBit 12 0 with
  | false =>
    rw [hk, ← nI_0, ix_eq (by omega) (by decide)] at z
    exact absurd (z.mpr rfl) h0
  | true =>
    obtain ⟨j, _, h2, h3⟩ := kAny_iff.mp hk
    exact ⟨j, by omega, h3⟩
theorem bit_c {z : Nat} (hz : z < 4096) {j : Nat} (hj : j < 12) : (4095 - z).testBit j = !z.testBit j := by
  have := Nat.testBit_two_pow_sub_succ (n := 12) (x := z) hz j
  rw [show 2 ^ 12 - (z + 1) = 4095 - z by omega] at this
  rw [this, decide_eq_true hj]; rfl
theorem nI_without {v z : Nat} (hv : v < 4096) (hz : z < 4096) : nI v &&& (nI z ^^^ (-1)) = nI (v &&& (4095 - z)) := by
  have h1 : nI v = nI v &&& nI 4095 := by
    rw [nI_and hv (by decide)]
    congr 1
    have := Nat.and_two_pow_sub_one_eq_mod v 12
    rw [show 2 ^ 12 - 1 = 4095 by decide] at this
    rw [this]; exact (Nat.mod_eq_of_lt hv).symm
  have h2 := nI_cmp (p := 12) (m := z) (by decide) hz
  rw [show 2 ^ 12 - 1 = 4095 by decide] at h2
  rw [h1, Int32.and_assoc, h2, nI_and hv (by omega)]
theorem and_0 {a b : Nat} (ha : a < 4096) (h : a &&& b = 0) {j : Nat} (hj : a.testBit j = true) : b.testBit j = false := by
  have : (a &&& b).testBit j = false := by rw [h]; exact Nat.zero_testBit j
  rw [Nat.testBit_and, hj, Bool.true_and] at this
  exact this
/-- some of one's bits lie in another set or outside it -/
theorem and_or {y z : Nat} (h0 : y ≠ 0) (hy : y < 4096) (hz : z < 4096) (h1 : y &&& z = 0) : y &&& (4095 - z) ≠ 0 := by
  intro h2
  obtain ⟨j, hj, hb⟩ := bit_ne0 h0 hy
  have a1 := and_0 hy h1 hb
  have a2 := and_0 hy h2 hb
  rw [bit_c hz hj, a1] at a2; cases a2
/-- what is taken out of more leaves some -/
theorem and_less {v z : Nat} (hv : v < 4096) (hz : z < 4096) (hs : z &&& (4095 - v) = 0) (hne : z ≠ v) : v &&& (4095 - z) ≠ 0 := by
  intro h2
  apply hne
  apply Nat.eq_of_testBit_eq
  intro j
  by_cases hj : j < 12
  · cases a : z.testBit j with
    | true =>
      have := and_0 hz hs a
      rw [bit_c hv hj] at this
      cases b : v.testBit j with
      | true => rfl
      | false => rw [b] at this; cases this
    | false =>
      cases b : v.testBit j with
      | false => rfl
      | true =>
        have := and_0 hv h2 b
        rw [bit_c hz hj, a] at this; cases this
  · have h12 : 2 ^ 12 ≤ 2 ^ j := Nat.pow_le_pow_right (by decide) (by omega)
    rw [Nat.testBit_lt_two_pow (by omega), Nat.testBit_lt_two_pow (by omega)]
theorem kWv_b {s : Nat → Nat → Int32} (hW : ∀ f, f < 12 → 1 ≤ s 14 f ∧ s 14 f ≤ 100) {v z : Nat} (h0 : v ≠ 0) (hv : v < 4096) (hz : z < 4096) (hs : z &&& (4095 - v) = 0) : 1 ≤ kWv s v ∧ kWv s v ≤ 1200 ∧ kWv s z ≤ kWv s v := by
  have hN : ∀ f, f < 12 → 1 ≤ (s 14 f).toNatClampNeg ∧ (s 14 f).toNatClampNeg ≤ 100 := fun f hf => by
    obtain ⟨h1, h2⟩ := hW f hf
    have e1 : (1 : Int32).toInt = 1 := by decide
    have e2 : (100 : Int32).toInt = 100 := by decide
    have e3 := Int32_nI (v := s 14 f) (by rw [i_le] at h1 ⊢; have e0 : (0 : Int32).toInt = 0 := by decide
                                          omega)
    rw [i_le] at h1 h2
    have e4 := Int32.toInt_lt (s 14 f)
    have e5 : (s 14 f).toNatClampNeg = (s 14 f).toInt.toNat := rfl
    omega
  obtain ⟨j, hj, hb⟩ := bit_ne0 h0 hv
  refine ⟨kWn_pos (fun f hf => (hN f hf).1) hb 12 0 0 (by omega) (by omega) hj, kWn_le (fun f hf => (hN f hf).2) 12 0 0 (by omega) (by omega), kWn_mono (fun i hi hz1 => ?_) 12 0 0 0 (by omega) (Nat.le_refl _)⟩
  have := and_0 hz hs hz1
  rw [bit_c hv hi] at this
  cases b : v.testBit i with
  | true => rfl
  | false => rw [b] at this; cases this
section
variable {B x n : Nat} {t l u : Nat → Nat} {i c s : Nat → Nat → Int32} {r : Nat → Nat → Nat} {q g w : Nat → Nat → Int64}
theorem cl_wt (h3 : ∀ f, f < 12 → c 3 f = s 14 f ∧ 1 ≤ s 14 f ∧ s 14 f ≤ 100) {v : Nat} (hv : v < 4096) {post : Int32 → mj_M → Prop} : ∀ (m k a : Nat), k + m = 12 → (∃ fe, vb_X4_weightOf_4 post fe (B + 1) (nI v) (nI a) (nI k) (kT B t, kL B l, kI B i c s, kW B r u, kI B q g w, x)) = post (nI (kWn v.testBit (fun f => (s 14 f).toNatClampNeg) m k a)) (kT B t, kL B l, kI B i c s, kW B r u, kI B q g w, x)
  | 0, k, a, hk => by
    have k12 : k = 12 := by omega
    subst k12
    rw [ex_succ rfl]
    simp only [vb_X4_weightOf_4, show (nI 12) = 12 by decide, Int32.le_refl, ↓reduceIte, ex_ite, exists_and_left, exists_const, exists_and_right, kWn]
  | m + 1, k, a, hk => by
    have k1 : k < 2147483648 := by omega
    obtain ⟨c3, w1, w2⟩ := h3 k (by omega)
    have I := fun a => cl_wt h3 hv (post := post) m (k + 1) a (by omega)
    have b1 := kMk_b (kMk_S (p := 12) (m := v) (by decide) hv) (show k < 12 by omega)
    have e3 := Int32_nI (v := s 14 k) (by
      rw [i_le] at w1 ⊢
      have e0 : (0 : Int32).toInt = 0 := by decide
      have e1 : (1 : Int32).toInt = 1 := by decide
      omega)
    rw [ex_succ rfl]
    simp only [vb_X4_weightOf_4, mq_tag, mq_len, mq_i, mq_r, mq_l, mq_nx, mq_wi, mq_wr, mq_wl, true_and, and_true, and_false, false_and, and_self, ↓reduceIte, kT_0, kT_1, kT_2, kT_3, kT_4, kT_5, kT_6, kT_7, kT_8, kT_9, kT_10, kT_11, kT_12, kT_13, kT_14, kT_15, kT_16, kT_17, kT_18, kT_19, kT_20, kT_21, kT_22, kT_23, kL_2, kL_3, kL_5, kL_10, kL_11, kL_12, kL_14, kL_15, kL_17, kL_18, kL_19, kL_20, kL_21, kL_22, kL_23, kW_0_0, kW_0_1, kW_0_2, kW_0_3, kW_0_4, kW_0_5, kW_0_6, kW_0_7, kW_1_4, kW_1_5, kW_4_0, kW_4_1, kW_9_0, kW_9_1, kW_9_2, kW_13_0, kW_13_1, kW_16_0, kW_16_1, kW_16_2, kW_16_3, kW_16_4, kW_16_5, kW_1_1, kW_1_2, kW_4_4, kW_8_0, kW_8_1, kW_w1_1, kW_w1_2, kW_w4_4, kW_w8_0, kW_w8_1, kI_0, kI_w0, kI_1, kI_w1, kI_2, kI_w2, kI_3, kI_w3, kI_4, kI_w4, kI_5, kI_w5, kI_6, kI_w6, kI_7, kI_w7, kI_8, kI_w8, kI_9, kI_w9, kI_10, kI_w10, kI_11, kI_w11, kI_12, kI_w12, kI_13, kI_w13, kI_14, kI_w14, kI_15, kI_w15, kI_16, kI_w16, kI_17, kI_w17, kI_18, kI_w18, kI_19, kI_w19, kI_20, kI_w20, kI_21, kI_w21, kI_22, kI_w22, kI_23, kI_w23, show (12 : Int32) = nI 12 by decide, ix_le (show 12 < 2147483648 by decide) k1, show ¬ 12 ≤ k by omega, ix_in k1, ix_nat k1, show k < 12 by omega, c3, nI_1, ex_ite, exists_and_left, exists_const, exists_and_right, kWn]
    rcases i_a1 (nI v >>> (nI k &&& 31)) with z | z
    · rw [z] at b1 ⊢
      have y : v.testBit k = false := by
        cases y : v.testBit k with
        | false => rfl
        | true => rw [y] at b1; exact absurd (b1.mpr rfl) (by decide)
      simp only [y, Int32.zero_mul, Int32.add_zero, I, Bool.false_eq_true, ↓reduceIte]
    · rw [z] at b1 ⊢
      have y : v.testBit k = true := b1.mp rfl
      simp only [y, Int32.one_mul, ↓reduceIte]
      rw [← I, ← nI_add a, ← e3]
theorem c_wt (h3 : ∀ f, f < 12 → c 3 f = s 14 f ∧ 1 ≤ s 14 f ∧ s 14 f ≤ 100) {v : Nat} (hv : v < 4096) {post : Int32 → mj_M → Prop} : vc_X4_weightOf (B + 1) (nI v) (kT B t, kL B l, kI B i c s, kW B r u, kI B q g w, x) post = post (nI (kWv s v)) (kT B t, kL B l, kI B i c s, kW B r u, kI B q g w, x) := by
  have L := cl_wt (B := B) (t := t) (l := l) (u := u) (i := i) (r := r) (q := q) (g := g) (w := w) (x := x) h3 hv (post := post) 12 0 0 (by omega)
  rw [nI_0] at L
  simp only [vc_X4_weightOf, kWv]; exact L
theorem ml_wt (h3 : ∀ f, f < 12 → 1 ≤ s 14 f ∧ s 14 f ≤ 100) {v : Nat} (hv : v < 4096) {post : Int32 → mj_M → Prop} : ∀ (m k a : Nat), k + m = 12 → (∃ fe, vb_X12_weightOf_4 post fe (B + 24) (nI v) (nI a) (nI k) (kT B t, kL B l, kI B i c s, kW B r u, kI B q g w, x)) = post (nI (kWn v.testBit (fun f => (s 14 f).toNatClampNeg) m k a)) (kT B t, kL B l, kI B i c s, kW B r u, kI B q g w, x)
  | 0, k, a, hk => by
    have k12 : k = 12 := by omega
    subst k12
    rw [ex_succ rfl]
    simp only [vb_X12_weightOf_4, show (nI 12) = 12 by decide, Int32.le_refl, ↓reduceIte, ex_ite, exists_and_left, exists_const, exists_and_right, kWn]
  | m + 1, k, a, hk => by
    have k1 : k < 2147483648 := by omega
    obtain ⟨w1, w2⟩ := h3 k (by omega)
    have I := fun a => ml_wt h3 hv (post := post) m (k + 1) a (by omega)
    have b1 := kMk_b (kMk_S (p := 12) (m := v) (by decide) hv) (show k < 12 by omega)
    have e3 := Int32_nI (v := s 14 k) (by
      rw [i_le] at w1 ⊢
      have e0 : (0 : Int32).toInt = 0 := by decide
      have e1 : (1 : Int32).toInt = 1 := by decide
      omega)
    rw [ex_succ rfl]
    simp only [vb_X12_weightOf_4, mq_tag, mq_len, mq_i, mq_r, mq_l, mq_nx, mq_wi, mq_wr, mq_wl, true_and, and_true, and_false, false_and, and_self, ↓reduceIte, kT_24, kT_25, kT_26, kT_27, kT_28, kT_29, kT_30, kT_31, kT_32, kT_33, kT_34, kT_35, kT_36, kT_37, kT_38, kT_39, kT_40, kT_41, kT_42, kT_43, kT_44, kT_45, kT_46, kT_47, kT_48, kT_49, kT_50, kT_51, kT_52, kT_53, kT_54, kT_55, kT_56, kT_57, kT_58, kT_59, kT_60, kT_61, kL_25, kL_26, kL_27, kL_28, kL_29, kL_30, kL_31, kL_32, kL_33, kL_34, kL_35, kL_36, kL_37, kL_38, kL_39, kL_40, kL_41, kL_42, kL_43, kL_44, kL_45, kL_46, kL_47, kL_48, kL_49, kL_50, kL_51, kL_52, kL_53, kL_54, kL_55, kL_56, kL_57, kL_58, kL_59, kL_60, kL_61, kW_24_1, kW_24_2, kW_24_3, kW_24_4, kW_24_5, kW_24_6, kW_24_7, kW_24_8, kW_24_9, kW_24_10, kW_24_11, kW_24_12, kW_24_14, kW_24_15, kW_24_16, kW_24_17, kW_24_18, kW_24_19, kW_24_21, kW_24_22, kW_24_23, kW_24_25, kW_24_26, kW_24_27, kW_24_28, kW_24_29, kW_24_31, kW_24_32, kW_24_33, kW_24_34, kW_24_36, kW_24_37, kW_24_44, kW_24_49, kW_24_50, kW_24_51, kW_24_52, kI_24, kI_w24, kI_25, kI_w25, kI_26, kI_w26, kI_27, kI_w27, kI_28, kI_w28, kI_29, kI_w29, kI_30, kI_w30, kI_31, kI_w31, kI_32, kI_w32, kI_33, kI_w33, kI_34, kI_w34, kI_35, kI_w35, kI_36, kI_w36, kI_37, kI_w37, kI_38, kI_w38, kI_39, kI_w39, kI_40, kI_w40, kI_41, kI_w41, kI_42, kI_w42, kI_43, kI_w43, kI_44, kI_w44, kI_45, kI_w45, kI_46, kI_w46, kI_47, kI_w47, kI_48, kI_w48, kI_49, kI_w49, kI_50, kI_w50, kI_51, kI_w51, kI_52, kI_w52, kI_53, kI_w53, kI_54, kI_w54, kI_55, kI_w55, kI_56, kI_w56, kI_57, kI_w57, kI_58, kI_w58, kI_59, kI_w59, kI_60, kI_w60, kI_61, kI_w61, show (12 : Int32) = nI 12 by decide, ix_le (show 12 < 2147483648 by decide) k1, show ¬ 12 ≤ k by omega, ix_in k1, ix_nat k1, show k < 12 by omega, nI_1, b1, Int32.add_zero, ex_ite, exists_and_left, exists_const, exists_and_right, kWn]
    rcases Bool.eq_false_or_eq_true (v.testBit k) with z | z
    · simp only [z, ↓reduceIte]
      rw [← I, ← nI_add a, ← e3]
    · simp only [z, Bool.false_eq_true, ↓reduceIte, I]
theorem m_wt (h3 : ∀ f, f < 12 → 1 ≤ s 14 f ∧ s 14 f ≤ 100) {v : Nat} (hv : v < 4096) {post : Int32 → mj_M → Prop} : vc_X12_weightOf (B + 24) (nI v) (kT B t, kL B l, kI B i c s, kW B r u, kI B q g w, x) post = post (nI (kWv s v)) (kT B t, kL B l, kI B i c s, kW B r u, kI B q g w, x) := by
  have L := ml_wt (B := B) (t := t) (l := l) (u := u) (i := i) (c := c) (r := r) (q := q) (g := g) (w := w) (x := x) h3 hv (post := post) 12 0 0 (by omega)
  rw [nI_0] at L
  simp only [vc_X12_weightOf, kWv]; exact L
end

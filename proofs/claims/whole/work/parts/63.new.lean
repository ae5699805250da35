/-! STAGE B: a new holding -/
theorem kCD.new {B x n na nn : Nat} {A AA AT AN : Nat → Nat} {t l : Nat → Nat} {i e : Nat → Nat → Int32} {r : Nat → Nat → Nat} {e' i' : Nat → Nat → Int32} {r' : Nat → Nat → Nat} (H : kCD B A AA AT AN n na nn e t l i r x) (hn : n < 40)
    (hi : ∀ h, h < n → i' (A h) 0 = nI h ∧ ∀ j, 2 ≤ j → j ≤ 11 → i' (A h) (kfd j) = e' j h)
    (hr : ∀ h, h < n → r' (A h) 1 = (if h + 1 = n then x else A (h + 1)) ∧ r' (A h) 2 = kR (mj_u1 A n x) (e' 1 h) ∧ r' (A h) 13 = kR A (e' 12 h))
    (hx : i' x 0 = nI n ∧ (∀ j, 2 ≤ j → j ≤ 11 → i' x (kfd j) = e' j n) ∧ r' x 1 = 0 ∧ r' x 2 = kR (mj_u1 A n x) (e' 1 n) ∧ r' x 13 = 0)
    (hV : ∀ h, h < n + 1 → kV (n + 1) (e' 1 h)) (hV12 : ∀ h, h < n → kV n (e' 12 h)) (hx12 : e' 12 n < 0)
    (ho : ∀ a, t a ≠ 4 → a ≠ x → i' a = i a ∧ r' a = r a) (he : ∀ j, 13 ≤ j → e' j = e j) :
    kCD B (mj_u1 A n x) AA AT AN (n + 1) na nn e' (mj_u1 t x 4) l i' r' (x + 1) := by
  obtain ⟨⟨p1, p2, p3, p4, p5⟩, ⟨⟨a1, a2⟩, ⟨b1, b2⟩, ⟨c1, c2⟩, ⟨d1, d2⟩⟩, v1, v2, k1, k2, k3⟩ := id H
  have L : ∀ h, h < n → mj_u1 A n x h = A h := fun h hh => mq_u1n (by omega)
  have Ln : mj_u1 A n x n = x := mq_u1s
  have kRe : ∀ v, kV n v → kR (mj_u1 A n x) v = kR A v := by
    intro v hv
    rcases hv with hv | ⟨k, hk, rfl⟩
    · rw [kR_n hv, kR_n hv]
    · rw [kR_I (by omega), kR_I (by omega), L k hk]
  have nx : ∀ a, a < x → a ≠ x := fun a h => by omega
  have tt : ∀ a, a < x → mj_u1 t x 4 a = t a := fun a h => mq_u1n (by omega)
  refine ⟨⟨by omega, p2, p3, p4, by omega⟩, ⟨⟨?_, ?_⟩, ⟨?_, b2⟩, ⟨?_, c2⟩, ⟨?_, d2⟩⟩, ?_, ?_, ?_, ?_, ?_⟩
  · intro h hh
    by_cases e1 : h = n
    · subst e1; rw [Ln, mq_u1s]; exact ⟨p5, by omega, rfl⟩
    · obtain ⟨q1, q2, q3⟩ := a1 h (by omega)
      rw [L h (by omega), tt _ q2]; exact ⟨q1, by omega, q3⟩
  · intro a b ha hb hab
    by_cases e1 : a = n <;> by_cases e2 : b = n
    · omega
    · subst e1; rw [Ln, L b (by omega)] at hab; have := (a1 b (by omega)).2.1; omega
    · subst e2; rw [Ln, L a (by omega)] at hab; have := (a1 a (by omega)).2.1; omega
    · rw [L a (by omega), L b (by omega)] at hab; exact a2 a b (by omega) (by omega) hab
  · intro h hh; obtain ⟨q1, q2, q3⟩ := b1 h hh; rw [tt _ q2]; exact ⟨q1, by omega, q3⟩
  · intro h hh; obtain ⟨q1, q2, q3⟩ := c1 h hh; rw [tt _ q2]; exact ⟨q1, by omega, q3⟩
  · intro h hh; obtain ⟨q1, q2, q3⟩ := d1 h hh; rw [tt _ q2]; exact ⟨q1, by omega, q3⟩
  · intro h hh
    refine ⟨hV h hh, ?_⟩
    by_cases e1 : h = n
    · subst e1; exact .inl hx12
    · exact kV_up (hV12 h (by omega)) (by omega)
  · intro k hk; rw [he 25 (by decide)]; exact kV_up (v2 k hk) (by omega)
  · intro h hh
    by_cases e1 : h = n
    · subst e1
      obtain ⟨q1, q2, q3, q4, q5⟩ := hx
      unfold kH1
      rw [Ln, kR_n hx12, kP_ge (Nat.le_refl _)]
      exact ⟨q1, q2, q3, q4, q5⟩
    · have hh' : h < n := by omega
      obtain ⟨q1, q2⟩ := hi h hh'
      obtain ⟨q3, q4, q5⟩ := hr h hh'
      unfold kH1
      rw [L h hh']
      refine ⟨q1, q2, ?_, q4, ?_⟩
      · rw [q3, kP_lt (by omega)]
        by_cases e2 : h + 1 = n
        · rw [if_pos e2, e2, Ln]
        · rw [if_neg e2, L _ (by omega)]
      · rw [q5, kRe _ (hV12 h hh')]
  · intro a ha
    obtain ⟨q1, q2, q3⟩ := b1 a ha
    obtain ⟨s1, s2, s3⟩ := c1 a ha
    obtain ⟨r1, r2, r3, r4, r5, r6, r7⟩ := k2 a ha
    obtain ⟨o1, o2⟩ := ho (AA a) (by omega) (by omega)
    obtain ⟨o3, o4⟩ := ho (AT a) (by omega) (by omega)
    unfold kA1
    rw [o1, o2, o3, he 18 (by decide), he 19 (by decide), he 17 (by decide), he 16 (by decide)]
    exact ⟨r1, r2, r3, r4, r5, r6, r7⟩
  · intro k hk
    obtain ⟨q1, q2, q3⟩ := d1 k hk
    obtain ⟨r1, r2, r3, r4, r5, r6, r7⟩ := k3 k hk
    obtain ⟨o1, o2⟩ := ho (AN k) (by omega) (by omega)
    unfold kN1
    rw [o1, o2, he 25 (by decide), he 26 (by decide), he 27 (by decide), he 28 (by decide), he 29 (by decide), kRe _ (v2 k hk)]
    exact ⟨r1, r2, r3, r4, r5, r6, r7⟩
theorem c_add {B y n : Nat} {t l u A : Nat → Nat} {i c s : Nat → Nat → Int32} {r : Nat → Nat → Nat} {q g w : Nat → Nat → Int64} {x : Nat} (hy : B + 62 ≤ y) (ht : t y = 4) (hu : u 1 = if n = 0 then 0 else A (n - 1)) (hA : 0 < n → B + 62 ≤ A (n - 1) ∧ t (A (n - 1)) = 4) (hc : c 1 3 = nI n) {post : Int32 → mj_M → Prop} :
    vc_X4_add (B + 1) y (kT B t, kL B l, kI B i c s, kW B r u, kI B q g w, x) post = post (nI n) (kT B t, kL B l, kI B (mj_u2 i y 0 (nI n)) (mj_u2 c 1 3 (nI (n + 1))) s, kW B (if n = 0 then r else mj_u2 r (A (n - 1)) 1 y) (if n = 0 then mj_u1 (mj_u1 u 0 y) 1 y else mj_u1 u 1 y), kI B q g w, x) := by
  have e1 : kT B t y = 4 := (kT_o hy).trans ht
  by_cases h0 : n = 0
  · subst h0
    simp only [vc_X4_add, vb_X4_add_31, mq_tag, mq_len, mq_i, mq_r, mq_l, mq_nx, mq_wi, mq_wr, mq_wl, true_and, and_true, and_false, false_and, and_self, ↓reduceIte, kT_0, kT_1, kT_2, kT_3, kT_4, kT_5, kT_6, kT_7, kT_8, kT_9, kT_10, kT_11, kT_12, kT_13, kT_14, kT_15, kT_16, kT_17, kT_18, kT_19, kT_20, kT_21, kT_22, kT_23, kL_2, kL_3, kL_5, kL_10, kL_11, kL_12, kL_14, kL_15, kL_17, kL_18, kL_19, kL_20, kL_21, kL_22, kL_23, kW_0_0, kW_0_1, kW_0_2, kW_0_3, kW_0_4, kW_0_5, kW_0_6, kW_0_7, kW_1_4, kW_1_5, kW_4_0, kW_4_1, kW_9_0, kW_9_1, kW_9_2, kW_13_0, kW_13_1, kW_16_0, kW_16_1, kW_16_2, kW_16_3, kW_16_4, kW_16_5, kW_1_1, kW_1_2, kW_4_4, kW_8_0, kW_8_1, kW_w1_1, kW_w1_2, kW_w4_4, kW_w8_0, kW_w8_1, kI_0, kI_w0, kI_1, kI_w1, kI_2, kI_w2, kI_3, kI_w3, kI_4, kI_w4, kI_5, kI_w5, kI_6, kI_w6, kI_7, kI_w7, kI_8, kI_w8, kI_9, kI_w9, kI_10, kI_w10, kI_11, kI_w11, kI_12, kI_w12, kI_13, kI_w13, kI_14, kI_w14, kI_15, kI_w15, kI_16, kI_w16, kI_17, kI_w17, kI_18, kI_w18, kI_19, kI_w19, kI_20, kI_w20, kI_21, kI_w21, kI_22, kI_w22, kI_23, kI_w23, e1, hu, hc, kI_wo hy, kI_o hy, mq_u2s, nI_1, Nat.zero_add, ↓reduceIte]
  · obtain ⟨q1, q2⟩ := hA (by omega)
    have e2 : kT B t (A (n - 1)) = 4 := (kT_o q1).trans q2
    have e3 : ¬ A (n - 1) = 0 := by omega
    simp only [vc_X4_add, vb_X4_add_31, mq_tag, mq_len, mq_i, mq_r, mq_l, mq_nx, mq_wi, mq_wr, mq_wl, true_and, and_true, and_false, false_and, and_self, ↓reduceIte, kT_0, kT_1, kT_2, kT_3, kT_4, kT_5, kT_6, kT_7, kT_8, kT_9, kT_10, kT_11, kT_12, kT_13, kT_14, kT_15, kT_16, kT_17, kT_18, kT_19, kT_20, kT_21, kT_22, kT_23, kL_2, kL_3, kL_5, kL_10, kL_11, kL_12, kL_14, kL_15, kL_17, kL_18, kL_19, kL_20, kL_21, kL_22, kL_23, kW_0_0, kW_0_1, kW_0_2, kW_0_3, kW_0_4, kW_0_5, kW_0_6, kW_0_7, kW_1_4, kW_1_5, kW_4_0, kW_4_1, kW_9_0, kW_9_1, kW_9_2, kW_13_0, kW_13_1, kW_16_0, kW_16_1, kW_16_2, kW_16_3, kW_16_4, kW_16_5, kW_1_1, kW_1_2, kW_4_4, kW_8_0, kW_8_1, kW_w1_1, kW_w1_2, kW_w4_4, kW_w8_0, kW_w8_1, kI_0, kI_w0, kI_1, kI_w1, kI_2, kI_w2, kI_3, kI_w3, kI_4, kI_w4, kI_5, kI_w5, kI_6, kI_w6, kI_7, kI_w7, kI_8, kI_w8, kI_9, kI_w9, kI_10, kI_w10, kI_11, kI_w11, kI_12, kI_w12, kI_13, kI_w13, kI_14, kI_w14, kI_15, kI_w15, kI_16, kI_w16, kI_17, kI_w17, kI_18, kI_w18, kI_19, kI_w19, kI_20, kI_w20, kI_21, kI_w21, kI_22, kI_w22, kI_23, kI_w23, e1, e2, e3, h0, hu, hc, kI_wo hy, kI_o hy, kW_wo q1, mq_u2s, nI_1, ↓reduceIte]
/-- the row of a new one -/
def kAdd (s : Nat → Nat → Int32) (n : Nat) (o f a b p d : Int32) : Nat → Nat → Int32 := mj_u2 (mj_u2 (mj_u2 (mj_u2 (mj_u2 (mj_u2 (mj_u2 (mj_u2 (mj_u2 (mj_u2 (mj_u2 (mj_u2 (mj_u2 s 1 n o) 2 n f) 3 n a) 4 n b) 5 n 0) 6 n 0) 7 n p) 8 n d) 9 n 0) 10 n 0) 11 n (-6)) 12 n (-6)) 0 13 (nI (n + 1))
theorem kAdd_lt {s : Nat → Nat → Int32} {n : Nat} {o f a b p d : Int32} {j h : Nat} (hj : 1 ≤ j) (hh : h < n) : kAdd s n o f a b p d j h = s j h := by
  unfold kAdd
  rw [mq_u2n (by omega)]
  repeat rw [mq_u2k (by omega)]
theorem kAdd_hi {s : Nat → Nat → Int32} {n : Nat} {o f a b p d : Int32} {j : Nat} (hj : 13 ≤ j) : kAdd s n o f a b p d j = s j := by
  funext k
  unfold kAdd
  repeat rw [mq_u2n (by omega)]
theorem kAdd_0 {s : Nat → Nat → Int32} {n : Nat} {o f a b p d : Int32} {j : Nat} (hj : j ≠ 13) : kAdd s n o f a b p d 0 j = s 0 j := by
  unfold kAdd
  rw [mq_u2k hj]
  repeat rw [mq_u2n (by decide)]
theorem kAdd_13 {s : Nat → Nat → Int32} {n : Nat} {o f a b p d : Int32} : kAdd s n o f a b p d 0 13 = nI (n + 1) := mq_u2s
theorem kAdd_n {s : Nat → Nat → Int32} {n : Nat} {o f a b p d : Int32} : kAdd s n o f a b p d 1 n = o ∧ kAdd s n o f a b p d 2 n = f ∧ kAdd s n o f a b p d 3 n = a ∧ kAdd s n o f a b p d 4 n = b ∧ kAdd s n o f a b p d 5 n = 0 ∧ kAdd s n o f a b p d 6 n = 0 ∧ kAdd s n o f a b p d 7 n = p ∧ kAdd s n o f a b p d 8 n = d ∧ kAdd s n o f a b p d 9 n = 0 ∧ kAdd s n o f a b p d 10 n = 0 ∧ kAdd s n o f a b p d 11 n = -6 ∧ kAdd s n o f a b p d 12 n = -6 := by
  simp [kAdd, mq_u2]
theorem m_add {B n : Nat} {t l u : Nat → Nat} {i c s : Nat → Nat → Int32} {r : Nat → Nat → Nat} {q g w : Nat → Nat → Int64} {x : Nat} (hn : s 0 13 = nI n) (h40 : n < 40) {o f a b p d : Int32} {post : Int32 → mj_M → Prop} :
    vc_X12_add (B + 24) o f a b p d (kT B t, kL B l, kI B i c s, kW B r u, kI B q g w, x) post = post (nI n) (kT B t, kL B l, kI B i c (kAdd s n o f a b p d), kW B r u, kI B q g w, x) := by
  have k1 : n < 2147483648 := by omega
  simp only [vc_X12_add, mq_tag, mq_len, mq_i, mq_r, mq_l, mq_nx, mq_wi, mq_wr, mq_wl, true_and, and_true, and_false, false_and, and_self, ↓reduceIte, kT_24, kT_25, kT_26, kT_27, kT_28, kT_29, kT_30, kT_31, kT_32, kT_33, kT_34, kT_35, kT_36, kT_37, kT_38, kT_39, kT_40, kT_41, kT_42, kT_43, kT_44, kT_45, kT_46, kT_47, kT_48, kT_49, kT_50, kT_51, kT_52, kT_53, kT_54, kT_55, kT_56, kT_57, kT_58, kT_59, kT_60, kT_61, kL_25, kL_26, kL_27, kL_28, kL_29, kL_30, kL_31, kL_32, kL_33, kL_34, kL_35, kL_36, kL_37, kL_38, kL_39, kL_40, kL_41, kL_42, kL_43, kL_44, kL_45, kL_46, kL_47, kL_48, kL_49, kL_50, kL_51, kL_52, kL_53, kL_54, kL_55, kL_56, kL_57, kL_58, kL_59, kL_60, kL_61, kW_24_1, kW_24_2, kW_24_3, kW_24_4, kW_24_5, kW_24_6, kW_24_7, kW_24_8, kW_24_9, kW_24_10, kW_24_11, kW_24_12, kW_24_14, kW_24_15, kW_24_16, kW_24_17, kW_24_18, kW_24_19, kW_24_21, kW_24_22, kW_24_23, kW_24_25, kW_24_26, kW_24_27, kW_24_28, kW_24_29, kW_24_31, kW_24_32, kW_24_33, kW_24_34, kW_24_36, kW_24_37, kW_24_44, kW_24_49, kW_24_50, kW_24_51, kW_24_52, kI_24, kI_w24, kI_25, kI_w25, kI_26, kI_w26, kI_27, kI_w27, kI_28, kI_w28, kI_29, kI_w29, kI_30, kI_w30, kI_31, kI_w31, kI_32, kI_w32, kI_33, kI_w33, kI_34, kI_w34, kI_35, kI_w35, kI_36, kI_w36, kI_37, kI_w37, kI_38, kI_w38, kI_39, kI_w39, kI_40, kI_w40, kI_41, kI_w41, kI_42, kI_w42, kI_43, kI_w43, kI_44, kI_w44, kI_45, kI_w45, kI_46, kI_w46, kI_47, kI_w47, kI_48, kI_w48, kI_49, kI_w49, kI_50, kI_w50, kI_51, kI_w51, kI_52, kI_w52, kI_53, kI_w53, kI_54, kI_w54, kI_55, kI_w55, kI_56, kI_w56, kI_57, kI_w57, kI_58, kI_w58, kI_59, kI_w59, kI_60, kI_w60, kI_61, kI_w61, hn, ix_in k1, ix_nat k1, h40, kAdd]
  simp only [mq_u2, Nat.reduceEqDiff, mq_tag, mq_len, mq_i, mq_r, mq_l, mq_nx, mq_wi, mq_wr, mq_wl, true_and, and_true, and_false, false_and, and_self, ↓reduceIte, hn, nI_1]

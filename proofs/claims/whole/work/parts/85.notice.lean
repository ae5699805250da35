/-! STAGE B: a notice -/
def kLa (s : Nat → Nat → Int32) (h : Nat) (kd : Int32) (k : Nat) : Bool := decide (s 25 k = nI h) && (decide (s 26 k = kd) && kAl (kSt s k))
def kLr (s : Nat → Nat → Int32) (h : Nat) (kd : Int32) (k : Nat) : Bool := decide (s 25 k = nI h) && (decide (s 26 k = kd) && decide (s 28 k = 3 ∧ ¬ 365 ≤ s 0 0 - s 29 k))
def kLz (v : Int32) (a r : Bool) : Int32 := if a = true then 2 else if v = 0 then (if r = true then 3 else 0) else v
theorem kSt3 {s : Nat → Nat → Int32} {k : Nat} : (kSt s k = 3) = (s 28 k = 3) := by
  unfold kSt
  by_cases z : s 28 k = 0
  · rw [if_pos z, z]; split <;> simp
  · rw [if_neg z]
theorem kHr_kRi {s : Nat → Nat → Int32} {na h : Nat} {kd d : Int32} : kHr s na h kd d = (kon s h d && decide (kRi s na h kd d = 1)) := by
  unfold kHr kRi
  cases kBe s kd d na with
  | none => simp
  | some a => rcases Bool.eq_false_or_eq_true (kTx s a h d kNo1).1 with z | z <;> simp [z]
theorem kCD.newN {B x n na nn : Nat} {A AA AT AN : Nat → Nat} {t l : Nat → Nat} {i e : Nat → Nat → Int32} {r : Nat → Nat → Nat} {e' i' : Nat → Nat → Int32} {r' : Nat → Nat → Nat} (H : kCD B A AA AT AN n na nn e t l i r x) (hnn : nn < 24) (hi : ∀ a, a ≠ x → i' a = i a)
    (hr : ∀ k, k < nn → r' (AN k) 1 = r (AN k) 1 ∧ r' (AN k) 6 = if k + 1 = nn then x else r (AN k) 6) (hro : ∀ a, t a ≠ 7 → a ≠ x → r' a = r a)
    (x0 : i' x 0 = nI nn) (x1 : r' x 1 = kR A (e' 25 nn)) (x2 : i' x 2 = e' 26 nn) (x3 : i' x 3 = e' 27 nn) (x4 : i' x 4 = e' 28 nn) (x5 : i' x 5 = e' 29 nn) (x6 : r' x 6 = 0) (hv : kV n (e' 25 nn))
    (o1 : ∀ j, 1 ≤ j → j ≤ 12 → e' j = e j) (o2 : ∀ j, 16 ≤ j → j ≤ 19 → e' j = e j) (o4 : ∀ j, 25 ≤ j → j ≤ 29 → ∀ k, k < nn → e' j k = e j k) :
    kCD B A AA AT (mj_u1 AN nn x) n na (nn + 1) e' (mj_u1 t x 7) l i' r' (x + 1) := by
  obtain ⟨⟨p1, p2, p3, p4, p5⟩, ⟨⟨a1, a2⟩, ⟨b1, b2⟩, ⟨c1, c2⟩, ⟨d1, d2⟩⟩, v1, v2, k1, k2, k3⟩ := id H
  have L : ∀ h, h < nn → mj_u1 AN nn x h = AN h := fun h hh => mq_u1n (by omega)
  have tt : ∀ a, a < x → mj_u1 t x 7 a = t a := fun a h => mq_u1n (by omega)
  refine ⟨⟨p1, p2, by omega, p4, by omega⟩, ⟨⟨?_, a2⟩, ⟨?_, b2⟩, ⟨?_, c2⟩, ⟨?_, ?_⟩⟩, ?_, ?_, ?_, ?_, ?_⟩
  · intro h hh; obtain ⟨q1, q2, q3⟩ := a1 h hh; rw [tt _ q2]; exact ⟨q1, by omega, q3⟩
  · intro h hh; obtain ⟨q1, q2, q3⟩ := b1 h hh; rw [tt _ q2]; exact ⟨q1, by omega, q3⟩
  · intro h hh; obtain ⟨q1, q2, q3⟩ := c1 h hh; rw [tt _ q2]; exact ⟨q1, by omega, q3⟩
  · intro h hh
    by_cases e1 : h = nn
    · subst e1; rw [mq_u1s]; exact ⟨p5, by omega, mq_u1s⟩
    · obtain ⟨q1, q2, q3⟩ := d1 h (by omega); rw [L h (by omega), tt _ q2]; exact ⟨q1, by omega, q3⟩
  · intro a b ha hb hab
    by_cases e1 : a = nn <;> by_cases e2 : b = nn
    · omega
    · subst e1; rw [mq_u1s, L b (by omega)] at hab; have := (d1 b (by omega)).2.1; omega
    · subst e2; rw [mq_u1s, L a (by omega)] at hab; have := (d1 a (by omega)).2.1; omega
    · rw [L a (by omega), L b (by omega)] at hab; exact d2 a b (by omega) (by omega) hab
  · intro h hh; rw [o1 1 (by decide) (by decide), o1 12 (by decide) (by decide)]; exact v1 h hh
  · intro k hk
    by_cases e1 : k = nn
    · subst e1; exact hv
    · rw [o4 25 (by decide) (by decide) k (by omega)]; exact v2 k (by omega)
  · intro h hh
    obtain ⟨z1, z2, z3⟩ := a1 h hh
    obtain ⟨q1, q2, q3, q4, q5⟩ := k1 h hh
    unfold kH1
    rw [hi _ (by omega), hro _ (by omega) (by omega), o1 1 (by decide) (by decide), o1 12 (by decide) (by decide)]
    exact ⟨q1, fun j j1 j2 => by rw [o1 j (by omega) (by omega)]; exact q2 j j1 j2, q3, q4, q5⟩
  · intro a ha
    obtain ⟨z1, z2, z3⟩ := b1 a ha
    obtain ⟨y1, y2, y3⟩ := c1 a ha
    obtain ⟨q1, q2, q3, q4, q5, q6, q7⟩ := k2 a ha
    unfold kA1
    rw [hi _ (show AA a ≠ x by omega), hro _ (show t (AA a) ≠ 7 by omega) (by omega), hi _ (show AT a ≠ x by omega), o2 16 (by decide) (by decide), o2 17 (by decide) (by decide), o2 18 (by decide) (by decide), o2 19 (by decide) (by decide)]
    exact ⟨q1, q2, q3, q4, q5, q6, q7⟩
  · intro k hk
    by_cases e1 : k = nn
    · subst e1
      unfold kN1
      rw [mq_u1s, kP_ge (Nat.le_refl _)]
      exact ⟨x0, x1, x2, x3, x4, x5, x6⟩
    · have hk' : k < nn := by omega
      obtain ⟨z1, z2, z3⟩ := d1 k hk'
      obtain ⟨q1, q2, q3, q4, q5, q6, q7⟩ := k3 k hk'
      obtain ⟨y1, y2⟩ := hr k hk'
      unfold kN1
      rw [L k hk', hi _ (by omega), y1, y2, o4 25 (by decide) (by decide) k hk', o4 26 (by decide) (by decide) k hk', o4 27 (by decide) (by decide) k hk', o4 28 (by decide) (by decide) k hk', o4 29 (by decide) (by decide) k hk']
      refine ⟨q1, q2, q3, q4, q5, q6, ?_⟩
      rw [kP_lt (by omega)]
      by_cases e2 : k + 1 = nn
      · rw [if_pos e2, e2, mq_u1s]
      · rw [if_neg e2, L _ (by omega), q7, kP_lt (by omega)]
section
variable {B x n na nn : Nat} {A AA AT AN : Nat → Nat} {t l u : Nat → Nat} {i c s : Nat → Nat → Int32} {r : Nat → Nat → Nat} {q g w : Nat → Nat → Int64}
theorem cl_lack (H : kCD B A AA AT AN n na nn s t l i r x) (hr : ∀ k, k < nn → 0 ≤ s 28 k ∧ s 28 k ≤ 5) {h : Nat} (hh : h < n) {kd : Int32} {post : Int32 → mj_M → Prop} : ∀ (m k : Nat) (v : Int32), k + m = nn → (v = 0 ∨ v = 3) → (∃ fe, vb_X7_lackOf_9 post fe (A h) kd (s 0 0) v (kP AN nn k) (kT B t, kL B l, kI B i c s, kW B r u, kI B q g w, x)) = post (kLz v (kAny (kLa s h kd) m k) (kAny (kLr s h kd) m k)) (kT B t, kL B l, kI B i c s, kW B r u, kI B q g w, x)
  | 0, k, v, hk, hv => by
    rw [ex_succ rfl]
    simp only [vb_X7_lackOf_9, kP_ge (show nn ≤ k by omega), ↓reduceIte, ex_ite, exists_and_left, exists_const, exists_and_right, kAny, kLz, Bool.false_eq_true]
    rcases hv with rfl | rfl <;> rfl
  | m + 1, k, v, hk, hv => by
    have hk' : k < nn := by omega
    have I := fun v hv => cl_lack H hr hh (kd := kd) (post := post) m (k + 1) v (by omega) hv
    have V := H.2.2.2.1 k hk'
    rw [ex_succ rfl]
    simp only [vb_X7_lackOf_9, vb_X7_lackOf_37, vb_X7_lackOf_36, vb_X7_lackOf_55, kP_lt hk', mq_tag, mq_len, mq_i, mq_r, mq_l, mq_nx, mq_wi, mq_wr, mq_wl, true_and, and_true, and_false, false_and, and_self, ↓reduceIte, kT_0, kT_1, kT_2, kT_3, kT_4, kT_5, kT_6, kT_7, kT_8, kT_9, kT_10, kT_11, kT_12, kT_13, kT_14, kT_15, kT_16, kT_17, kT_18, kT_19, kT_20, kT_21, kT_22, kT_23, kL_2, kL_3, kL_5, kL_10, kL_11, kL_12, kL_14, kL_15, kL_17, kL_18, kL_19, kL_20, kL_21, kL_22, kL_23, kW_0_0, kW_0_1, kW_0_2, kW_0_3, kW_0_4, kW_0_5, kW_0_6, kW_0_7, kW_1_4, kW_1_5, kW_4_0, kW_4_1, kW_9_0, kW_9_1, kW_9_2, kW_13_0, kW_13_1, kW_16_0, kW_16_1, kW_16_2, kW_16_3, kW_16_4, kW_16_5, kW_1_1, kW_1_2, kW_4_4, kW_8_0, kW_8_1, kW_w1_1, kW_w1_2, kW_w4_4, kW_w8_0, kW_w8_1, kI_0, kI_w0, kI_1, kI_w1, kI_2, kI_w2, kI_3, kI_w3, kI_4, kI_w4, kI_5, kI_w5, kI_6, kI_w6, kI_7, kI_w7, kI_8, kI_w8, kI_9, kI_w9, kI_10, kI_w10, kI_11, kI_w11, kI_12, kI_w12, kI_13, kI_w13, kI_14, kI_w14, kI_15, kI_w15, kI_16, kI_w16, kI_17, kI_w17, kI_18, kI_w18, kI_19, kI_w19, kI_20, kI_w20, kI_21, kI_w21, kI_22, kI_w22, kI_23, kI_w23, H.atNT hk', H.atNI hk', H.atNW hk', H.RH V hh, c_alive H hk' (hr k hk'), ex_ite, exists_and_left, exists_const, exists_and_right, kAny, I v hv, I 3 (.inr rfl), Bool.false_eq_true]
    have e1 : kLa s h kd k = (decide (s 25 k = nI h) && (decide (s 26 k = kd) && kAl (kSt s k))) := rfl
    have e2 : kLr s h kd k = (decide (s 25 k = nI h) && (decide (s 26 k = kd) && decide (s 28 k = 3 ∧ ¬ 365 ≤ s 0 0 - s 29 k))) := rfl
    rw [e1, e2]
    generalize kAny (kLa s h kd) m (k + 1) = a'
    generalize kAny (kLr s h kd) m (k + 1) = r'
    rcases Classical.propComplete (s 25 k = nI h) with c1 | c1 <;> rcases Classical.propComplete (s 26 k = kd) with c2 | c2 <;> rcases Bool.eq_false_or_eq_true (kAl (kSt s k)) with c3 | c3 <;> rcases Classical.propComplete (s 28 k = 3) with c4 | c4 <;> rcases Classical.propComplete (365 ≤ s 0 0 - s 29 k) with c5 | c5 <;> simp only [c1, c2, c3, c4, c5, true_or, or_true, false_or, or_false, not_true_eq_false, not_false_eq_true, true_and, and_true, false_and, and_false, and_self, decide_true, decide_false, ↓reduceIte, Bool.true_and, Bool.false_and, Bool.and_true, Bool.and_false, Bool.not_true, Bool.not_false, Bool.false_eq_true, Bool.true_or, Bool.or_true, Bool.false_or, Bool.or_false, reduceCtorEq, Bool.and_self, Bool.or_self, ne_eq] <;> first | rfl | (rcases hv with rfl | rfl <;> cases a' <;> cases r' <;> rfl)
theorem ml_lack (hnn : s 0 30 = nI nn) (h24 : nn ≤ 24) {h : Nat} {kd : Int32} {post : Int32 → mj_M → Prop} : ∀ (m k : Nat) (v : Int32), k + m = nn → (v = 0 ∨ v = 2 ∨ v = 3) → (∃ fe, vb_X12_lackOf_21 post fe (B + 24) (nI h) kd v (nI k) (kT B t, kL B l, kI B i c s, kW B r u, kI B q g w, x)) = post (kLz v (kAny (kLa s h kd) m k) (kAny (kLr s h kd) m k)) (kT B t, kL B l, kI B i c s, kW B r u, kI B q g w, x)
  | 0, k, v, hk, hv => by
    rw [ex_succ rfl]
    simp only [vb_X12_lackOf_21, mq_tag, mq_len, mq_i, mq_r, mq_l, mq_nx, mq_wi, mq_wr, mq_wl, true_and, and_true, and_false, false_and, and_self, ↓reduceIte, kT_24, kT_25, kT_26, kT_27, kT_28, kT_29, kT_30, kT_31, kT_32, kT_33, kT_34, kT_35, kT_36, kT_37, kT_38, kT_39, kT_40, kT_41, kT_42, kT_43, kT_44, kT_45, kT_46, kT_47, kT_48, kT_49, kT_50, kT_51, kT_52, kT_53, kT_54, kT_55, kT_56, kT_57, kT_58, kT_59, kT_60, kT_61, kL_25, kL_26, kL_27, kL_28, kL_29, kL_30, kL_31, kL_32, kL_33, kL_34, kL_35, kL_36, kL_37, kL_38, kL_39, kL_40, kL_41, kL_42, kL_43, kL_44, kL_45, kL_46, kL_47, kL_48, kL_49, kL_50, kL_51, kL_52, kL_53, kL_54, kL_55, kL_56, kL_57, kL_58, kL_59, kL_60, kL_61, kW_24_1, kW_24_2, kW_24_3, kW_24_4, kW_24_5, kW_24_6, kW_24_7, kW_24_8, kW_24_9, kW_24_10, kW_24_11, kW_24_12, kW_24_14, kW_24_15, kW_24_16, kW_24_17, kW_24_18, kW_24_19, kW_24_21, kW_24_22, kW_24_23, kW_24_25, kW_24_26, kW_24_27, kW_24_28, kW_24_29, kW_24_31, kW_24_32, kW_24_33, kW_24_34, kW_24_36, kW_24_37, kW_24_44, kW_24_49, kW_24_50, kW_24_51, kW_24_52, kI_24, kI_w24, kI_25, kI_w25, kI_26, kI_w26, kI_27, kI_w27, kI_28, kI_w28, kI_29, kI_w29, kI_30, kI_w30, kI_31, kI_w31, kI_32, kI_w32, kI_33, kI_w33, kI_34, kI_w34, kI_35, kI_w35, kI_36, kI_w36, kI_37, kI_w37, kI_38, kI_w38, kI_39, kI_w39, kI_40, kI_w40, kI_41, kI_w41, kI_42, kI_w42, kI_43, kI_w43, kI_44, kI_w44, kI_45, kI_w45, kI_46, kI_w46, kI_47, kI_w47, kI_48, kI_w48, kI_49, kI_w49, kI_50, kI_w50, kI_51, kI_w51, kI_52, kI_w52, kI_53, kI_w53, kI_54, kI_w54, kI_55, kI_w55, kI_56, kI_w56, kI_57, kI_w57, kI_58, kI_w58, kI_59, kI_w59, kI_60, kI_w60, kI_61, kI_w61, hnn, ix_le (show nn < 2147483648 by omega) (show k < 2147483648 by omega), show nn ≤ k by omega, ex_ite, exists_and_left, exists_const, exists_and_right, kAny, kLz, Bool.false_eq_true]
    rcases hv with rfl | rfl | rfl <;> rfl
  | m + 1, k, v, hk, hv => by
    have k1 : k < 2147483648 := by omega
    have k24 : k < 24 := by omega
    have I := fun v hv => ml_lack hnn h24 (h := h) (kd := kd) (post := post) m (k + 1) v (by omega) hv
    rw [ex_succ rfl]
    simp only [vb_X12_lackOf_21, vb_X12_lackOf_88, vb_X12_lackOf_89, mq_tag, mq_len, mq_i, mq_r, mq_l, mq_nx, mq_wi, mq_wr, mq_wl, true_and, and_true, and_false, false_and, and_self, ↓reduceIte, kT_24, kT_25, kT_26, kT_27, kT_28, kT_29, kT_30, kT_31, kT_32, kT_33, kT_34, kT_35, kT_36, kT_37, kT_38, kT_39, kT_40, kT_41, kT_42, kT_43, kT_44, kT_45, kT_46, kT_47, kT_48, kT_49, kT_50, kT_51, kT_52, kT_53, kT_54, kT_55, kT_56, kT_57, kT_58, kT_59, kT_60, kT_61, kL_25, kL_26, kL_27, kL_28, kL_29, kL_30, kL_31, kL_32, kL_33, kL_34, kL_35, kL_36, kL_37, kL_38, kL_39, kL_40, kL_41, kL_42, kL_43, kL_44, kL_45, kL_46, kL_47, kL_48, kL_49, kL_50, kL_51, kL_52, kL_53, kL_54, kL_55, kL_56, kL_57, kL_58, kL_59, kL_60, kL_61, kW_24_1, kW_24_2, kW_24_3, kW_24_4, kW_24_5, kW_24_6, kW_24_7, kW_24_8, kW_24_9, kW_24_10, kW_24_11, kW_24_12, kW_24_14, kW_24_15, kW_24_16, kW_24_17, kW_24_18, kW_24_19, kW_24_21, kW_24_22, kW_24_23, kW_24_25, kW_24_26, kW_24_27, kW_24_28, kW_24_29, kW_24_31, kW_24_32, kW_24_33, kW_24_34, kW_24_36, kW_24_37, kW_24_44, kW_24_49, kW_24_50, kW_24_51, kW_24_52, kI_24, kI_w24, kI_25, kI_w25, kI_26, kI_w26, kI_27, kI_w27, kI_28, kI_w28, kI_29, kI_w29, kI_30, kI_w30, kI_31, kI_w31, kI_32, kI_w32, kI_33, kI_w33, kI_34, kI_w34, kI_35, kI_w35, kI_36, kI_w36, kI_37, kI_w37, kI_38, kI_w38, kI_39, kI_w39, kI_40, kI_w40, kI_41, kI_w41, kI_42, kI_w42, kI_43, kI_w43, kI_44, kI_w44, kI_45, kI_w45, kI_46, kI_w46, kI_47, kI_w47, kI_48, kI_w48, kI_49, kI_w49, kI_50, kI_w50, kI_51, kI_w51, kI_52, kI_w52, kI_53, kI_w53, kI_54, kI_w54, kI_55, kI_w55, kI_56, kI_w56, kI_57, kI_w57, kI_58, kI_w58, kI_59, kI_w59, kI_60, kI_w60, kI_61, kI_w61, hnn, ix_le (show nn < 2147483648 by omega) k1, show ¬ nn ≤ k by omega, ix_in k1, ix_nat k1, k24, m_status k24, nI_1, ex_ite, exists_and_left, exists_const, exists_and_right, kAny, I v hv, I 3 (.inr (.inr rfl)), I 2 (.inr (.inl rfl)), Bool.false_eq_true, kSt3]
    have e1 : kLa s h kd k = (decide (s 25 k = nI h) && (decide (s 26 k = kd) && decide (kSt s k ≤ 2))) := rfl
    have e2 : kLr s h kd k = (decide (s 25 k = nI h) && (decide (s 26 k = kd) && decide (s 28 k = 3 ∧ ¬ 365 ≤ s 0 0 - s 29 k))) := rfl
    have e3 : s 28 k = 3 → kSt s k = 3 := fun z => by rw [kSt3]; exact z
    rw [e1, e2]
    simp only [← i_nle (a := kSt s k) (b := 2)]
    generalize kAny (kLa s h kd) m (k + 1) = a'
    generalize kAny (kLr s h kd) m (k + 1) = r'
    rcases Classical.propComplete (s 25 k = nI h) with c1 | c1 <;> rcases Classical.propComplete (s 26 k = kd) with c2 | c2 <;> rcases Classical.propComplete (kSt s k ≤ 2) with c3 | c3 <;> rcases Classical.propComplete (s 28 k = 3) with c4 | c4 <;> rcases Classical.propComplete (365 ≤ s 0 0 - s 29 k) with c5 | c5 <;> simp only [c1, c2, c3, c4, c5, true_or, or_true, false_or, or_false, not_true_eq_false, not_false_eq_true, true_and, and_true, false_and, and_false, and_self, decide_true, decide_false, ↓reduceIte, Bool.true_and, Bool.false_and, Bool.and_true, Bool.and_false, Bool.not_true, Bool.not_false, Bool.false_eq_true, Bool.true_or, Bool.or_true, Bool.false_or, Bool.or_false, reduceCtorEq, Bool.and_self, Bool.or_self, ne_eq] <;> first | rfl | (rcases hv with rfl | rfl | rfl <;> cases a' <;> cases r' <;> rfl) | (exfalso; have c3' := of_eq_true c3; rw [e3 (of_eq_true c4)] at c3'; exact absurd c3' (by decide))
end
section
variable {B : Nat} {M : mj_M} {K : Int32 → Int32 → mj_M → Prop}
theorem T_notice (h : kJ B M) (a b : Int32) (hK : ∀ v M', kJ B M' → K v v M') : vc_X11_notice B a b M (fun v M1 => mj_tag M1 (B + 24) = 13 ∧ vc_X12_notice (B + 24) a b M1 (fun v' M2 => K v v' M2)) := by
  obtain ⟨A, AA, AT, AN, N, t, l, u, i, c, s, r, q, g, w, x, rfl, hG⟩ := h
  obtain ⟨g1, g2, g3, g4, g5, g6, g7, g8, g9, g10⟩ := id hG
  have h40 := hG.n40
  by_cases hv : 0 ≤ a ∧ a < nI (N 0)
  · obtain ⟨k, hk, rfl⟩ := ix_ofl (by omega) hv.1 hv.2
    have A0 : (A k = 0) = False := g1.H0 hk
    have k1 : k < 2147483648 := by omega
    have k40 : k < 40 := by omega
    by_cases hl : s 1 k < 0
    · simp only [vc_X11_notice, vc_X12_notice, mq_tag, mq_len, mq_i, mq_r, mq_l, mq_nx, mq_wi, mq_wr, mq_wl, true_and, and_true, and_false, false_and, and_self, ↓reduceIte, kT_0, kT_1, kT_2, kT_3, kT_4, kT_5, kT_6, kT_7, kT_8, kT_9, kT_10, kT_11, kT_12, kT_13, kT_14, kT_15, kT_16, kT_17, kT_18, kT_19, kT_20, kT_21, kT_22, kT_23, kL_2, kL_3, kL_5, kL_10, kL_11, kL_12, kL_14, kL_15, kL_17, kL_18, kL_19, kL_20, kL_21, kL_22, kL_23, kW_0_0, kW_0_1, kW_0_2, kW_0_3, kW_0_4, kW_0_5, kW_0_6, kW_0_7, kW_1_4, kW_1_5, kW_4_0, kW_4_1, kW_9_0, kW_9_1, kW_9_2, kW_13_0, kW_13_1, kW_16_0, kW_16_1, kW_16_2, kW_16_3, kW_16_4, kW_16_5, kW_1_1, kW_1_2, kW_4_4, kW_8_0, kW_8_1, kW_w1_1, kW_w1_2, kW_w4_4, kW_w8_0, kW_w8_1, kI_0, kI_w0, kI_1, kI_w1, kI_2, kI_w2, kI_3, kI_w3, kI_4, kI_w4, kI_5, kI_w5, kI_6, kI_w6, kI_7, kI_w7, kI_8, kI_w8, kI_9, kI_w9, kI_10, kI_w10, kI_11, kI_w11, kI_12, kI_w12, kI_13, kI_w13, kI_14, kI_w14, kI_15, kI_w15, kI_16, kI_w16, kI_17, kI_w17, kI_18, kI_w18, kI_19, kI_w19, kI_20, kI_w20, kI_21, kI_w21, kI_22, kI_w22, kI_23, kI_w23, kT_24, kT_25, kT_26, kT_27, kT_28, kT_29, kT_30, kT_31, kT_32, kT_33, kT_34, kT_35, kT_36, kT_37, kT_38, kT_39, kT_40, kT_41, kT_42, kT_43, kT_44, kT_45, kT_46, kT_47, kT_48, kT_49, kT_50, kT_51, kT_52, kT_53, kT_54, kT_55, kT_56, kT_57, kT_58, kT_59, kT_60, kT_61, kL_25, kL_26, kL_27, kL_28, kL_29, kL_30, kL_31, kL_32, kL_33, kL_34, kL_35, kL_36, kL_37, kL_38, kL_39, kL_40, kL_41, kL_42, kL_43, kL_44, kL_45, kL_46, kL_47, kL_48, kL_49, kL_50, kL_51, kL_52, kL_53, kL_54, kL_55, kL_56, kL_57, kL_58, kL_59, kL_60, kL_61, kW_24_1, kW_24_2, kW_24_3, kW_24_4, kW_24_5, kW_24_6, kW_24_7, kW_24_8, kW_24_9, kW_24_10, kW_24_11, kW_24_12, kW_24_14, kW_24_15, kW_24_16, kW_24_17, kW_24_18, kW_24_19, kW_24_21, kW_24_22, kW_24_23, kW_24_25, kW_24_26, kW_24_27, kW_24_28, kW_24_29, kW_24_31, kW_24_32, kW_24_33, kW_24_34, kW_24_36, kW_24_37, kW_24_44, kW_24_49, kW_24_50, kW_24_51, kW_24_52, kI_24, kI_w24, kI_25, kI_w25, kI_26, kI_w26, kI_27, kI_w27, kI_28, kI_w28, kI_29, kI_w29, kI_30, kI_w30, kI_31, kI_w31, kI_32, kI_w32, kI_33, kI_w33, kI_34, kI_w34, kI_35, kI_w35, kI_36, kI_w36, kI_37, kI_w37, kI_38, kI_w38, kI_39, kI_w39, kI_40, kI_w40, kI_41, kI_w41, kI_42, kI_w42, kI_43, kI_w43, kI_44, kI_w44, kI_45, kI_w45, kI_46, kI_w46, kI_47, kI_w47, kI_48, kI_w48, kI_49, kI_w49, kI_50, kI_w50, kI_51, kI_w51, kI_52, kI_w52, kI_53, kI_w53, kI_54, kI_w54, kI_55, kI_w55, kI_56, kI_w56, kI_57, kI_w57, kI_58, kI_w58, kI_59, kI_w59, kI_60, kI_w60, kI_61, kI_w61, c_findL g1 g2 hk, hl, m_lease hG.hn h40 hk, true_or, or_true, false_or, or_false, not_true_eq_false, not_false_eq_true, true_and, and_true, false_and, and_false, and_self, decide_true, decide_false, ↓reduceIte, Bool.true_and, Bool.false_and, Bool.and_true, Bool.and_false, Bool.not_true, Bool.not_false, Bool.false_eq_true, Bool.true_or, Bool.or_true, Bool.false_or, Bool.or_false, reduceCtorEq, Bool.and_self, Bool.or_self, ne_eq]
      exact hK _ _ (kJ.mk hG)
    · by_cases hb : 0 ≤ b ∧ b ≤ 1
      · have hb2 : b = 0 ∨ b = 1 := by
          obtain ⟨y1, y2⟩ := hb
          have e0 : (0 : Int32).toInt = 0 := by decide
          have e1 : (1 : Int32).toInt = 1 := by decide
          rw [i_le] at y1 y2
          rcases (by omega : b.toInt = 0 ∨ b.toInt = 1) with z | z
          · exact .inl (i_eq.mpr (by rw [z, e0]))
          · exact .inr (i_eq.mpr (by rw [z, e1]))
        have C : ∀ post, vc_X11_notice B (nI k) b (kT B t, kL B l, kI B i c s, kW B r u, kI B q g w, x) post = vb_X11_notice_27 post B b (A k) (kT B t, kL B l, kI B i c s, kW B r u, kI B q g w, x) := fun post => by
          rcases hb2 with rfl | rfl <;> simp only [vc_X11_notice, mq_tag, mq_len, mq_i, mq_r, mq_l, mq_nx, mq_wi, mq_wr, mq_wl, true_and, and_true, and_false, false_and, and_self, ↓reduceIte, kT_0, kT_1, kT_2, kT_3, kT_4, kT_5, kT_6, kT_7, kT_8, kT_9, kT_10, kT_11, kT_12, kT_13, kT_14, kT_15, kT_16, kT_17, kT_18, kT_19, kT_20, kT_21, kT_22, kT_23, kL_2, kL_3, kL_5, kL_10, kL_11, kL_12, kL_14, kL_15, kL_17, kL_18, kL_19, kL_20, kL_21, kL_22, kL_23, kW_0_0, kW_0_1, kW_0_2, kW_0_3, kW_0_4, kW_0_5, kW_0_6, kW_0_7, kW_1_4, kW_1_5, kW_4_0, kW_4_1, kW_9_0, kW_9_1, kW_9_2, kW_13_0, kW_13_1, kW_16_0, kW_16_1, kW_16_2, kW_16_3, kW_16_4, kW_16_5, kW_1_1, kW_1_2, kW_4_4, kW_8_0, kW_8_1, kW_w1_1, kW_w1_2, kW_w4_4, kW_w8_0, kW_w8_1, kI_0, kI_w0, kI_1, kI_w1, kI_2, kI_w2, kI_3, kI_w3, kI_4, kI_w4, kI_5, kI_w5, kI_6, kI_w6, kI_7, kI_w7, kI_8, kI_w8, kI_9, kI_w9, kI_10, kI_w10, kI_11, kI_w11, kI_12, kI_w12, kI_13, kI_w13, kI_14, kI_w14, kI_15, kI_w15, kI_16, kI_w16, kI_17, kI_w17, kI_18, kI_w18, kI_19, kI_w19, kI_20, kI_w20, kI_21, kI_w21, kI_22, kI_w22, kI_23, kI_w23, c_findL g1 g2 hk, hl, A0, show ((1 : Int32) = 0) = False from eq_false (by decide)]
        rcases Bool.eq_false_or_eq_true (kon s k (s 0 0)) with hon | hon
        · by_cases hf : nI (N 2) = 24
          · rw [C]
            simp only [vb_X11_notice_27, vc_X12_notice, mq_tag, mq_len, mq_i, mq_r, mq_l, mq_nx, mq_wi, mq_wr, mq_wl, true_and, and_true, and_false, false_and, and_self, ↓reduceIte, kT_0, kT_1, kT_2, kT_3, kT_4, kT_5, kT_6, kT_7, kT_8, kT_9, kT_10, kT_11, kT_12, kT_13, kT_14, kT_15, kT_16, kT_17, kT_18, kT_19, kT_20, kT_21, kT_22, kT_23, kL_2, kL_3, kL_5, kL_10, kL_11, kL_12, kL_14, kL_15, kL_17, kL_18, kL_19, kL_20, kL_21, kL_22, kL_23, kW_0_0, kW_0_1, kW_0_2, kW_0_3, kW_0_4, kW_0_5, kW_0_6, kW_0_7, kW_1_4, kW_1_5, kW_4_0, kW_4_1, kW_9_0, kW_9_1, kW_9_2, kW_13_0, kW_13_1, kW_16_0, kW_16_1, kW_16_2, kW_16_3, kW_16_4, kW_16_5, kW_1_1, kW_1_2, kW_4_4, kW_8_0, kW_8_1, kW_w1_1, kW_w1_2, kW_w4_4, kW_w8_0, kW_w8_1, kI_0, kI_w0, kI_1, kI_w1, kI_2, kI_w2, kI_3, kI_w3, kI_4, kI_w4, kI_5, kI_w5, kI_6, kI_w6, kI_7, kI_w7, kI_8, kI_w8, kI_9, kI_w9, kI_10, kI_w10, kI_11, kI_w11, kI_12, kI_w12, kI_13, kI_w13, kI_14, kI_w14, kI_15, kI_w15, kI_16, kI_w16, kI_17, kI_w17, kI_18, kI_w18, kI_19, kI_w19, kI_20, kI_w20, kI_21, kI_w21, kI_22, kI_w22, kI_23, kI_w23, kT_24, kT_25, kT_26, kT_27, kT_28, kT_29, kT_30, kT_31, kT_32, kT_33, kT_34, kT_35, kT_36, kT_37, kT_38, kT_39, kT_40, kT_41, kT_42, kT_43, kT_44, kT_45, kT_46, kT_47, kT_48, kT_49, kT_50, kT_51, kT_52, kT_53, kT_54, kT_55, kT_56, kT_57, kT_58, kT_59, kT_60, kT_61, kL_25, kL_26, kL_27, kL_28, kL_29, kL_30, kL_31, kL_32, kL_33, kL_34, kL_35, kL_36, kL_37, kL_38, kL_39, kL_40, kL_41, kL_42, kL_43, kL_44, kL_45, kL_46, kL_47, kL_48, kL_49, kL_50, kL_51, kL_52, kL_53, kL_54, kL_55, kL_56, kL_57, kL_58, kL_59, kL_60, kL_61, kW_24_1, kW_24_2, kW_24_3, kW_24_4, kW_24_5, kW_24_6, kW_24_7, kW_24_8, kW_24_9, kW_24_10, kW_24_11, kW_24_12, kW_24_14, kW_24_15, kW_24_16, kW_24_17, kW_24_18, kW_24_19, kW_24_21, kW_24_22, kW_24_23, kW_24_25, kW_24_26, kW_24_27, kW_24_28, kW_24_29, kW_24_31, kW_24_32, kW_24_33, kW_24_34, kW_24_36, kW_24_37, kW_24_44, kW_24_49, kW_24_50, kW_24_51, kW_24_52, kI_24, kI_w24, kI_25, kI_w25, kI_26, kI_w26, kI_27, kI_w27, kI_28, kI_w28, kI_29, kI_w29, kI_30, kI_w30, kI_31, kI_w31, kI_32, kI_w32, kI_33, kI_w33, kI_34, kI_w34, kI_35, kI_w35, kI_36, kI_w36, kI_37, kI_w37, kI_38, kI_w38, kI_39, kI_w39, kI_40, kI_w40, kI_41, kI_w41, kI_42, kI_w42, kI_43, kI_w43, kI_44, kI_w44, kI_45, kI_w45, kI_46, kI_w46, kI_47, kI_w47, kI_48, kI_w48, kI_49, kI_w49, kI_50, kI_w50, kI_51, kI_w51, kI_52, kI_w52, kI_53, kI_w53, kI_54, kI_w54, kI_55, kI_w55, kI_56, kI_w56, kI_57, kI_w57, kI_58, kI_w58, kI_59, kI_w59, kI_60, kI_w60, kI_61, kI_w61, c_on g1 hk, hG.hd, hon, g4.2.2.2.2.2.2.1, hf, hl, m_lease hG.hn h40 hk, m_in01, hb, m_isOn k40 (hG.hw k hk), hG.hnn, true_or, or_true, false_or, or_false, not_true_eq_false, not_false_eq_true, true_and, and_true, false_and, and_false, and_self, decide_true, decide_false, ↓reduceIte, Bool.true_and, Bool.false_and, Bool.and_true, Bool.and_false, Bool.not_true, Bool.not_false, Bool.false_eq_true, Bool.true_or, Bool.or_true, Bool.false_or, Bool.or_false, reduceCtorEq, Bool.and_self, Bool.or_self, ne_eq]
            exact hK _ _ (kJ.mk hG)
          · have nn24 := g1.nn24
            have hlt : N 2 < 24 := by
              rw [show (24 : Int32) = nI 24 by decide, ix_eq (by omega) (by decide)] at hf; omega
            rw [C]
            simp only [vb_X11_notice_27, vb_X11_notice_92, mq_tag, mq_len, mq_i, mq_r, mq_l, mq_nx, mq_wi, mq_wr, mq_wl, true_and, and_true, and_false, false_and, and_self, ↓reduceIte, kT_0, kT_1, kT_2, kT_3, kT_4, kT_5, kT_6, kT_7, kT_8, kT_9, kT_10, kT_11, kT_12, kT_13, kT_14, kT_15, kT_16, kT_17, kT_18, kT_19, kT_20, kT_21, kT_22, kT_23, kL_2, kL_3, kL_5, kL_10, kL_11, kL_12, kL_14, kL_15, kL_17, kL_18, kL_19, kL_20, kL_21, kL_22, kL_23, kW_0_0, kW_0_1, kW_0_2, kW_0_3, kW_0_4, kW_0_5, kW_0_6, kW_0_7, kW_1_4, kW_1_5, kW_4_0, kW_4_1, kW_9_0, kW_9_1, kW_9_2, kW_13_0, kW_13_1, kW_16_0, kW_16_1, kW_16_2, kW_16_3, kW_16_4, kW_16_5, kW_1_1, kW_1_2, kW_4_4, kW_8_0, kW_8_1, kW_w1_1, kW_w1_2, kW_w4_4, kW_w8_0, kW_w8_1, kI_0, kI_w0, kI_1, kI_w1, kI_2, kI_w2, kI_3, kI_w3, kI_4, kI_w4, kI_5, kI_w5, kI_6, kI_w6, kI_7, kI_w7, kI_8, kI_w8, kI_9, kI_w9, kI_10, kI_w10, kI_11, kI_w11, kI_12, kI_w12, kI_13, kI_w13, kI_14, kI_w14, kI_15, kI_w15, kI_16, kI_w16, kI_17, kI_w17, kI_18, kI_w18, kI_19, kI_w19, kI_20, kI_w20, kI_21, kI_w21, kI_22, kI_w22, kI_23, kI_w23, c_on g1 hk, hG.hd, hon, g4.2.2.2.2.2.2.1, hf]
            refine c_hasRight hG hk g8.1 fun c' g' h1 => ?_
            have hG' := hG.rf h1 (rF.refl s)
            have g1' := hG'.1
            have R : kHr s (N 1) k b (s 0 0) = decide (kRi s (N 1) k b (s 0 0) = 1) := by rw [kHr_kRi, hon, Bool.true_and]
            have hr28 : ∀ k, k < N 2 → 0 ≤ s 28 k ∧ s 28 k ≤ 5 := fun k hk => (g10.1 k hk).2.2.2.1
            have u3 : u 3 = kP AN (N 2) 0 := g2.2.2.2.1
            have u4 : u 4 = if N 2 = 0 then 0 else AN (N 2 - 1) := g2.2.2.2.2
            rcases Classical.propComplete (kRi s (N 1) k b (s 0 0) = 1) with z | z
            · simp only [R, z, decide_true, ↓reduceIte, vc_X7_lackOf, mq_tag, mq_len, mq_i, mq_r, mq_l, mq_nx, mq_wi, mq_wr, mq_wl, true_and, and_true, and_false, false_and, and_self, ↓reduceIte, kT_0, kT_1, kT_2, kT_3, kT_4, kT_5, kT_6, kT_7, kT_8, kT_9, kT_10, kT_11, kT_12, kT_13, kT_14, kT_15, kT_16, kT_17, kT_18, kT_19, kT_20, kT_21, kT_22, kT_23, kL_2, kL_3, kL_5, kL_10, kL_11, kL_12, kL_14, kL_15, kL_17, kL_18, kL_19, kL_20, kL_21, kL_22, kL_23, kW_0_0, kW_0_1, kW_0_2, kW_0_3, kW_0_4, kW_0_5, kW_0_6, kW_0_7, kW_1_4, kW_1_5, kW_4_0, kW_4_1, kW_9_0, kW_9_1, kW_9_2, kW_13_0, kW_13_1, kW_16_0, kW_16_1, kW_16_2, kW_16_3, kW_16_4, kW_16_5, kW_1_1, kW_1_2, kW_4_4, kW_8_0, kW_8_1, kW_w1_1, kW_w1_2, kW_w4_4, kW_w8_0, kW_w8_1, kI_0, kI_w0, kI_1, kI_w1, kI_2, kI_w2, kI_3, kI_w3, kI_4, kI_w4, kI_5, kI_w5, kI_6, kI_w6, kI_7, kI_w7, kI_8, kI_w8, kI_9, kI_w9, kI_10, kI_w10, kI_11, kI_w11, kI_12, kI_w12, kI_13, kI_w13, kI_14, kI_w14, kI_15, kI_w15, kI_16, kI_w16, kI_17, kI_w17, kI_18, kI_w18, kI_19, kI_w19, kI_20, kI_w20, kI_21, kI_w21, kI_22, kI_w22, kI_23, kI_w23, hG'.hd, u3, cl_lack g1' hr28 hk (N 2) 0 0 (by omega) (.inl rfl)]
              generalize hz : kLz 0 (kAny (kLa s k b) (N 2) 0) (kAny (kLr s k b) (N 2) 0) = lz
              have lz3 : lz = 0 ∨ lz = 2 ∨ lz = 3 := by
                rw [← hz]
                cases kAny (kLa s k b) (N 2) 0 <;> cases kAny (kLr s k b) (N 2) 0
                · exact .inl rfl
                · exact .inr (.inr rfl)
                · exact .inr (.inl rfl)
                · exact .inr (.inl rfl)
              have D : ∀ {t2 l2 u2 : Nat → Nat} {i2 c2 : Nat → Nat → Int32} {r2 : Nat → Nat → Nat} {q2 g2 : Nat → Nat → Int64} {x2 : Nat} (post : Int32 → mj_M → Prop), (∀ s', rF s s' → (if lz ≤ 0 then post (nI (N 2)) (kT B t2, kL B l2, kI B i2 c2 (mj_u2 (mj_u2 (mj_u2 (mj_u2 (mj_u2 s' 25 (N 2) (nI k)) 26 (N 2) b) 27 (N 2) (s' 0 0)) 28 (N 2) 0) 0 30 (nI (N 2 + 1))), kW B r2 u2, kI B q2 g2 w, x2) else post (-200 - lz) (kT B t2, kL B l2, kI B i2 c2 s', kW B r2 u2, kI B q2 g2 w, x2))) →
                  vc_X12_notice (B + 24) (nI k) b (kT B t2, kL B l2, kI B i2 c2 s, kW B r2 u2, kI B q2 g2 w, x2) post := by
                intro t2 l2 u2 i2 c2 r2 q2 g2 x2 post hp
                simp only [vc_X12_notice, vc_X12_lackOf, mq_tag, mq_len, mq_i, mq_r, mq_l, mq_nx, mq_wi, mq_wr, mq_wl, true_and, and_true, and_false, false_and, and_self, ↓reduceIte, kT_24, kT_25, kT_26, kT_27, kT_28, kT_29, kT_30, kT_31, kT_32, kT_33, kT_34, kT_35, kT_36, kT_37, kT_38, kT_39, kT_40, kT_41, kT_42, kT_43, kT_44, kT_45, kT_46, kT_47, kT_48, kT_49, kT_50, kT_51, kT_52, kT_53, kT_54, kT_55, kT_56, kT_57, kT_58, kT_59, kT_60, kT_61, kL_25, kL_26, kL_27, kL_28, kL_29, kL_30, kL_31, kL_32, kL_33, kL_34, kL_35, kL_36, kL_37, kL_38, kL_39, kL_40, kL_41, kL_42, kL_43, kL_44, kL_45, kL_46, kL_47, kL_48, kL_49, kL_50, kL_51, kL_52, kL_53, kL_54, kL_55, kL_56, kL_57, kL_58, kL_59, kL_60, kL_61, kW_24_1, kW_24_2, kW_24_3, kW_24_4, kW_24_5, kW_24_6, kW_24_7, kW_24_8, kW_24_9, kW_24_10, kW_24_11, kW_24_12, kW_24_14, kW_24_15, kW_24_16, kW_24_17, kW_24_18, kW_24_19, kW_24_21, kW_24_22, kW_24_23, kW_24_25, kW_24_26, kW_24_27, kW_24_28, kW_24_29, kW_24_31, kW_24_32, kW_24_33, kW_24_34, kW_24_36, kW_24_37, kW_24_44, kW_24_49, kW_24_50, kW_24_51, kW_24_52, kI_24, kI_w24, kI_25, kI_w25, kI_26, kI_w26, kI_27, kI_w27, kI_28, kI_w28, kI_29, kI_w29, kI_30, kI_w30, kI_31, kI_w31, kI_32, kI_w32, kI_33, kI_w33, kI_34, kI_w34, kI_35, kI_w35, kI_36, kI_w36, kI_37, kI_w37, kI_38, kI_w38, kI_39, kI_w39, kI_40, kI_w40, kI_41, kI_w41, kI_42, kI_w42, kI_43, kI_w43, kI_44, kI_w44, kI_45, kI_w45, kI_46, kI_w46, kI_47, kI_w47, kI_48, kI_w48, kI_49, kI_w49, kI_50, kI_w50, kI_51, kI_w51, kI_52, kI_w52, kI_53, kI_w53, kI_54, kI_w54, kI_55, kI_w55, kI_56, kI_w56, kI_57, kI_w57, kI_58, kI_w58, kI_59, kI_w59, kI_60, kI_w60, kI_61, kI_w61, m_lease hG.hn h40 hk, hl, not_false_eq_true, decide_true, m_in01, hb, and_self, m_isOn k40 (hG.hw k hk), hon, hG.hnn, hf]
                refine m_right hG (rF.refl s) hk g8.1 fun s' h3 => ?_
                have hG2 := hG.rf (fun _ _ => rfl) h3
                have nn' : s' 0 30 = nI (N 2) := hG2.hnn
                have y0 : s' 0 0 = s 0 0 := h3.2 0 (by decide)
                have x25 : s' 25 = s 25 := h3.1 25 (by decide) (by decide) (by decide) (by decide)
                have x26 : s' 26 = s 26 := h3.1 26 (by decide) (by decide) (by decide) (by decide)
                have x27 : s' 27 = s 27 := h3.1 27 (by decide) (by decide) (by decide) (by decide)
                have x28 : s' 28 = s 28 := h3.1 28 (by decide) (by decide) (by decide) (by decide)
                have x29 : s' 29 = s 29 := h3.1 29 (by decide) (by decide) (by decide) (by decide)
                have ya : kLa s' k b = kLa s k b := by funext j; unfold kLa kSt; rw [x25, x26, x27, x28, y0]
                have yr : kLr s' k b = kLr s k b := by funext j; unfold kLr; rw [x25, x26, x28, x29, y0]
                have L := fun post => ml_lack (B := B) (t := t2) (l := l2) (u := u2) (i := i2) (c := c2) (s := s') (r := r2) (q := q2) (g := g2) (w := w) (x := x2) nn' nn24 (h := k) (kd := b) (post := post) (N 2) 0 0 (by omega) (.inl rfl)
                simp only [nI_0, ya, yr, hz] at L
                simp only [z, ↓reduceIte, L]
                have P := hp s' h3
                have nk : N 2 < 2147483648 := by omega
                by_cases y : lz ≤ 0
                · simp only [y, ↓reduceIte] at P ⊢
                  simp only [mq_tag, mq_len, mq_i, mq_r, mq_l, mq_nx, mq_wi, mq_wr, mq_wl, true_and, and_true, and_false, false_and, and_self, ↓reduceIte, kT_24, kT_25, kT_26, kT_27, kT_28, kT_29, kT_30, kT_31, kT_32, kT_33, kT_34, kT_35, kT_36, kT_37, kT_38, kT_39, kT_40, kT_41, kT_42, kT_43, kT_44, kT_45, kT_46, kT_47, kT_48, kT_49, kT_50, kT_51, kT_52, kT_53, kT_54, kT_55, kT_56, kT_57, kT_58, kT_59, kT_60, kT_61, kL_25, kL_26, kL_27, kL_28, kL_29, kL_30, kL_31, kL_32, kL_33, kL_34, kL_35, kL_36, kL_37, kL_38, kL_39, kL_40, kL_41, kL_42, kL_43, kL_44, kL_45, kL_46, kL_47, kL_48, kL_49, kL_50, kL_51, kL_52, kL_53, kL_54, kL_55, kL_56, kL_57, kL_58, kL_59, kL_60, kL_61, kW_24_1, kW_24_2, kW_24_3, kW_24_4, kW_24_5, kW_24_6, kW_24_7, kW_24_8, kW_24_9, kW_24_10, kW_24_11, kW_24_12, kW_24_14, kW_24_15, kW_24_16, kW_24_17, kW_24_18, kW_24_19, kW_24_21, kW_24_22, kW_24_23, kW_24_25, kW_24_26, kW_24_27, kW_24_28, kW_24_29, kW_24_31, kW_24_32, kW_24_33, kW_24_34, kW_24_36, kW_24_37, kW_24_44, kW_24_49, kW_24_50, kW_24_51, kW_24_52, kI_24, kI_w24, kI_25, kI_w25, kI_26, kI_w26, kI_27, kI_w27, kI_28, kI_w28, kI_29, kI_w29, kI_30, kI_w30, kI_31, kI_w31, kI_32, kI_w32, kI_33, kI_w33, kI_34, kI_w34, kI_35, kI_w35, kI_36, kI_w36, kI_37, kI_w37, kI_38, kI_w38, kI_39, kI_w39, kI_40, kI_w40, kI_41, kI_w41, kI_42, kI_w42, kI_43, kI_w43, kI_44, kI_w44, kI_45, kI_w45, kI_46, kI_w46, kI_47, kI_w47, kI_48, kI_w48, kI_49, kI_w49, kI_50, kI_w50, kI_51, kI_w51, kI_52, kI_w52, kI_53, kI_w53, kI_54, kI_w54, kI_55, kI_w55, kI_56, kI_w56, kI_57, kI_w57, kI_58, kI_w58, kI_59, kI_w59, kI_60, kI_w60, kI_61, kI_w61, nn', ix_in nk, ix_nat nk, hlt, mq_u2n, ne_eq, Nat.reduceEqDiff, not_false_eq_true, nI_1, mq_u2s, ix_sub1 (show 0 < N 2 + 1 by omega), Nat.add_sub_cancel]
                  exact P
                · simp only [y, ↓reduceIte] at P ⊢
                  exact P
              by_cases y : lz = 0
              · have y' : lz ≤ 0 := by rw [y]; decide
                have xx := g1.x62
                have tx : kT B (mj_u1 t x 7) x = 7 := (kT_o xx).trans mq_u1s
                have x0 : (x = 0) = False := eq_false (by omega)
                have tl : N 2 ≠ 0 → kT B (mj_u1 t x 7) (AN (N 2 - 1)) = 7 := fun h0 => by
                  have := g1.aN (show N 2 - 1 < N 2 by omega)
                  rw [kT_o this.1, mq_u1n (by omega)]; exact this.2.2
                simp only [y, ↓reduceIte]
                have fin : ∀ (q2 : Nat → Nat → Int64) (r' : Nat → Nat → Nat) (u' : Nat → Nat) (s' : Nat → Nat → Int32), rF s s' →
                    (∀ k', k' < N 2 → r' (AN k') 1 = r (AN k') 1 ∧ r' (AN k') 6 = if k' + 1 = N 2 then x else r (AN k') 6) → (∀ a, t a ≠ 7 → a ≠ x → r' a = r a) → r' x 1 = A k → r' x 6 = 0 → kU A AA (mj_u1 AN (N 2) x) (N 0) (N 1) (N 2 + 1) u' →
                    kJ B (kT B (mj_u1 t x (6 + 1)), kL B l, kI B (mj_u2 (mj_u2 (mj_u2 (mj_u2 (mj_u1 i x fun x => 0) x 4 0) x 0 (c' 8 2)) x 2 b) x 3 (s 0 0)) (mj_u2 c' 8 2 (c' 8 2 + 1)) (mj_u2 (mj_u2 (mj_u2 (mj_u2 (mj_u2 s' 25 (N 2) (nI k)) 26 (N 2) b) 27 (N 2) (s' 0 0)) 28 (N 2) 0) 0 30 (nI (N 2 + 1))), kW B r' u', kI B q2 g' w, x + 1) := by
                  intro q2 r' u' s' h3 f1 f2 f3 f4 f5
                  have e82 : c' 8 2 = nI (N 2) := by rw [h1 8 (by decide)]; exact g4.2.2.2.2.2.2.1
                  have y0 : s' 0 0 = s 0 0 := h3.2 0 (by decide)
                  have hG2 := hG'.rf (fun _ _ => rfl) h3
                  obtain ⟨f_1, f_2, k3, k4, k5, k6, k7, k8, k9, k10⟩ := hG2
                  generalize hE : mj_u2 (mj_u2 (mj_u2 (mj_u2 (mj_u2 s' 25 (N 2) (nI k)) 26 (N 2) b) 27 (N 2) (s' 0 0)) 28 (N 2) 0) 0 30 (nI (N 2 + 1)) = e
                  have E : ∀ j, j ≠ 0 → j ≠ 25 → j ≠ 26 → j ≠ 27 → j ≠ 28 → e j = s' j := fun j j0 j1 j2 j3 j4 => by
                    rw [← hE, mj_u2_ne _ j0, mj_u2_ne _ j4, mj_u2_ne _ j3, mj_u2_ne _ j2, mj_u2_ne _ j1]
                  have E0 : ∀ y, y ≠ 30 → e 0 y = s' 0 y := fun y y30 => by
                    rw [← hE, mq_u2k y30, mq_u2n (by decide), mq_u2n (by decide), mq_u2n (by decide), mq_u2n (by decide)]
                  have E30 : e 0 30 = nI (N 2 + 1) := by rw [← hE, mq_u2s]
                  have E25 : e 25 (N 2) = nI k := by rw [← hE]; simp [mq_u2]
                  have E26 : e 26 (N 2) = b := by rw [← hE]; simp [mq_u2]
                  have E27 : e 27 (N 2) = s 0 0 := by rw [← hE]; simp [mq_u2, y0]
                  have E28 : e 28 (N 2) = 0 := by rw [← hE]; simp [mq_u2]
                  have E29 : e 29 (N 2) = 0 := by rw [E 29 (by decide) (by decide) (by decide) (by decide) (by decide)]; exact k10.2 _ (Nat.le_refl _)
                  have En : ∀ j, 25 ≤ j → j ≤ 29 → ∀ y, y ≠ N 2 → e j y = s' j y := fun j j1 j2 y hy => by
                    rw [← hE, mq_u2n (by omega), mq_u2k hy, mq_u2k hy, mq_u2k hy, mq_u2k hy]
                  refine kJ.mk (A := A) (AA := AA) (AT := AT) (AN := mj_u1 AN (N 2) x) (N := fun j => if j = 2 then N 2 + 1 else N j) ⟨?c1, ?c2, k3.to ?_ ?_ ?_ ?_ ?_ ?_ ?_ ?_, ?c4, k5.to ?_ ?_ ?_ ?_ ?_ ?_ ?_ ?_ ?_ ?_, k6.to ?_ ?_ ?_ ?_ ?_ ?_, k7.to ?_ ?_ ?_ ?_ ?_ ?_ ?_ ?_ ?_ ?_ ?_ ?_ ?_, k8.to ?_ ?_, k9.to ?_ ?_, ?c10⟩
                  case c1 =>
                    refine f_1.newN hlt ?_ f1 f2 ?_ ?_ ?_ ?_ ?_ ?_ f4 ?_ ?_ ?_ ?_
                    · intro a ha; funext y; simp [mq_u2, mq_u1, ha]
                    · simp [mq_u2, mq_u1, e82]
                    · rw [f3, E25, kR_I k1]
                    · rw [E26]; simp [mq_u2, mq_u1]
                    · rw [E27]; simp [mq_u2, mq_u1]
                    · rw [E28]; simp [mq_u2, mq_u1]
                    · rw [E29]; simp [mq_u2, mq_u1]
                    · rw [E25]; exact .inr ⟨k, hk, rfl⟩
                    · intro j j1 j2; exact E j (by omega) (by omega) (by omega) (by omega) (by omega)
                    · intro j j1 j2; exact E j (by omega) (by omega) (by omega) (by omega) (by omega)
                    · intro j j1 j2 y hy; exact En j j1 j2 y (by omega)
                  case c2 => exact f5
                  case c4 =>
                    obtain ⟨z1, z2, z3, z4, z5, z6, z7, z8⟩ := k4
                    refine ⟨z1, ?_, ?_, ?_, ?_, ?_, ?_, ?_⟩
                    · simpa [mq_u2] using z2
                    · rw [E 17 (by decide) (by decide) (by decide) (by decide) (by decide)]; exact z3
                    · rw [E 16 (by decide) (by decide) (by decide) (by decide) (by decide)]; simpa [mq_u2] using z4
                    · simpa [mq_u2] using z5
                    · rw [E0 _ (by decide)]; exact z6
                    · simp [mq_u2, e82, nI_1]
                    · rw [E30]; rfl
                  case c10 =>
                    refine ⟨fun k' hk' => ?_, fun k' hk' => ?_⟩
                    · by_cases z : k' = N 2
                      · subst z
                        rw [E25, E26, E27, E28, E29, E 1 (by decide) (by decide) (by decide) (by decide) (by decide), h3.1 1 (by decide) (by decide) (by decide) (by decide)]
                        exact ⟨⟨k, hk, rfl, Int32.not_lt.mp hl⟩, hb2, g8.1, by decide, by decide⟩
                      · have hlt' : k' < N 2 := by simp only [↓reduceIte] at hk'; omega
                        rw [En 25 (by decide) (by decide) _ z, En 26 (by decide) (by decide) _ z, En 27 (by decide) (by decide) _ z, En 28 (by decide) (by decide) _ z, En 29 (by decide) (by decide) _ z, E 1 (by decide) (by decide) (by decide) (by decide) (by decide)]
                        exact k10.1 k' hlt'
                    · have hlt' : N 2 + 1 ≤ k' := by simpa using hk'
                      rw [E 29 (by decide) (by decide) (by decide) (by decide) (by decide)]
                      exact k10.2 k' (by omega)
                  all_goals first
                    | (exact E0 _ (by decide)) | (exact E _ (by decide) (by decide) (by decide) (by decide) (by decide)) | (simp [mq_u2]; done) | (funext _; simp [mq_u2]; done)
                    | (intro j j1 j2; exact E j (by omega) (by omega) (by omega) (by omega) (by omega))
                    | (intro a' ha'; rw [E 17 (by decide) (by decide) (by decide) (by decide) (by decide), E 18 (by decide) (by decide) (by decide) (by decide) (by decide), E 19 (by decide) (by decide) (by decide) (by decide) (by decide)]; exact ⟨rfl, rfl, rfl⟩)
                    | (intro k' hk'; rw [E 16 (by decide) (by decide) (by decide) (by decide) (by decide)])
                by_cases n0 : N 2 = 0
                · have u40 : u 4 = 0 := by rw [u4, if_pos n0]
                  simp only [vc_X7_add, vb_X7_add_41, vc_X6_init, mq_tag, mq_len, mq_i, mq_r, mq_l, mq_nx, mq_wi, mq_wr, mq_wl, true_and, and_true, and_false, false_and, and_self, ↓reduceIte, kT_0, kT_1, kT_2, kT_3, kT_4, kT_5, kT_6, kT_7, kT_8, kT_9, kT_10, kT_11, kT_12, kT_13, kT_14, kT_15, kT_16, kT_17, kT_18, kT_19, kT_20, kT_21, kT_22, kT_23, kL_2, kL_3, kL_5, kL_10, kL_11, kL_12, kL_14, kL_15, kL_17, kL_18, kL_19, kL_20, kL_21, kL_22, kL_23, kW_0_0, kW_0_1, kW_0_2, kW_0_3, kW_0_4, kW_0_5, kW_0_6, kW_0_7, kW_1_4, kW_1_5, kW_4_0, kW_4_1, kW_9_0, kW_9_1, kW_9_2, kW_13_0, kW_13_1, kW_16_0, kW_16_1, kW_16_2, kW_16_3, kW_16_4, kW_16_5, kW_1_1, kW_1_2, kW_4_4, kW_8_0, kW_8_1, kW_w1_1, kW_w1_2, kW_w4_4, kW_w8_0, kW_w8_1, kI_0, kI_w0, kI_1, kI_w1, kI_2, kI_w2, kI_3, kI_w3, kI_4, kI_w4, kI_5, kI_w5, kI_6, kI_w6, kI_7, kI_w7, kI_8, kI_w8, kI_9, kI_w9, kI_10, kI_w10, kI_11, kI_w11, kI_12, kI_w12, kI_13, kI_w13, kI_14, kI_w14, kI_15, kI_w15, kI_16, kI_w16, kI_17, kI_w17, kI_18, kI_w18, kI_19, kI_w19, kI_20, kI_w20, kI_21, kI_w21, kI_22, kI_w22, kI_23, kI_w23, mq_new, forall_eq, kT_n xx, kI_n xx, kW_n xx, kI_wo xx, kW_wo xx, tx, x0, not_false_eq_true, u40]
                  have e82 : c' 8 2 = nI (N 2) := by rw [h1 8 (by decide)]; exact g4.2.2.2.2.2.2.1
                  have ea : kI B (mj_u2 (mj_u2 (mj_u2 (mj_u2 (mj_u1 i x fun x => 0) x 4 0) x 0 (c' 8 2)) x 2 b) x 3 (s 0 0)) (mj_u2 c' 8 2 (c' 8 2 + 1)) s x 0 = nI (N 2) := by
                    rw [kI_o xx]; simp [mq_u2, mq_u1, e82]
                  rw [ea]
                  refine ⟨kT_24, D _ fun s' h3 => ?_⟩
                  simp only [y', ↓reduceIte]
                  exact hK _ _ (fin (mj_u1 q x fun x => 0) _ _ s' h3 (by
                    intro k' hk'; omega) (by
                    intro a h1 h2; funext y; simp [mq_u2, mq_u1, h2]) (by simp [mq_u2, mq_u1]) (by simp [mq_u2, mq_u1]) (by
                    obtain ⟨q1, q2, q3, q4, q5⟩ := g2
                    refine ⟨?_, ?_, ?_, ?_, ?_⟩
                    · simpa [mq_u1] using q1
                    · simpa [mq_u1] using q2
                    · simpa [mq_u1] using q3
                    · simp [mq_u1, n0, kP]
                    · simp [mq_u1]))
                · have u41 : u 4 = AN (N 2 - 1) := by rw [u4, if_neg n0]
                  have AN0 := g1.N0 (show N 2 - 1 < N 2 by omega)
                  have aN := (g1.aN (show N 2 - 1 < N 2 by omega)).1
                  simp only [vc_X7_add, vb_X7_add_41, vc_X6_init, mq_tag, mq_len, mq_i, mq_r, mq_l, mq_nx, mq_wi, mq_wr, mq_wl, true_and, and_true, and_false, false_and, and_self, ↓reduceIte, kT_0, kT_1, kT_2, kT_3, kT_4, kT_5, kT_6, kT_7, kT_8, kT_9, kT_10, kT_11, kT_12, kT_13, kT_14, kT_15, kT_16, kT_17, kT_18, kT_19, kT_20, kT_21, kT_22, kT_23, kL_2, kL_3, kL_5, kL_10, kL_11, kL_12, kL_14, kL_15, kL_17, kL_18, kL_19, kL_20, kL_21, kL_22, kL_23, kW_0_0, kW_0_1, kW_0_2, kW_0_3, kW_0_4, kW_0_5, kW_0_6, kW_0_7, kW_1_4, kW_1_5, kW_4_0, kW_4_1, kW_9_0, kW_9_1, kW_9_2, kW_13_0, kW_13_1, kW_16_0, kW_16_1, kW_16_2, kW_16_3, kW_16_4, kW_16_5, kW_1_1, kW_1_2, kW_4_4, kW_8_0, kW_8_1, kW_w1_1, kW_w1_2, kW_w4_4, kW_w8_0, kW_w8_1, kI_0, kI_w0, kI_1, kI_w1, kI_2, kI_w2, kI_3, kI_w3, kI_4, kI_w4, kI_5, kI_w5, kI_6, kI_w6, kI_7, kI_w7, kI_8, kI_w8, kI_9, kI_w9, kI_10, kI_w10, kI_11, kI_w11, kI_12, kI_w12, kI_13, kI_w13, kI_14, kI_w14, kI_15, kI_w15, kI_16, kI_w16, kI_17, kI_w17, kI_18, kI_w18, kI_19, kI_w19, kI_20, kI_w20, kI_21, kI_w21, kI_22, kI_w22, kI_23, kI_w23, mq_new, forall_eq, kT_n xx, kI_n xx, kW_n xx, kI_wo xx, kW_wo xx, tx, x0, not_false_eq_true, u41, AN0, tl n0, kW_wo aN]
                  have e82 : c' 8 2 = nI (N 2) := by rw [h1 8 (by decide)]; exact g4.2.2.2.2.2.2.1
                  have ea : kI B (mj_u2 (mj_u2 (mj_u2 (mj_u2 (mj_u1 i x fun x => 0) x 4 0) x 0 (c' 8 2)) x 2 b) x 3 (s 0 0)) (mj_u2 c' 8 2 (c' 8 2 + 1)) s x 0 = nI (N 2) := by
                    rw [kI_o xx]; simp [mq_u2, mq_u1, e82]
                  rw [ea]
                  refine ⟨kT_24, D _ fun s' h3 => ?_⟩
                  simp only [y', ↓reduceIte]
                  exact hK _ _ (fin (mj_u1 q x fun x => 0) _ _ s' h3 (by
                    intro k' hk'
                    have z1 := (g1.aN hk').2.1
                    by_cases e : k' = N 2 - 1
                    · subst e
                      rw [if_pos (by omega)]
                      have z2 : (AN (N 2 - 1) = x) = False := eq_false (by omega)
                      simp [mq_u2, mq_u1, z2]
                    · have z3 : (AN k' = AN (N 2 - 1)) = False := by rw [g1.injN hk' (by omega)]; exact eq_false e
                      have z2 : (AN k' = x) = False := eq_false (by omega)
                      rw [if_neg (by omega)]
                      simp [mq_u2, mq_u1, z2, z3]) (by
                    intro a h1 h2
                    have z1 := g1.aN (show N 2 - 1 < N 2 by omega)
                    have z3 : (a = AN (N 2 - 1)) = False := eq_false (fun z => h1 (by rw [z]; exact z1.2.2))
                    funext y; simp [mq_u2, mq_u1, h2, z3]) (by
                    have z2 : (x = AN (N 2 - 1)) = False := eq_false (by have := (g1.aN (show N 2 - 1 < N 2 by omega)).2.1; omega)
                    simp [mq_u2, mq_u1, z2]) (by
                    have z2 : (x = AN (N 2 - 1)) = False := eq_false (by have := (g1.aN (show N 2 - 1 < N 2 by omega)).2.1; omega)
                    simp [mq_u2, mq_u1, z2]) (by
                    obtain ⟨q1, q2, q3, q4, q5⟩ := g2
                    refine ⟨?_, ?_, ?_, ?_, ?_⟩
                    · simpa [mq_u1] using q1
                    · simpa [mq_u1] using q2
                    · simpa [mq_u1] using q3
                    · have z4 : 0 < N 2 := by omega
                      simp [mq_u1, kP, z4] at q4 ⊢
                      rw [q4, if_neg (by omega)]
                    · simp [mq_u1]))
              · have y' : ¬ lz ≤ 0 := by
                  rcases lz3 with y3 | y3 | y3
                  · exact absurd y3 y
                  · rw [y3]; decide
                  · rw [y3]; decide
                simp only [y, ↓reduceIte]
                refine ⟨kT_24, D _ fun s' h3 => ?_⟩
                simp only [y', ↓reduceIte]
                exact hK _ _ (kJ.mk (hG'.rf (fun _ _ => rfl) h3))
            · simp only [R, z, decide_false, Bool.false_eq_true, ↓reduceIte, show ((1 : Int32) = 0) = False from eq_false (by decide)]
              refine ⟨kT_24, ?_⟩
              simp only [vc_X12_notice, vc_X12_lackOf, mq_tag, mq_len, mq_i, mq_r, mq_l, mq_nx, mq_wi, mq_wr, mq_wl, true_and, and_true, and_false, false_and, and_self, ↓reduceIte, kT_24, kT_25, kT_26, kT_27, kT_28, kT_29, kT_30, kT_31, kT_32, kT_33, kT_34, kT_35, kT_36, kT_37, kT_38, kT_39, kT_40, kT_41, kT_42, kT_43, kT_44, kT_45, kT_46, kT_47, kT_48, kT_49, kT_50, kT_51, kT_52, kT_53, kT_54, kT_55, kT_56, kT_57, kT_58, kT_59, kT_60, kT_61, kL_25, kL_26, kL_27, kL_28, kL_29, kL_30, kL_31, kL_32, kL_33, kL_34, kL_35, kL_36, kL_37, kL_38, kL_39, kL_40, kL_41, kL_42, kL_43, kL_44, kL_45, kL_46, kL_47, kL_48, kL_49, kL_50, kL_51, kL_52, kL_53, kL_54, kL_55, kL_56, kL_57, kL_58, kL_59, kL_60, kL_61, kW_24_1, kW_24_2, kW_24_3, kW_24_4, kW_24_5, kW_24_6, kW_24_7, kW_24_8, kW_24_9, kW_24_10, kW_24_11, kW_24_12, kW_24_14, kW_24_15, kW_24_16, kW_24_17, kW_24_18, kW_24_19, kW_24_21, kW_24_22, kW_24_23, kW_24_25, kW_24_26, kW_24_27, kW_24_28, kW_24_29, kW_24_31, kW_24_32, kW_24_33, kW_24_34, kW_24_36, kW_24_37, kW_24_44, kW_24_49, kW_24_50, kW_24_51, kW_24_52, kI_24, kI_w24, kI_25, kI_w25, kI_26, kI_w26, kI_27, kI_w27, kI_28, kI_w28, kI_29, kI_w29, kI_30, kI_w30, kI_31, kI_w31, kI_32, kI_w32, kI_33, kI_w33, kI_34, kI_w34, kI_35, kI_w35, kI_36, kI_w36, kI_37, kI_w37, kI_38, kI_w38, kI_39, kI_w39, kI_40, kI_w40, kI_41, kI_w41, kI_42, kI_w42, kI_43, kI_w43, kI_44, kI_w44, kI_45, kI_w45, kI_46, kI_w46, kI_47, kI_w47, kI_48, kI_w48, kI_49, kI_w49, kI_50, kI_w50, kI_51, kI_w51, kI_52, kI_w52, kI_53, kI_w53, kI_54, kI_w54, kI_55, kI_w55, kI_56, kI_w56, kI_57, kI_w57, kI_58, kI_w58, kI_59, kI_w59, kI_60, kI_w60, kI_61, kI_w61, m_lease hG.hn h40 hk, hl, not_false_eq_true, decide_true, m_in01, hb, and_self, m_isOn k40 (hG.hw k hk), hon, hG.hnn, hf]
              refine m_right hG' (rF.refl s) hk g8.1 fun s' h3 => ?_
              simp only [z, ↓reduceIte, show ((1 : Int32) ≤ 0) = False from eq_false (by decide)]
              exact hK _ _ (kJ.mk (hG'.rf (fun _ _ => rfl) h3))
        · rw [C]
          simp only [vb_X11_notice_27, vc_X12_notice, mq_tag, mq_len, mq_i, mq_r, mq_l, mq_nx, mq_wi, mq_wr, mq_wl, true_and, and_true, and_false, false_and, and_self, ↓reduceIte, kT_0, kT_1, kT_2, kT_3, kT_4, kT_5, kT_6, kT_7, kT_8, kT_9, kT_10, kT_11, kT_12, kT_13, kT_14, kT_15, kT_16, kT_17, kT_18, kT_19, kT_20, kT_21, kT_22, kT_23, kL_2, kL_3, kL_5, kL_10, kL_11, kL_12, kL_14, kL_15, kL_17, kL_18, kL_19, kL_20, kL_21, kL_22, kL_23, kW_0_0, kW_0_1, kW_0_2, kW_0_3, kW_0_4, kW_0_5, kW_0_6, kW_0_7, kW_1_4, kW_1_5, kW_4_0, kW_4_1, kW_9_0, kW_9_1, kW_9_2, kW_13_0, kW_13_1, kW_16_0, kW_16_1, kW_16_2, kW_16_3, kW_16_4, kW_16_5, kW_1_1, kW_1_2, kW_4_4, kW_8_0, kW_8_1, kW_w1_1, kW_w1_2, kW_w4_4, kW_w8_0, kW_w8_1, kI_0, kI_w0, kI_1, kI_w1, kI_2, kI_w2, kI_3, kI_w3, kI_4, kI_w4, kI_5, kI_w5, kI_6, kI_w6, kI_7, kI_w7, kI_8, kI_w8, kI_9, kI_w9, kI_10, kI_w10, kI_11, kI_w11, kI_12, kI_w12, kI_13, kI_w13, kI_14, kI_w14, kI_15, kI_w15, kI_16, kI_w16, kI_17, kI_w17, kI_18, kI_w18, kI_19, kI_w19, kI_20, kI_w20, kI_21, kI_w21, kI_22, kI_w22, kI_23, kI_w23, kT_24, kT_25, kT_26, kT_27, kT_28, kT_29, kT_30, kT_31, kT_32, kT_33, kT_34, kT_35, kT_36, kT_37, kT_38, kT_39, kT_40, kT_41, kT_42, kT_43, kT_44, kT_45, kT_46, kT_47, kT_48, kT_49, kT_50, kT_51, kT_52, kT_53, kT_54, kT_55, kT_56, kT_57, kT_58, kT_59, kT_60, kT_61, kL_25, kL_26, kL_27, kL_28, kL_29, kL_30, kL_31, kL_32, kL_33, kL_34, kL_35, kL_36, kL_37, kL_38, kL_39, kL_40, kL_41, kL_42, kL_43, kL_44, kL_45, kL_46, kL_47, kL_48, kL_49, kL_50, kL_51, kL_52, kL_53, kL_54, kL_55, kL_56, kL_57, kL_58, kL_59, kL_60, kL_61, kW_24_1, kW_24_2, kW_24_3, kW_24_4, kW_24_5, kW_24_6, kW_24_7, kW_24_8, kW_24_9, kW_24_10, kW_24_11, kW_24_12, kW_24_14, kW_24_15, kW_24_16, kW_24_17, kW_24_18, kW_24_19, kW_24_21, kW_24_22, kW_24_23, kW_24_25, kW_24_26, kW_24_27, kW_24_28, kW_24_29, kW_24_31, kW_24_32, kW_24_33, kW_24_34, kW_24_36, kW_24_37, kW_24_44, kW_24_49, kW_24_50, kW_24_51, kW_24_52, kI_24, kI_w24, kI_25, kI_w25, kI_26, kI_w26, kI_27, kI_w27, kI_28, kI_w28, kI_29, kI_w29, kI_30, kI_w30, kI_31, kI_w31, kI_32, kI_w32, kI_33, kI_w33, kI_34, kI_w34, kI_35, kI_w35, kI_36, kI_w36, kI_37, kI_w37, kI_38, kI_w38, kI_39, kI_w39, kI_40, kI_w40, kI_41, kI_w41, kI_42, kI_w42, kI_43, kI_w43, kI_44, kI_w44, kI_45, kI_w45, kI_46, kI_w46, kI_47, kI_w47, kI_48, kI_w48, kI_49, kI_w49, kI_50, kI_w50, kI_51, kI_w51, kI_52, kI_w52, kI_53, kI_w53, kI_54, kI_w54, kI_55, kI_w55, kI_56, kI_w56, kI_57, kI_w57, kI_58, kI_w58, kI_59, kI_w59, kI_60, kI_w60, kI_61, kI_w61, c_on g1 hk, hG.hd, hon, hl, m_lease hG.hn h40 hk, m_in01, hb, m_isOn k40 (hG.hw k hk), true_or, or_true, false_or, or_false, not_true_eq_false, not_false_eq_true, true_and, and_true, false_and, and_false, and_self, decide_true, decide_false, ↓reduceIte, Bool.true_and, Bool.false_and, Bool.and_true, Bool.and_false, Bool.not_true, Bool.not_false, Bool.false_eq_true, Bool.true_or, Bool.or_true, Bool.false_or, Bool.or_false, reduceCtorEq, Bool.and_self, Bool.or_self, ne_eq]
          exact hK _ _ (kJ.mk hG)
      · have b0 : (b = 0) = False := eq_false fun z => hb (by rw [z]; decide)
        have b1 : (b = 1) = False := eq_false fun z => hb (by rw [z]; decide)
        simp only [vc_X11_notice, vc_X12_notice, mq_tag, mq_len, mq_i, mq_r, mq_l, mq_nx, mq_wi, mq_wr, mq_wl, true_and, and_true, and_false, false_and, and_self, ↓reduceIte, kT_0, kT_1, kT_2, kT_3, kT_4, kT_5, kT_6, kT_7, kT_8, kT_9, kT_10, kT_11, kT_12, kT_13, kT_14, kT_15, kT_16, kT_17, kT_18, kT_19, kT_20, kT_21, kT_22, kT_23, kL_2, kL_3, kL_5, kL_10, kL_11, kL_12, kL_14, kL_15, kL_17, kL_18, kL_19, kL_20, kL_21, kL_22, kL_23, kW_0_0, kW_0_1, kW_0_2, kW_0_3, kW_0_4, kW_0_5, kW_0_6, kW_0_7, kW_1_4, kW_1_5, kW_4_0, kW_4_1, kW_9_0, kW_9_1, kW_9_2, kW_13_0, kW_13_1, kW_16_0, kW_16_1, kW_16_2, kW_16_3, kW_16_4, kW_16_5, kW_1_1, kW_1_2, kW_4_4, kW_8_0, kW_8_1, kW_w1_1, kW_w1_2, kW_w4_4, kW_w8_0, kW_w8_1, kI_0, kI_w0, kI_1, kI_w1, kI_2, kI_w2, kI_3, kI_w3, kI_4, kI_w4, kI_5, kI_w5, kI_6, kI_w6, kI_7, kI_w7, kI_8, kI_w8, kI_9, kI_w9, kI_10, kI_w10, kI_11, kI_w11, kI_12, kI_w12, kI_13, kI_w13, kI_14, kI_w14, kI_15, kI_w15, kI_16, kI_w16, kI_17, kI_w17, kI_18, kI_w18, kI_19, kI_w19, kI_20, kI_w20, kI_21, kI_w21, kI_22, kI_w22, kI_23, kI_w23, kT_24, kT_25, kT_26, kT_27, kT_28, kT_29, kT_30, kT_31, kT_32, kT_33, kT_34, kT_35, kT_36, kT_37, kT_38, kT_39, kT_40, kT_41, kT_42, kT_43, kT_44, kT_45, kT_46, kT_47, kT_48, kT_49, kT_50, kT_51, kT_52, kT_53, kT_54, kT_55, kT_56, kT_57, kT_58, kT_59, kT_60, kT_61, kL_25, kL_26, kL_27, kL_28, kL_29, kL_30, kL_31, kL_32, kL_33, kL_34, kL_35, kL_36, kL_37, kL_38, kL_39, kL_40, kL_41, kL_42, kL_43, kL_44, kL_45, kL_46, kL_47, kL_48, kL_49, kL_50, kL_51, kL_52, kL_53, kL_54, kL_55, kL_56, kL_57, kL_58, kL_59, kL_60, kL_61, kW_24_1, kW_24_2, kW_24_3, kW_24_4, kW_24_5, kW_24_6, kW_24_7, kW_24_8, kW_24_9, kW_24_10, kW_24_11, kW_24_12, kW_24_14, kW_24_15, kW_24_16, kW_24_17, kW_24_18, kW_24_19, kW_24_21, kW_24_22, kW_24_23, kW_24_25, kW_24_26, kW_24_27, kW_24_28, kW_24_29, kW_24_31, kW_24_32, kW_24_33, kW_24_34, kW_24_36, kW_24_37, kW_24_44, kW_24_49, kW_24_50, kW_24_51, kW_24_52, kI_24, kI_w24, kI_25, kI_w25, kI_26, kI_w26, kI_27, kI_w27, kI_28, kI_w28, kI_29, kI_w29, kI_30, kI_w30, kI_31, kI_w31, kI_32, kI_w32, kI_33, kI_w33, kI_34, kI_w34, kI_35, kI_w35, kI_36, kI_w36, kI_37, kI_w37, kI_38, kI_w38, kI_39, kI_w39, kI_40, kI_w40, kI_41, kI_w41, kI_42, kI_w42, kI_43, kI_w43, kI_44, kI_w44, kI_45, kI_w45, kI_46, kI_w46, kI_47, kI_w47, kI_48, kI_w48, kI_49, kI_w49, kI_50, kI_w50, kI_51, kI_w51, kI_52, kI_w52, kI_53, kI_w53, kI_54, kI_w54, kI_55, kI_w55, kI_56, kI_w56, kI_57, kI_w57, kI_58, kI_w58, kI_59, kI_w59, kI_60, kI_w60, kI_61, kI_w61, c_findL g1 g2 hk, hl, A0, b0, b1, m_lease hG.hn h40 hk, m_in01, hb, true_or, or_true, false_or, or_false, not_true_eq_false, not_false_eq_true, true_and, and_true, false_and, and_false, and_self, decide_true, decide_false, ↓reduceIte, Bool.true_and, Bool.false_and, Bool.and_true, Bool.and_false, Bool.not_true, Bool.not_false, Bool.false_eq_true, Bool.true_or, Bool.or_true, Bool.false_or, Bool.or_false, reduceCtorEq, Bool.and_self, Bool.or_self, ne_eq]
        exact hK _ _ (kJ.mk hG)
  · simp only [vc_X11_notice, vc_X12_notice, mq_tag, mq_len, mq_i, mq_r, mq_l, mq_nx, mq_wi, mq_wr, mq_wl, true_and, and_true, and_false, false_and, and_self, ↓reduceIte, kT_0, kT_1, kT_2, kT_3, kT_4, kT_5, kT_6, kT_7, kT_8, kT_9, kT_10, kT_11, kT_12, kT_13, kT_14, kT_15, kT_16, kT_17, kT_18, kT_19, kT_20, kT_21, kT_22, kT_23, kL_2, kL_3, kL_5, kL_10, kL_11, kL_12, kL_14, kL_15, kL_17, kL_18, kL_19, kL_20, kL_21, kL_22, kL_23, kW_0_0, kW_0_1, kW_0_2, kW_0_3, kW_0_4, kW_0_5, kW_0_6, kW_0_7, kW_1_4, kW_1_5, kW_4_0, kW_4_1, kW_9_0, kW_9_1, kW_9_2, kW_13_0, kW_13_1, kW_16_0, kW_16_1, kW_16_2, kW_16_3, kW_16_4, kW_16_5, kW_1_1, kW_1_2, kW_4_4, kW_8_0, kW_8_1, kW_w1_1, kW_w1_2, kW_w4_4, kW_w8_0, kW_w8_1, kI_0, kI_w0, kI_1, kI_w1, kI_2, kI_w2, kI_3, kI_w3, kI_4, kI_w4, kI_5, kI_w5, kI_6, kI_w6, kI_7, kI_w7, kI_8, kI_w8, kI_9, kI_w9, kI_10, kI_w10, kI_11, kI_w11, kI_12, kI_w12, kI_13, kI_w13, kI_14, kI_w14, kI_15, kI_w15, kI_16, kI_w16, kI_17, kI_w17, kI_18, kI_w18, kI_19, kI_w19, kI_20, kI_w20, kI_21, kI_w21, kI_22, kI_w22, kI_23, kI_w23, kT_24, kT_25, kT_26, kT_27, kT_28, kT_29, kT_30, kT_31, kT_32, kT_33, kT_34, kT_35, kT_36, kT_37, kT_38, kT_39, kT_40, kT_41, kT_42, kT_43, kT_44, kT_45, kT_46, kT_47, kT_48, kT_49, kT_50, kT_51, kT_52, kT_53, kT_54, kT_55, kT_56, kT_57, kT_58, kT_59, kT_60, kT_61, kL_25, kL_26, kL_27, kL_28, kL_29, kL_30, kL_31, kL_32, kL_33, kL_34, kL_35, kL_36, kL_37, kL_38, kL_39, kL_40, kL_41, kL_42, kL_43, kL_44, kL_45, kL_46, kL_47, kL_48, kL_49, kL_50, kL_51, kL_52, kL_53, kL_54, kL_55, kL_56, kL_57, kL_58, kL_59, kL_60, kL_61, kW_24_1, kW_24_2, kW_24_3, kW_24_4, kW_24_5, kW_24_6, kW_24_7, kW_24_8, kW_24_9, kW_24_10, kW_24_11, kW_24_12, kW_24_14, kW_24_15, kW_24_16, kW_24_17, kW_24_18, kW_24_19, kW_24_21, kW_24_22, kW_24_23, kW_24_25, kW_24_26, kW_24_27, kW_24_28, kW_24_29, kW_24_31, kW_24_32, kW_24_33, kW_24_34, kW_24_36, kW_24_37, kW_24_44, kW_24_49, kW_24_50, kW_24_51, kW_24_52, kI_24, kI_w24, kI_25, kI_w25, kI_26, kI_w26, kI_27, kI_w27, kI_28, kI_w28, kI_29, kI_w29, kI_30, kI_w30, kI_31, kI_w31, kI_32, kI_w32, kI_33, kI_w33, kI_34, kI_w34, kI_35, kI_w35, kI_36, kI_w36, kI_37, kI_w37, kI_38, kI_w38, kI_39, kI_w39, kI_40, kI_w40, kI_41, kI_w41, kI_42, kI_w42, kI_43, kI_w43, kI_44, kI_w44, kI_45, kI_w45, kI_46, kI_w46, kI_47, kI_w47, kI_48, kI_w48, kI_49, kI_w49, kI_50, kI_w50, kI_51, kI_w51, kI_52, kI_w52, kI_53, kI_w53, kI_54, kI_w54, kI_55, kI_w55, kI_56, kI_w56, kI_57, kI_w57, kI_58, kI_w58, kI_59, kI_w59, kI_60, kI_w60, kI_61, kI_w61, c_findL_no g1 g2 hv, m_lease_no hG.hn h40 hv, true_or, or_true, false_or, or_false, not_true_eq_false, not_false_eq_true, true_and, and_true, false_and, and_false, and_self, decide_true, decide_false, ↓reduceIte, Bool.true_and, Bool.false_and, Bool.and_true, Bool.and_false, Bool.not_true, Bool.not_false, Bool.false_eq_true, Bool.true_or, Bool.or_true, Bool.false_or, Bool.or_false, reduceCtorEq, Bool.and_self, Bool.or_self, ne_eq]
    exact hK _ _ (kJ.mk hG)
end

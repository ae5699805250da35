/-! STAGE B: ranges -/
theorem i_le {a b : Int32} : a ≤ b ↔ a.toInt ≤ b.toInt := Int32.le_iff_toInt_le
theorem i_lt {a b : Int32} : a < b ↔ a.toInt < b.toInt := Int32.lt_iff_toInt_lt
theorem i_eq {a b : Int32} : a = b ↔ a.toInt = b.toInt := Int32.toInt_inj.symm
theorem m_in {v lo hi : Int32} {L H : Int64} (hL : L = lo.toInt64) (hH : H = hi.toInt64) {M : mj_M} {post : Bool → mj_M → Prop} : vc_X12_in v.toInt64 L H M post = post (decide (lo ≤ v ∧ v ≤ hi)) M := by
  subst hL hH
  unfold vc_X12_in
  simp only [ix_cmp, ix_cmp2, ix_wlt]
  by_cases h1 : v < lo
  · have : ¬ (lo ≤ v ∧ v ≤ hi) := fun h => by rw [i_lt] at h1; have := i_le.mp h.1; omega
    simp [h1, this]
  · by_cases h2 : hi < v
    · have : ¬ (lo ≤ v ∧ v ≤ hi) := fun h => by rw [i_lt] at h2; have := i_le.mp h.2; omega
      simp [h1, h2, this]
    · have : lo ≤ v ∧ v ≤ hi := ⟨by rw [i_lt] at h1; rw [i_le]; omega, by rw [i_lt] at h2; rw [i_le]; omega⟩
      simp [h1, h2, this]
theorem c_rng {v lo hi hi1 : Int32} (h : hi.toInt + 1 = hi1.toInt) {M : mj_M} {post : Bool → mj_M → Prop} : (if v < lo then post false M else if hi1 ≤ v then post false M else post true M) = post (decide (lo ≤ v ∧ v ≤ hi)) M := by
  by_cases h1 : v < lo
  · have : ¬ (lo ≤ v ∧ v ≤ hi) := fun h => by rw [i_lt] at h1; have := i_le.mp h.1; omega
    simp [h1, this]
  · by_cases h2 : hi1 ≤ v
    · have : ¬ (lo ≤ v ∧ v ≤ hi) := fun h => by rw [i_le] at h2; have := i_le.mp h.2; omega
      simp [h1, h2, this]
    · have : lo ≤ v ∧ v ≤ hi := ⟨by rw [i_lt] at h1; rw [i_le]; omega, by rw [i_le] at h2 ⊢; omega⟩
      simp [h1, h2, this]
theorem c_rng2 {v lo hi : Int32} {M : mj_M} {post : Bool → mj_M → Prop} : (if v < lo then post false M else if hi < v then post false M else post true M) = post (decide (lo ≤ v ∧ v ≤ hi)) M := by
  by_cases h1 : v < lo
  · have : ¬ (lo ≤ v ∧ v ≤ hi) := fun h => by rw [i_lt] at h1; have := i_le.mp h.1; omega
    simp [h1, this]
  · by_cases h2 : hi < v
    · have : ¬ (lo ≤ v ∧ v ≤ hi) := fun h => by rw [i_lt] at h2; have := i_le.mp h.2; omega
      simp [h1, h2, this]
    · have : lo ≤ v ∧ v ≤ hi := ⟨by rw [i_lt] at h1; rw [i_le]; omega, by rw [i_lt] at h2; rw [i_le]; omega⟩
      simp [h1, h2, this]
section
variable {v w : Int32} {M : mj_M} {post : Bool → mj_M → Prop}
theorem c_isDay : vc_X11_isDay v M post = post (decide (0 ≤ v ∧ v ≤ 73000)) M := c_rng2
theorem c_isYears : vc_X11_isYears v M post = post (decide (0 ≤ v ∧ v ≤ 200)) M := c_rng2
theorem c_isPart : vc_X11_isPartOfWhole v M post = post (decide (0 ≤ v ∧ v ≤ 10000)) M := c_rng2
theorem c_isFloor : vc_X11_isFloor v M post = post (decide (0 ≤ v ∧ v ≤ 11)) M := c_rng (by decide)
theorem c_isPerson : vc_X11_isPerson v M post = post (decide (0 ≤ v ∧ v ≤ 9)) M := c_rng (by decide)
theorem c_isPersons : vc_X11_isPersons v M post = post (decide (0 ≤ v ∧ v ≤ 1023)) M := c_rng (by decide)
theorem c_isName : vc_X11_isName v M post = post (decide (0 ≤ v ∧ v ≤ 9)) M := c_rng2
theorem c_isKind : vc_X11_isKind v M post = post (decide (0 ≤ v ∧ v ≤ 3)) M := c_rng (by decide)
theorem c_isSign : vc_X11_isSign v M post = post (decide (33 ≤ v ∧ v ≤ 126)) M := c_rng2
theorem c_isDigit : vc_X11_isDigit v M post = post (gDig v) M := c_rng2
theorem c_isFloors : vc_X11_isFloors v M post = post (decide (1 ≤ v ∧ v ≤ 4095)) M := by
  rw [show vc_X11_isFloors v M post = (if v < 1 then post false M else if 4096 ≤ v then post false M else post true M) from ?_]
  · exact c_rng (by decide)
  · unfold vc_X11_isFloors
    have : (v ≤ 0) = (v < 1) := propext (by rw [i_le, i_lt]; have h0 : (0 : Int32).toInt = 0 := by decide
                                            have h1 : (1 : Int32).toInt = 1 := by decide
                                            omega)
    simp only [this]
theorem c_isFact : vc_X11_isFact v M post = post (mj_fact v) M := rfl
theorem m_isDay : vc_X12_isDay v M post = post (decide (0 ≤ v ∧ v ≤ 73000)) M := m_in (by decide) (by decide)
theorem m_isFloor : vc_X12_isFloor v M post = post (decide (0 ≤ v ∧ v ≤ 11)) M := m_in (by decide) (by decide)
theorem m_isPerson : vc_X12_isPerson v M post = post (decide (0 ≤ v ∧ v ≤ 9)) M := m_in (by decide) (by decide)
theorem m_isKind : vc_X12_isKind v M post = post (decide (0 ≤ v ∧ v ≤ 3)) M := m_in (by decide) (by decide)
theorem m_areFloors : vc_X12_areFloors v M post = post (decide (1 ≤ v ∧ v ≤ 4095)) M := m_in (by decide) (by decide)
theorem m_isDigit : vc_X12_isDigit v M post = post (gDig v) M := m_in (by decide) (by decide)
theorem m_in01 : vc_X12_in v.toInt64 0 1 M post = post (decide (0 ≤ v ∧ v ≤ 1)) M := m_in (by decide) (by decide)
theorem m_in03 : vc_X12_in v.toInt64 0 3 M post = post (decide (0 ≤ v ∧ v ≤ 3)) M := m_in (by decide) (by decide)
theorem m_in0200 : vc_X12_in v.toInt64 0 200 M post = post (decide (0 ≤ v ∧ v ≤ 200)) M := m_in (by decide) (by decide)
theorem m_in1200 : vc_X12_in v.toInt64 1 200 M post = post (decide (1 ≤ v ∧ v ≤ 200)) M := m_in (by decide) (by decide)
theorem m_in04 : vc_X12_in v.toInt64 0 10000 M post = post (decide (0 ≤ v ∧ v ≤ 10000)) M := m_in (by decide) (by decide)
theorem m_in05 : vc_X12_in v.toInt64 0 100000 M post = post (decide (0 ≤ v ∧ v ≤ 100000)) M := m_in (by decide) (by decide)
theorem m_in06 : vc_X12_in v.toInt64 0 1000000 M post = post (decide (0 ≤ v ∧ v ≤ 1000000)) M := m_in (by decide) (by decide)
theorem m_in500 : vc_X12_in v.toInt64 0 500 M post = post (decide (0 ≤ v ∧ v ≤ 500)) M := m_in (by decide) (by decide)
theorem m_in100 : vc_X12_in v.toInt64 0 100 M post = post (decide (0 ≤ v ∧ v ≤ 100)) M := m_in (by decide) (by decide)
theorem m_in1100 : vc_X12_in v.toInt64 1 100 M post = post (decide (1 ≤ v ∧ v ≤ 100)) M := m_in (by decide) (by decide)
theorem m_in1023 : vc_X12_in v.toInt64 0 1023 M post = post (decide (0 ≤ v ∧ v ≤ 1023)) M := m_in (by decide) (by decide)
theorem m_in1021 : vc_X12_in v.toInt64 10 21 M post = post (decide (10 ≤ v ∧ v ≤ 21)) M := m_in (by decide) (by decide)
theorem m_in3041 : vc_X12_in v.toInt64 30 41 M post = post (decide (30 ≤ v ∧ v ≤ 41)) M := m_in (by decide) (by decide)
theorem m_in33 : vc_X12_in v.toInt64 33 126 M post = post (decide (33 ≤ v ∧ v ≤ 126)) M := m_in (by decide) (by decide)
theorem m_inTE : vc_X12_in v.toInt64 w.toInt64 73000 M post = post (decide (w ≤ v ∧ v ≤ 73000)) M := m_in rfl (by decide)
theorem m_in0n : vc_X12_in v.toInt64 0 w.toInt64 M post = post (decide (0 ≤ v ∧ v ≤ w)) M := m_in (by decide) rfl
end
/-- a number from 0 to a bound is a place -/
theorem r_of {v hi : Int32} {n : Nat} (hn : n < 2147483648) (hh : hi = nI n) (h : 0 ≤ v ∧ v ≤ hi) : ∃ k : Nat, k ≤ n ∧ v = nI k := by
  obtain ⟨k, hk, rfl⟩ := ix_of h.1
  exact ⟨k, by rw [hh, ix_le hk hn] at h; exact h.2, rfl⟩
/-- a later day -/
theorem kHo.day {s : Nat → Nat → Int32} {n : Nat} {a : Int32} (h : kHo s n) (h1 : s 0 0 ≤ a) (h2 : a ≤ 73000) : kHo (mj_u2 s 0 0 a) n := by
  obtain ⟨⟨a1, a2⟩, b, ⟨rk, d⟩, e⟩ := h
  have E : ∀ j, j ≠ 0 → mj_u2 s 0 0 a j = s j := fun j hj => mj_u2_ne _ hj
  have E0 : mj_u2 s 0 0 a 0 0 = a := mq_u2s
  rw [i_le] at h1 a1
  have K : kun (mj_u2 s 0 0 a) = kun s := kun_to (E 4 (by decide)) (E 5 (by decide)) (E 6 (by decide))
  refine ⟨⟨by rw [E0, i_le]; omega, by rw [E0]; exact h2⟩, ?_, ⟨rk, ?_⟩, ?_⟩
  · unfold kR1
    rw [E 1 (by decide), E 2 (by decide), E 3 (by decide), E 4 (by decide), E 5 (by decide), E 6 (by decide), E 7 (by decide), E 8 (by decide), E 9 (by decide), E 10 (by decide), E 11 (by decide), E 12 (by decide)]
    exact b
  · rw [E 1 (by decide)]; exact d
  · intro h hh
    obtain ⟨p1, p2, p3, p4, p5⟩ := e h hh
    unfold kR2
    rw [E 1 (by decide), E 3 (by decide), E 4 (by decide), E 5 (by decide), E 6 (by decide), E 12 (by decide), E0, K]
    refine ⟨fun x y => ?_, p2, fun x => ?_, p4, fun k hk ho => ?_⟩
    · obtain ⟨q1, q2⟩ := p1 x y
      rw [i_le] at q1 q2
      exact ⟨by rw [i_le]; omega, by rw [i_le]; omega⟩
    · rcases p3 x with q | q
      · rw [i_le] at q; exact .inl (by rw [i_le]; omega)
      · exact .inr q
    · obtain ⟨q1, q2, q3, q4, q5⟩ := p5 k hk ho
      refine ⟨q1, ?_, fun x y => q3 x ?_, fun x y => q4 x ?_, q5⟩
      · rcases q2 with q | q
        · exact .inl q
        · rw [i_le] at q; exact .inr (by rw [i_le]; omega)
      · rw [i_le] at y ⊢; omega
      · rw [i_lt] at y ⊢; omega
theorem T_today {B : Nat} {M : mj_M} (h : kJ B M) (a : Int32) {K : Int32 → Int32 → mj_M → Prop} (hK : ∀ v M', kJ B M' → K v v M') : vc_X11_today B a M (fun v M1 => mj_tag M1 (B + 24) = 13 ∧ vc_X12_today (B + 24) a M1 (fun v' M2 => K v v' M2)) := by
  obtain ⟨A, AA, AT, AN, N, t, l, u, i, c, s, r, q, g, w, x, rfl, hG⟩ := h
  obtain ⟨g1, g2, g3, g4, g5, g6, g7, g8, g9, g10⟩ := id hG
  simp only [vc_X11_today, vc_X12_today, c_isDay, m_inTE, mq_tag, mq_len, mq_i, mq_r, mq_l, mq_nx, mq_wi, mq_wr, mq_wl, true_and, and_true, and_false, false_and, and_self, ↓reduceIte, kT_0, kT_1, kT_2, kT_3, kT_4, kT_5, kT_6, kT_7, kT_8, kT_9, kT_10, kT_11, kT_12, kT_13, kT_14, kT_15, kT_16, kT_17, kT_18, kT_19, kT_20, kT_21, kT_22, kT_23, kL_2, kL_3, kL_5, kL_10, kL_11, kL_12, kL_14, kL_15, kL_17, kL_18, kL_19, kL_20, kL_21, kL_22, kL_23, kW_0_0, kW_0_1, kW_0_2, kW_0_3, kW_0_4, kW_0_5, kW_0_6, kW_0_7, kW_1_4, kW_1_5, kW_4_0, kW_4_1, kW_9_0, kW_9_1, kW_9_2, kW_13_0, kW_13_1, kW_16_0, kW_16_1, kW_16_2, kW_16_3, kW_16_4, kW_16_5, kW_1_1, kW_1_2, kW_4_4, kW_8_0, kW_8_1, kW_w1_1, kW_w1_2, kW_w4_4, kW_w8_0, kW_w8_1, kI_0, kI_w0, kI_1, kI_w1, kI_2, kI_w2, kI_3, kI_w3, kI_4, kI_w4, kI_5, kI_w5, kI_6, kI_w6, kI_7, kI_w7, kI_8, kI_w8, kI_9, kI_w9, kI_10, kI_w10, kI_11, kI_w11, kI_12, kI_w12, kI_13, kI_w13, kI_14, kI_w14, kI_15, kI_w15, kI_16, kI_w16, kI_17, kI_w17, kI_18, kI_w18, kI_19, kI_w19, kI_20, kI_w20, kI_21, kI_w21, kI_22, kI_w22, kI_23, kI_w23, kT_24, kT_25, kT_26, kT_27, kT_28, kT_29, kT_30, kT_31, kT_32, kT_33, kT_34, kT_35, kT_36, kT_37, kT_38, kT_39, kT_40, kT_41, kT_42, kT_43, kT_44, kT_45, kT_46, kT_47, kT_48, kT_49, kT_50, kT_51, kT_52, kT_53, kT_54, kT_55, kT_56, kT_57, kT_58, kT_59, kT_60, kT_61, kL_25, kL_26, kL_27, kL_28, kL_29, kL_30, kL_31, kL_32, kL_33, kL_34, kL_35, kL_36, kL_37, kL_38, kL_39, kL_40, kL_41, kL_42, kL_43, kL_44, kL_45, kL_46, kL_47, kL_48, kL_49, kL_50, kL_51, kL_52, kL_53, kL_54, kL_55, kL_56, kL_57, kL_58, kL_59, kL_60, kL_61, kW_24_1, kW_24_2, kW_24_3, kW_24_4, kW_24_5, kW_24_6, kW_24_7, kW_24_8, kW_24_9, kW_24_10, kW_24_11, kW_24_12, kW_24_14, kW_24_15, kW_24_16, kW_24_17, kW_24_18, kW_24_19, kW_24_21, kW_24_22, kW_24_23, kW_24_25, kW_24_26, kW_24_27, kW_24_28, kW_24_29, kW_24_31, kW_24_32, kW_24_33, kW_24_34, kW_24_36, kW_24_37, kW_24_44, kW_24_49, kW_24_50, kW_24_51, kW_24_52, kI_24, kI_w24, kI_25, kI_w25, kI_26, kI_w26, kI_27, kI_w27, kI_28, kI_w28, kI_29, kI_w29, kI_30, kI_w30, kI_31, kI_w31, kI_32, kI_w32, kI_33, kI_w33, kI_34, kI_w34, kI_35, kI_w35, kI_36, kI_w36, kI_37, kI_w37, kI_38, kI_w38, kI_39, kI_w39, kI_40, kI_w40, kI_41, kI_w41, kI_42, kI_w42, kI_43, kI_w43, kI_44, kI_w44, kI_45, kI_w45, kI_46, kI_w46, kI_47, kI_w47, kI_48, kI_w48, kI_49, kI_w49, kI_50, kI_w50, kI_51, kI_w51, kI_52, kI_w52, kI_53, kI_w53, kI_54, kI_w54, kI_55, kI_w55, kI_56, kI_w56, kI_57, kI_w57, kI_58, kI_w58, kI_59, kI_w59, kI_60, kI_w60, kI_61, kI_w61, decide_eq_true_eq, g3.1]
  by_cases h1 : 0 ≤ a ∧ a ≤ 73000
  · by_cases h2 : s 0 0 ≤ a
    · simp only [h1, h2, mq_tag, mq_len, mq_i, mq_r, mq_l, mq_nx, mq_wi, mq_wr, mq_wl, true_and, and_true, and_false, false_and, and_self, ↓reduceIte, kT_0, kT_1, kT_2, kT_3, kT_4, kT_5, kT_6, kT_7, kT_8, kT_9, kT_10, kT_11, kT_12, kT_13, kT_14, kT_15, kT_16, kT_17, kT_18, kT_19, kT_20, kT_21, kT_22, kT_23, kL_2, kL_3, kL_5, kL_10, kL_11, kL_12, kL_14, kL_15, kL_17, kL_18, kL_19, kL_20, kL_21, kL_22, kL_23, kW_0_0, kW_0_1, kW_0_2, kW_0_3, kW_0_4, kW_0_5, kW_0_6, kW_0_7, kW_1_4, kW_1_5, kW_4_0, kW_4_1, kW_9_0, kW_9_1, kW_9_2, kW_13_0, kW_13_1, kW_16_0, kW_16_1, kW_16_2, kW_16_3, kW_16_4, kW_16_5, kW_1_1, kW_1_2, kW_4_4, kW_8_0, kW_8_1, kW_w1_1, kW_w1_2, kW_w4_4, kW_w8_0, kW_w8_1, kI_0, kI_w0, kI_1, kI_w1, kI_2, kI_w2, kI_3, kI_w3, kI_4, kI_w4, kI_5, kI_w5, kI_6, kI_w6, kI_7, kI_w7, kI_8, kI_w8, kI_9, kI_w9, kI_10, kI_w10, kI_11, kI_w11, kI_12, kI_w12, kI_13, kI_w13, kI_14, kI_w14, kI_15, kI_w15, kI_16, kI_w16, kI_17, kI_w17, kI_18, kI_w18, kI_19, kI_w19, kI_20, kI_w20, kI_21, kI_w21, kI_22, kI_w22, kI_23, kI_w23, kT_24, kT_25, kT_26, kT_27, kT_28, kT_29, kT_30, kT_31, kT_32, kT_33, kT_34, kT_35, kT_36, kT_37, kT_38, kT_39, kT_40, kT_41, kT_42, kT_43, kT_44, kT_45, kT_46, kT_47, kT_48, kT_49, kT_50, kT_51, kT_52, kT_53, kT_54, kT_55, kT_56, kT_57, kT_58, kT_59, kT_60, kT_61, kL_25, kL_26, kL_27, kL_28, kL_29, kL_30, kL_31, kL_32, kL_33, kL_34, kL_35, kL_36, kL_37, kL_38, kL_39, kL_40, kL_41, kL_42, kL_43, kL_44, kL_45, kL_46, kL_47, kL_48, kL_49, kL_50, kL_51, kL_52, kL_53, kL_54, kL_55, kL_56, kL_57, kL_58, kL_59, kL_60, kL_61, kW_24_1, kW_24_2, kW_24_3, kW_24_4, kW_24_5, kW_24_6, kW_24_7, kW_24_8, kW_24_9, kW_24_10, kW_24_11, kW_24_12, kW_24_14, kW_24_15, kW_24_16, kW_24_17, kW_24_18, kW_24_19, kW_24_21, kW_24_22, kW_24_23, kW_24_25, kW_24_26, kW_24_27, kW_24_28, kW_24_29, kW_24_31, kW_24_32, kW_24_33, kW_24_34, kW_24_36, kW_24_37, kW_24_44, kW_24_49, kW_24_50, kW_24_51, kW_24_52, kI_24, kI_w24, kI_25, kI_w25, kI_26, kI_w26, kI_27, kI_w27, kI_28, kI_w28, kI_29, kI_w29, kI_30, kI_w30, kI_31, kI_w31, kI_32, kI_w32, kI_33, kI_w33, kI_34, kI_w34, kI_35, kI_w35, kI_36, kI_w36, kI_37, kI_w37, kI_38, kI_w38, kI_39, kI_w39, kI_40, kI_w40, kI_41, kI_w41, kI_42, kI_w42, kI_43, kI_w43, kI_44, kI_w44, kI_45, kI_w45, kI_46, kI_w46, kI_47, kI_w47, kI_48, kI_w48, kI_49, kI_w49, kI_50, kI_w50, kI_51, kI_w51, kI_52, kI_w52, kI_53, kI_w53, kI_54, kI_w54, kI_55, kI_w55, kI_56, kI_w56, kI_57, kI_w57, kI_58, kI_w58, kI_59, kI_w59, kI_60, kI_w60, kI_61, kI_w61, and_self]
      refine hK _ _ (kJ.mk ⟨g1.to ?_ ?_ ?_ ?_, g2, ?ch, g4.to ?_ ?_ ?_ ?_ ?_ ?_ ?_ ?_, g5.to ?_ ?_ ?_ ?_ ?_ ?_ ?_ ?_ ?_ ?_, g6.to ?_ ?_ ?_ ?_ ?_ ?_, g7.to ?_ ?_ ?_ ?_ ?_ ?_ ?_ ?_ ?_ ?_ ?_ ?_ ?_, g8.day h2 h1.2, g9.to ?_ ?_, g10.to ?_ ?_⟩)
      case ch => unfold kC1 at g3 ⊢; simpa [mq_u2] using g3.2
      all_goals first | rfl | (simp [mq_u2]; done) | (funext _; simp [mq_u2]; done) | (intros; simp [mq_u2]; done) | (intros; (repeat rw [mj_u2_ne _ (by omega)]); done) | (intros; (repeat rw [mj_u2_ne _ (by decide)]); done) | (intros; have := g1.na12; simp [mq_u2]; intros; exfalso; omega) | (intro a ha; have := g1.na12; refine ⟨?_, ?_, ?_⟩ <;> simp [mq_u2] <;> (intros; exfalso; omega))
    · simp only [h1, h2, mq_tag, mq_len, mq_i, mq_r, mq_l, mq_nx, mq_wi, mq_wr, mq_wl, true_and, and_true, and_false, false_and, and_self, ↓reduceIte, kT_0, kT_1, kT_2, kT_3, kT_4, kT_5, kT_6, kT_7, kT_8, kT_9, kT_10, kT_11, kT_12, kT_13, kT_14, kT_15, kT_16, kT_17, kT_18, kT_19, kT_20, kT_21, kT_22, kT_23, kL_2, kL_3, kL_5, kL_10, kL_11, kL_12, kL_14, kL_15, kL_17, kL_18, kL_19, kL_20, kL_21, kL_22, kL_23, kW_0_0, kW_0_1, kW_0_2, kW_0_3, kW_0_4, kW_0_5, kW_0_6, kW_0_7, kW_1_4, kW_1_5, kW_4_0, kW_4_1, kW_9_0, kW_9_1, kW_9_2, kW_13_0, kW_13_1, kW_16_0, kW_16_1, kW_16_2, kW_16_3, kW_16_4, kW_16_5, kW_1_1, kW_1_2, kW_4_4, kW_8_0, kW_8_1, kW_w1_1, kW_w1_2, kW_w4_4, kW_w8_0, kW_w8_1, kI_0, kI_w0, kI_1, kI_w1, kI_2, kI_w2, kI_3, kI_w3, kI_4, kI_w4, kI_5, kI_w5, kI_6, kI_w6, kI_7, kI_w7, kI_8, kI_w8, kI_9, kI_w9, kI_10, kI_w10, kI_11, kI_w11, kI_12, kI_w12, kI_13, kI_w13, kI_14, kI_w14, kI_15, kI_w15, kI_16, kI_w16, kI_17, kI_w17, kI_18, kI_w18, kI_19, kI_w19, kI_20, kI_w20, kI_21, kI_w21, kI_22, kI_w22, kI_23, kI_w23, kT_24, kT_25, kT_26, kT_27, kT_28, kT_29, kT_30, kT_31, kT_32, kT_33, kT_34, kT_35, kT_36, kT_37, kT_38, kT_39, kT_40, kT_41, kT_42, kT_43, kT_44, kT_45, kT_46, kT_47, kT_48, kT_49, kT_50, kT_51, kT_52, kT_53, kT_54, kT_55, kT_56, kT_57, kT_58, kT_59, kT_60, kT_61, kL_25, kL_26, kL_27, kL_28, kL_29, kL_30, kL_31, kL_32, kL_33, kL_34, kL_35, kL_36, kL_37, kL_38, kL_39, kL_40, kL_41, kL_42, kL_43, kL_44, kL_45, kL_46, kL_47, kL_48, kL_49, kL_50, kL_51, kL_52, kL_53, kL_54, kL_55, kL_56, kL_57, kL_58, kL_59, kL_60, kL_61, kW_24_1, kW_24_2, kW_24_3, kW_24_4, kW_24_5, kW_24_6, kW_24_7, kW_24_8, kW_24_9, kW_24_10, kW_24_11, kW_24_12, kW_24_14, kW_24_15, kW_24_16, kW_24_17, kW_24_18, kW_24_19, kW_24_21, kW_24_22, kW_24_23, kW_24_25, kW_24_26, kW_24_27, kW_24_28, kW_24_29, kW_24_31, kW_24_32, kW_24_33, kW_24_34, kW_24_36, kW_24_37, kW_24_44, kW_24_49, kW_24_50, kW_24_51, kW_24_52, kI_24, kI_w24, kI_25, kI_w25, kI_26, kI_w26, kI_27, kI_w27, kI_28, kI_w28, kI_29, kI_w29, kI_30, kI_w30, kI_31, kI_w31, kI_32, kI_w32, kI_33, kI_w33, kI_34, kI_w34, kI_35, kI_w35, kI_36, kI_w36, kI_37, kI_w37, kI_38, kI_w38, kI_39, kI_w39, kI_40, kI_w40, kI_41, kI_w41, kI_42, kI_w42, kI_43, kI_w43, kI_44, kI_w44, kI_45, kI_w45, kI_46, kI_w46, kI_47, kI_w47, kI_48, kI_w48, kI_49, kI_w49, kI_50, kI_w50, kI_51, kI_w51, kI_52, kI_w52, kI_53, kI_w53, kI_54, kI_w54, kI_55, kI_w55, kI_56, kI_w56, kI_57, kI_w57, kI_58, kI_w58, kI_59, kI_w59, kI_60, kI_w60, kI_61, kI_w61, and_self, false_and]
      exact hK _ _ (kJ.mk hG)
  · have h2 : ¬ (s 0 0 ≤ a ∧ a ≤ 73000) := fun z => h1 ⟨by have := g8.1.1; rw [i_le] at this ⊢; have := i_le.mp z.1; omega, z.2⟩
    simp only [h1, h2, mq_tag, mq_len, mq_i, mq_r, mq_l, mq_nx, mq_wi, mq_wr, mq_wl, true_and, and_true, and_false, false_and, and_self, ↓reduceIte, kT_0, kT_1, kT_2, kT_3, kT_4, kT_5, kT_6, kT_7, kT_8, kT_9, kT_10, kT_11, kT_12, kT_13, kT_14, kT_15, kT_16, kT_17, kT_18, kT_19, kT_20, kT_21, kT_22, kT_23, kL_2, kL_3, kL_5, kL_10, kL_11, kL_12, kL_14, kL_15, kL_17, kL_18, kL_19, kL_20, kL_21, kL_22, kL_23, kW_0_0, kW_0_1, kW_0_2, kW_0_3, kW_0_4, kW_0_5, kW_0_6, kW_0_7, kW_1_4, kW_1_5, kW_4_0, kW_4_1, kW_9_0, kW_9_1, kW_9_2, kW_13_0, kW_13_1, kW_16_0, kW_16_1, kW_16_2, kW_16_3, kW_16_4, kW_16_5, kW_1_1, kW_1_2, kW_4_4, kW_8_0, kW_8_1, kW_w1_1, kW_w1_2, kW_w4_4, kW_w8_0, kW_w8_1, kI_0, kI_w0, kI_1, kI_w1, kI_2, kI_w2, kI_3, kI_w3, kI_4, kI_w4, kI_5, kI_w5, kI_6, kI_w6, kI_7, kI_w7, kI_8, kI_w8, kI_9, kI_w9, kI_10, kI_w10, kI_11, kI_w11, kI_12, kI_w12, kI_13, kI_w13, kI_14, kI_w14, kI_15, kI_w15, kI_16, kI_w16, kI_17, kI_w17, kI_18, kI_w18, kI_19, kI_w19, kI_20, kI_w20, kI_21, kI_w21, kI_22, kI_w22, kI_23, kI_w23, kT_24, kT_25, kT_26, kT_27, kT_28, kT_29, kT_30, kT_31, kT_32, kT_33, kT_34, kT_35, kT_36, kT_37, kT_38, kT_39, kT_40, kT_41, kT_42, kT_43, kT_44, kT_45, kT_46, kT_47, kT_48, kT_49, kT_50, kT_51, kT_52, kT_53, kT_54, kT_55, kT_56, kT_57, kT_58, kT_59, kT_60, kT_61, kL_25, kL_26, kL_27, kL_28, kL_29, kL_30, kL_31, kL_32, kL_33, kL_34, kL_35, kL_36, kL_37, kL_38, kL_39, kL_40, kL_41, kL_42, kL_43, kL_44, kL_45, kL_46, kL_47, kL_48, kL_49, kL_50, kL_51, kL_52, kL_53, kL_54, kL_55, kL_56, kL_57, kL_58, kL_59, kL_60, kL_61, kW_24_1, kW_24_2, kW_24_3, kW_24_4, kW_24_5, kW_24_6, kW_24_7, kW_24_8, kW_24_9, kW_24_10, kW_24_11, kW_24_12, kW_24_14, kW_24_15, kW_24_16, kW_24_17, kW_24_18, kW_24_19, kW_24_21, kW_24_22, kW_24_23, kW_24_25, kW_24_26, kW_24_27, kW_24_28, kW_24_29, kW_24_31, kW_24_32, kW_24_33, kW_24_34, kW_24_36, kW_24_37, kW_24_44, kW_24_49, kW_24_50, kW_24_51, kW_24_52, kI_24, kI_w24, kI_25, kI_w25, kI_26, kI_w26, kI_27, kI_w27, kI_28, kI_w28, kI_29, kI_w29, kI_30, kI_w30, kI_31, kI_w31, kI_32, kI_w32, kI_33, kI_w33, kI_34, kI_w34, kI_35, kI_w35, kI_36, kI_w36, kI_37, kI_w37, kI_38, kI_w38, kI_39, kI_w39, kI_40, kI_w40, kI_41, kI_w41, kI_42, kI_w42, kI_43, kI_w43, kI_44, kI_w44, kI_45, kI_w45, kI_46, kI_w46, kI_47, kI_w47, kI_48, kI_w48, kI_49, kI_w49, kI_50, kI_w50, kI_51, kI_w51, kI_52, kI_w52, kI_53, kI_w53, kI_54, kI_w54, kI_55, kI_w55, kI_56, kI_w56, kI_57, kI_w57, kI_58, kI_w58, kI_59, kI_w59, kI_60, kI_w60, kI_61, kI_w61]
    exact hK _ _ (kJ.mk hG)

/-! STAGE B: forfeits -/
theorem kHg_dead {e : Nat → Nat → Int32} {n o : Nat} {d : Int32} (h40 : n ≤ 40) (ho : o < n) (hout : ∀ h, h < n → e 1 h = -1 ∨ ∃ k, k < n ∧ e 1 h = nI k)
    (D : ∀ h, h < n → e 6 h ≠ 0 → d < kun e h → ∀ k, k < n → e 1 h = nI k → k ≠ o ∧ (d < kun e k → e 6 k ≠ 0)) : ∀ f h, h < n → kHg e (nI o) d f h = true → e 6 h = 0 ∧ d < kun e h
  | 0, h, _, hF => by cases hF
  | f + 1, h, hh, hF => by
    simp only [kHg, Bool.and_eq_true, Bool.or_eq_true, decide_eq_true_eq] at hF
    obtain ⟨h1, h2⟩ := hF
    refine ⟨?_, h1⟩
    by_cases h0 : e 6 h = 0
    · exact h0
    · exfalso
      rcases h2 with h2 | ⟨h2, h3⟩
      · exact (D h hh h0 h1 o ho h2).1 rfl
      · rcases hout h hh with z | ⟨k, hk, z⟩
        · rw [z] at h2; exact absurd h2 (by decide)
        · rw [z, ix_nat (by omega)] at h3
          obtain ⟨r1, r2⟩ := kHg_dead h40 ho hout D f k hk h3
          exact (D h hh h0 h1 k hk z).2 r2 r1
theorem fall_F1 {e : Nat → Nat → Int32} {n o : Nat} {d : Int32} {rk : Nat → Nat} (h40 : n ≤ 40) (ho : o < n) (hout : ∀ h, h < n → e 1 h = -1 ∨ ∃ k, k < n ∧ e 1 h = nI k) (R : ∀ h, h < n → rk h < n ∧ ∀ k, k < n → e 1 h = nI k → rk k < rk h)
    (D : ∀ h, h < n → e 6 h ≠ 0 → d < kun e h → ∀ k, k < n → e 1 h = nI k → k ≠ o ∧ (d < kun e k → e 6 k ≠ 0)) : ∀ h, h < n → (kHg e (nI o) d n h = true ↔ (e 6 h = 0 ∧ d < e 4 h ∧ ∃ k, k < n ∧ e 1 h = nI k ∧ (k = o ∨ kHg e (nI o) d n k = true))) := by
  intro h hh
  obtain ⟨n', rfl⟩ : ∃ n', n = n' + 1 := ⟨n - 1, by omega⟩
  have P : ∀ k, k < n' + 1 → e 1 h = nI k → kHg e (nI o) d n' k = kHg e (nI o) d (n' + 1) k := fun k hk z => kHg_fuel h40 hout R n' (n' + 1) k hk (by have := (R h hh).2 k hk z; have := (R h hh).1; omega) (R k hk).1
  constructor
  · intro hF
    obtain ⟨r1, r2⟩ := kHg_dead h40 ho hout D (n' + 1) h hh hF
    have r3 : kun e h = e 4 h := if_pos r1
    rw [r3] at r2
    refine ⟨r1, r2, ?_⟩
    simp only [kHg, Bool.and_eq_true, Bool.or_eq_true, decide_eq_true_eq] at hF
    rcases hF.2 with z | ⟨z1, z2⟩
    · exact ⟨o, ho, z, .inl rfl⟩
    · rcases hout h hh with z | ⟨k, hk, z⟩
      · rw [z] at z1; exact absurd z1 (by decide)
      · rw [z, ix_nat (by omega)] at z2
        exact ⟨k, hk, z, .inr (by rw [← P k hk z]; exact z2)⟩
  · rintro ⟨r1, r2, k, hk, z, z2⟩
    have r3 : kun e h = e 4 h := if_pos r1
    simp only [kHg, Bool.and_eq_true, Bool.or_eq_true, decide_eq_true_eq]
    refine ⟨by rw [r3]; exact r2, ?_⟩
    rcases z2 with z2 | z2
    · subst z2; exact .inl z
    · right
      rw [z, ix_nat (by omega), P k hk z]
      exact ⟨nI_pos' (by omega), z2⟩
section
variable {B : Nat} {M : mj_M} {K : Int32 → Int32 → mj_M → Prop}
theorem T_forfeit (h : kJ B M) (a : Int32) (hK : ∀ v M', kJ B M' → K v v M') : vc_X11_forfeit B a M (fun v M1 => mj_tag M1 (B + 24) = 13 ∧ vc_X12_forfeit (B + 24) a M1 (fun v' M2 => K v v' M2)) := by
  obtain ⟨A, AA, AT, AN, N, t, l, u, i, c, s, r, q, g, w, x, rfl, hG⟩ := h
  obtain ⟨g1, g2, g3, g4, g5, g6, g7, g8, g9, g10⟩ := id hG
  have h40 := hG.n40
  by_cases hv : 0 ≤ a ∧ a < nI (N 0)
  · obtain ⟨k, hk, rfl⟩ := ix_ofl (by omega) hv.1 hv.2
    have k1 : k < 2147483648 := by omega
    rcases hG.out hk with ho | ⟨ko, hko, ho⟩
    · have ho' : s 1 k < 0 := by rw [ho]; decide
      simp only [vc_X11_forfeit, vc_X12_forfeit, mq_tag, mq_len, mq_i, mq_r, mq_l, mq_nx, mq_wi, mq_wr, mq_wl, true_and, and_true, and_false, false_and, and_self, ↓reduceIte, kT_0, kT_1, kT_2, kT_3, kT_4, kT_5, kT_6, kT_7, kT_8, kT_9, kT_10, kT_11, kT_12, kT_13, kT_14, kT_15, kT_16, kT_17, kT_18, kT_19, kT_20, kT_21, kT_22, kT_23, kL_2, kL_3, kL_5, kL_10, kL_11, kL_12, kL_14, kL_15, kL_17, kL_18, kL_19, kL_20, kL_21, kL_22, kL_23, kW_0_0, kW_0_1, kW_0_2, kW_0_3, kW_0_4, kW_0_5, kW_0_6, kW_0_7, kW_1_4, kW_1_5, kW_4_0, kW_4_1, kW_9_0, kW_9_1, kW_9_2, kW_13_0, kW_13_1, kW_16_0, kW_16_1, kW_16_2, kW_16_3, kW_16_4, kW_16_5, kW_1_1, kW_1_2, kW_4_4, kW_8_0, kW_8_1, kW_w1_1, kW_w1_2, kW_w4_4, kW_w8_0, kW_w8_1, kI_0, kI_w0, kI_1, kI_w1, kI_2, kI_w2, kI_3, kI_w3, kI_4, kI_w4, kI_5, kI_w5, kI_6, kI_w6, kI_7, kI_w7, kI_8, kI_w8, kI_9, kI_w9, kI_10, kI_w10, kI_11, kI_w11, kI_12, kI_w12, kI_13, kI_w13, kI_14, kI_w14, kI_15, kI_w15, kI_16, kI_w16, kI_17, kI_w17, kI_18, kI_w18, kI_19, kI_w19, kI_20, kI_w20, kI_21, kI_w21, kI_22, kI_w22, kI_23, kI_w23, kT_24, kT_25, kT_26, kT_27, kT_28, kT_29, kT_30, kT_31, kT_32, kT_33, kT_34, kT_35, kT_36, kT_37, kT_38, kT_39, kT_40, kT_41, kT_42, kT_43, kT_44, kT_45, kT_46, kT_47, kT_48, kT_49, kT_50, kT_51, kT_52, kT_53, kT_54, kT_55, kT_56, kT_57, kT_58, kT_59, kT_60, kT_61, kL_25, kL_26, kL_27, kL_28, kL_29, kL_30, kL_31, kL_32, kL_33, kL_34, kL_35, kL_36, kL_37, kL_38, kL_39, kL_40, kL_41, kL_42, kL_43, kL_44, kL_45, kL_46, kL_47, kL_48, kL_49, kL_50, kL_51, kL_52, kL_53, kL_54, kL_55, kL_56, kL_57, kL_58, kL_59, kL_60, kL_61, kW_24_1, kW_24_2, kW_24_3, kW_24_4, kW_24_5, kW_24_6, kW_24_7, kW_24_8, kW_24_9, kW_24_10, kW_24_11, kW_24_12, kW_24_14, kW_24_15, kW_24_16, kW_24_17, kW_24_18, kW_24_19, kW_24_21, kW_24_22, kW_24_23, kW_24_25, kW_24_26, kW_24_27, kW_24_28, kW_24_29, kW_24_31, kW_24_32, kW_24_33, kW_24_34, kW_24_36, kW_24_37, kW_24_44, kW_24_49, kW_24_50, kW_24_51, kW_24_52, kI_24, kI_w24, kI_25, kI_w25, kI_26, kI_w26, kI_27, kI_w27, kI_28, kI_w28, kI_29, kI_w29, kI_30, kI_w30, kI_31, kI_w31, kI_32, kI_w32, kI_33, kI_w33, kI_34, kI_w34, kI_35, kI_w35, kI_36, kI_w36, kI_37, kI_w37, kI_38, kI_w38, kI_39, kI_w39, kI_40, kI_w40, kI_41, kI_w41, kI_42, kI_w42, kI_43, kI_w43, kI_44, kI_w44, kI_45, kI_w45, kI_46, kI_w46, kI_47, kI_w47, kI_48, kI_w48, kI_49, kI_w49, kI_50, kI_w50, kI_51, kI_w51, kI_52, kI_w52, kI_53, kI_w53, kI_54, kI_w54, kI_55, kI_w55, kI_56, kI_w56, kI_57, kI_w57, kI_58, kI_w58, kI_59, kI_w59, kI_60, kI_w60, kI_61, kI_w61, c_findL g1 g2 hk, ho', m_lease hG.hn h40 hk, true_or, or_true, false_or, or_false, not_true_eq_false, not_false_eq_true, true_and, and_true, false_and, and_false, and_self, decide_true, decide_false, ↓reduceIte, Bool.true_and, Bool.false_and, Bool.and_true, Bool.and_false, Bool.not_true, Bool.not_false, Bool.false_eq_true, Bool.true_or, Bool.or_true, Bool.false_or, Bool.or_false, reduceCtorEq, Bool.and_self, Bool.or_self, ne_eq]
      exact hK _ _ (kJ.mk hG)
    · have ho1 : ko < 2147483648 := by omega
      have ho' : ¬ s 1 k < 0 := by rw [ho]; exact nI_pos ho1
      have E : (s 11 k = -6) = (s 11 k < 0) := by
        rcases (hG.R1 hk).2.2.2.2.2.2.2.2.2.1 with z | z
        · rw [z]; simp
        · have z1 : ¬ s 11 k < 0 := fun y => by rw [i_lt] at y; have := i_le.mp z.1; omega
          have z2 : ¬ s 11 k = -6 := fun y => by rw [y] at z; exact absurd z.1 (by decide)
          simp only [z1, z2]
      rcases Bool.eq_false_or_eq_true (kon s k (s 0 0)) with hon | hon
      · by_cases hb : s 11 k < 0
        · simp only [vc_X11_forfeit, vc_X12_forfeit, mq_tag, mq_len, mq_i, mq_r, mq_l, mq_nx, mq_wi, mq_wr, mq_wl, true_and, and_true, and_false, false_and, and_self, ↓reduceIte, kT_0, kT_1, kT_2, kT_3, kT_4, kT_5, kT_6, kT_7, kT_8, kT_9, kT_10, kT_11, kT_12, kT_13, kT_14, kT_15, kT_16, kT_17, kT_18, kT_19, kT_20, kT_21, kT_22, kT_23, kL_2, kL_3, kL_5, kL_10, kL_11, kL_12, kL_14, kL_15, kL_17, kL_18, kL_19, kL_20, kL_21, kL_22, kL_23, kW_0_0, kW_0_1, kW_0_2, kW_0_3, kW_0_4, kW_0_5, kW_0_6, kW_0_7, kW_1_4, kW_1_5, kW_4_0, kW_4_1, kW_9_0, kW_9_1, kW_9_2, kW_13_0, kW_13_1, kW_16_0, kW_16_1, kW_16_2, kW_16_3, kW_16_4, kW_16_5, kW_1_1, kW_1_2, kW_4_4, kW_8_0, kW_8_1, kW_w1_1, kW_w1_2, kW_w4_4, kW_w8_0, kW_w8_1, kI_0, kI_w0, kI_1, kI_w1, kI_2, kI_w2, kI_3, kI_w3, kI_4, kI_w4, kI_5, kI_w5, kI_6, kI_w6, kI_7, kI_w7, kI_8, kI_w8, kI_9, kI_w9, kI_10, kI_w10, kI_11, kI_w11, kI_12, kI_w12, kI_13, kI_w13, kI_14, kI_w14, kI_15, kI_w15, kI_16, kI_w16, kI_17, kI_w17, kI_18, kI_w18, kI_19, kI_w19, kI_20, kI_w20, kI_21, kI_w21, kI_22, kI_w22, kI_23, kI_w23, kT_24, kT_25, kT_26, kT_27, kT_28, kT_29, kT_30, kT_31, kT_32, kT_33, kT_34, kT_35, kT_36, kT_37, kT_38, kT_39, kT_40, kT_41, kT_42, kT_43, kT_44, kT_45, kT_46, kT_47, kT_48, kT_49, kT_50, kT_51, kT_52, kT_53, kT_54, kT_55, kT_56, kT_57, kT_58, kT_59, kT_60, kT_61, kL_25, kL_26, kL_27, kL_28, kL_29, kL_30, kL_31, kL_32, kL_33, kL_34, kL_35, kL_36, kL_37, kL_38, kL_39, kL_40, kL_41, kL_42, kL_43, kL_44, kL_45, kL_46, kL_47, kL_48, kL_49, kL_50, kL_51, kL_52, kL_53, kL_54, kL_55, kL_56, kL_57, kL_58, kL_59, kL_60, kL_61, kW_24_1, kW_24_2, kW_24_3, kW_24_4, kW_24_5, kW_24_6, kW_24_7, kW_24_8, kW_24_9, kW_24_10, kW_24_11, kW_24_12, kW_24_14, kW_24_15, kW_24_16, kW_24_17, kW_24_18, kW_24_19, kW_24_21, kW_24_22, kW_24_23, kW_24_25, kW_24_26, kW_24_27, kW_24_28, kW_24_29, kW_24_31, kW_24_32, kW_24_33, kW_24_34, kW_24_36, kW_24_37, kW_24_44, kW_24_49, kW_24_50, kW_24_51, kW_24_52, kI_24, kI_w24, kI_25, kI_w25, kI_26, kI_w26, kI_27, kI_w27, kI_28, kI_w28, kI_29, kI_w29, kI_30, kI_w30, kI_31, kI_w31, kI_32, kI_w32, kI_33, kI_w33, kI_34, kI_w34, kI_35, kI_w35, kI_36, kI_w36, kI_37, kI_w37, kI_38, kI_w38, kI_39, kI_w39, kI_40, kI_w40, kI_41, kI_w41, kI_42, kI_w42, kI_43, kI_w43, kI_44, kI_w44, kI_45, kI_w45, kI_46, kI_w46, kI_47, kI_w47, kI_48, kI_w48, kI_49, kI_w49, kI_50, kI_w50, kI_51, kI_w51, kI_52, kI_w52, kI_53, kI_w53, kI_54, kI_w54, kI_55, kI_w55, kI_56, kI_w56, kI_57, kI_w57, kI_58, kI_w58, kI_59, kI_w59, kI_60, kI_w60, kI_61, kI_w61, c_findL g1 g2 hk, ho', m_lease hG.hn h40 hk, g1.atT hk, g1.atI hk, c_on g1 hk, hG.hd, m_isOn (show k < 40 by omega) (hG.hw k hk), hon, ix_in k1, ix_nat k1, show k < 40 by omega, E, hb, true_or, or_true, false_or, or_false, not_true_eq_false, not_false_eq_true, true_and, and_true, false_and, and_false, and_self, decide_true, decide_false, ↓reduceIte, Bool.true_and, Bool.false_and, Bool.and_true, Bool.and_false, Bool.not_true, Bool.not_false, Bool.false_eq_true, Bool.true_or, Bool.or_true, Bool.false_or, Bool.or_false, reduceCtorEq, Bool.and_self, Bool.or_self, ne_eq]
          exact hK _ _ (kJ.mk hG)
        · by_cases hd : 30 ≤ s 0 0 - s 11 k
          · obtain ⟨u1, u2, u3, u4, u5, u6⟩ := g8.up hk hko ho hon
            have im : imx (s 0 0) (s 3 k) = s 0 0 := by
              rcases imx_or (s 0 0) (s 3 k) with ⟨z, _⟩ | ⟨_, z⟩
              · exact z
              · rw [i_lt] at z; rw [i_le] at u2; omega
            obtain ⟨rk, R⟩ := hG.rk
            have H1 := g1.close hk 2 (s 0 0)
            have e1 : mj_u2 (mj_u2 s 6 k 2) 5 k (s 0 0) 1 = s 1 := by rw [mj_u2_ne _ (by decide), mj_u2_ne _ (by decide)]
            have e4 : mj_u2 (mj_u2 s 6 k 2) 5 k (s 0 0) 4 = s 4 := by rw [mj_u2_ne _ (by decide), mj_u2_ne _ (by decide)]
            have e3 : mj_u2 (mj_u2 s 6 k 2) 5 k (s 0 0) 3 = s 3 := by rw [mj_u2_ne _ (by decide), mj_u2_ne _ (by decide)]
            have e0 : mj_u2 (mj_u2 s 6 k 2) 5 k (s 0 0) 0 = s 0 := by rw [mj_u2_ne _ (by decide), mj_u2_ne _ (by decide)]
            have e6 : ∀ h, h ≠ k → mj_u2 (mj_u2 s 6 k 2) 5 k (s 0 0) 6 h = s 6 h := fun h hh => by rw [mq_u2n (by decide), mq_u2k hh]
            have e6k : mj_u2 (mj_u2 s 6 k 2) 5 k (s 0 0) 6 k = 2 := by rw [mq_u2n (by decide), mq_u2s]
            have eu : kun (mj_u2 (mj_u2 s 6 k 2) 5 k (s 0 0)) k = s 0 0 := by
              unfold kun; rw [e6k, if_neg (by decide), mq_u2s]
            have R1 : ∀ h, h < N 0 → rk h < N 0 ∧ ∀ k', k' < N 0 → mj_u2 (mj_u2 s 6 k 2) 5 k (s 0 0) 1 h = nI k' → rk k' < rk h := by rw [e1]; exact R
            have O1 : ∀ h, h < N 0 → mj_u2 (mj_u2 s 6 k 2) 5 k (s 0 0) 1 h = -1 ∨ ∃ k', k' < N 0 ∧ mj_u2 (mj_u2 s 6 k 2) 5 k (s 0 0) 1 h = nI k' := by rw [e1]; exact fun h hh => hG.out hh
            have D : ∀ h, h < N 0 → mj_u2 (mj_u2 s 6 k 2) 5 k (s 0 0) 6 h ≠ 0 → s 0 0 < kun (mj_u2 (mj_u2 s 6 k 2) 5 k (s 0 0)) h → ∀ k', k' < N 0 → mj_u2 (mj_u2 s 6 k 2) 5 k (s 0 0) 1 h = nI k' → k' ≠ k ∧ (s 0 0 < kun (mj_u2 (mj_u2 s 6 k 2) 5 k (s 0 0)) k' → mj_u2 (mj_u2 s 6 k 2) 5 k (s 0 0) 6 k' ≠ 0) := by
              intro h hh d1 d2 k' hk' d3
              by_cases eh : h = k
              · subst eh; rw [eu] at d2; exact absurd d2 (Int32.lt_irrefl)
              · rw [e6 h eh] at d1
                rw [kun_cl eh] at d2
                rw [e1] at d3
                have w6 : ∀ k'', k'' < N 0 → s 1 h = nI k'' → s 6 k'' ≠ 0 := fun k'' hk'' d3 hz => by
                  have := (g8.child hh hk'' d3 hz d2).1
                  exact d1 this
                have kk : k' ≠ k := fun z => by subst z; exact w6 _ hk d3 u1
                exact ⟨kk, fun _ => by rw [e6 k' kk]; exact w6 k' hk' d3⟩
            have F1 := fall_F1 h40 hk O1 R1 D
            generalize hF : (fun h => decide (h < N 0) && kHg (mj_u2 (mj_u2 s 6 k 2) 5 k (s 0 0)) (nI k) (s 0 0) (N 0) h) = F
            have hFv : ∀ h, h < N 0 → F h = kHg (mj_u2 (mj_u2 s 6 k 2) 5 k (s 0 0)) (nI k) (s 0 0) (N 0) h := fun h hh => by rw [← hF]; simp only [hh, decide_true, Bool.true_and]
            have F2 : ∀ h, N 0 ≤ h → F h = false := fun h hh => by rw [← hF]; simp only [show ¬ h < N 0 by omega, decide_false, Bool.false_and]
            have F1' : ∀ h, h < N 0 → (F h = true ↔ (mj_u2 (mj_u2 s 6 k 2) 5 k (s 0 0) 6 h = 0 ∧ mj_u2 (mj_u2 s 6 k 2) 5 k (s 0 0) 0 0 < mj_u2 (mj_u2 s 6 k 2) 5 k (s 0 0) 4 h ∧ ∃ j, j < N 0 ∧ mj_u2 (mj_u2 s 6 k 2) 5 k (s 0 0) 1 h = nI j ∧ (j = k ∨ F j = true))) := by
              intro h hh
              rw [hFv h hh, F1 h hh, e0]
              constructor
              · rintro ⟨a1, a2, j, hj, a3, a4⟩; exact ⟨a1, a2, j, hj, a3, by rw [hFv j hj]; exact a4⟩
              · rintro ⟨a1, a2, j, hj, a3, a4⟩; exact ⟨a1, a2, j, hj, a3, by rw [hFv j hj] at a4; exact a4⟩
            have hFk : F k = false := by
              cases z : F k with
              | false => rfl
              | true => have := ((F1' k hk).mp z).1; rw [e6k] at this; exact absurd this (by decide)
            simp only [vc_X11_forfeit, mq_tag, mq_len, mq_i, mq_r, mq_l, mq_nx, mq_wi, mq_wr, mq_wl, true_and, and_true, and_false, false_and, and_self, ↓reduceIte, kT_0, kT_1, kT_2, kT_3, kT_4, kT_5, kT_6, kT_7, kT_8, kT_9, kT_10, kT_11, kT_12, kT_13, kT_14, kT_15, kT_16, kT_17, kT_18, kT_19, kT_20, kT_21, kT_22, kT_23, kL_2, kL_3, kL_5, kL_10, kL_11, kL_12, kL_14, kL_15, kL_17, kL_18, kL_19, kL_20, kL_21, kL_22, kL_23, kW_0_0, kW_0_1, kW_0_2, kW_0_3, kW_0_4, kW_0_5, kW_0_6, kW_0_7, kW_1_4, kW_1_5, kW_4_0, kW_4_1, kW_9_0, kW_9_1, kW_9_2, kW_13_0, kW_13_1, kW_16_0, kW_16_1, kW_16_2, kW_16_3, kW_16_4, kW_16_5, kW_1_1, kW_1_2, kW_4_4, kW_8_0, kW_8_1, kW_w1_1, kW_w1_2, kW_w4_4, kW_w8_0, kW_w8_1, kI_0, kI_w0, kI_1, kI_w1, kI_2, kI_w2, kI_3, kI_w3, kI_4, kI_w4, kI_5, kI_w5, kI_6, kI_w6, kI_7, kI_w7, kI_8, kI_w8, kI_9, kI_w9, kI_10, kI_w10, kI_11, kI_w11, kI_12, kI_w12, kI_13, kI_w13, kI_14, kI_w14, kI_15, kI_w15, kI_16, kI_w16, kI_17, kI_w17, kI_18, kI_w18, kI_19, kI_w19, kI_20, kI_w20, kI_21, kI_w21, kI_22, kI_w22, kI_23, kI_w23, c_findL g1 g2 hk, ho', g1.atT hk, g1.atI hk, c_on g1 hk, hG.hd, hon, E, hb, hd, c_close g1 hk, im, true_or, or_true, false_or, or_false, not_true_eq_false, not_false_eq_true, true_and, and_true, false_and, and_false, and_self, decide_true, decide_false, ↓reduceIte, Bool.true_and, Bool.false_and, Bool.and_true, Bool.and_false, Bool.not_true, Bool.not_false, Bool.false_eq_true, Bool.true_or, Bool.or_true, Bool.false_or, Bool.or_false, reduceCtorEq, Bool.and_self, Bool.or_self, ne_eq]
            refine c_letFall (c := c) (s := s) (q := q) (g := g) (w := w) H1 g2 R1 hk (v := nI k) (kR_I k1).symm (kV_I hk) fun i' r' H2 => ?_
            rw [hG.hd] at H2 ⊢
            have ec : kCnt (fun h => kHg (mj_u2 (mj_u2 s 6 k 2) 5 k (s 0 0)) (nI k) (s 0 0) (N 0) h) (N 0) 0 0 = nI (kNm F (N 0) 0) := by
              rw [kCnt_c (cond := F) (fun h _ hh => (hFv h (by omega)).symm), ← nI_0, kCnt_n, Nat.zero_add]
            rw [ec]
            refine ⟨kT_24, ?_⟩
            simp only [vc_X12_forfeit, mq_tag, mq_len, mq_i, mq_r, mq_l, mq_nx, mq_wi, mq_wr, mq_wl, true_and, and_true, and_false, false_and, and_self, ↓reduceIte, kT_24, kT_25, kT_26, kT_27, kT_28, kT_29, kT_30, kT_31, kT_32, kT_33, kT_34, kT_35, kT_36, kT_37, kT_38, kT_39, kT_40, kT_41, kT_42, kT_43, kT_44, kT_45, kT_46, kT_47, kT_48, kT_49, kT_50, kT_51, kT_52, kT_53, kT_54, kT_55, kT_56, kT_57, kT_58, kT_59, kT_60, kT_61, kL_25, kL_26, kL_27, kL_28, kL_29, kL_30, kL_31, kL_32, kL_33, kL_34, kL_35, kL_36, kL_37, kL_38, kL_39, kL_40, kL_41, kL_42, kL_43, kL_44, kL_45, kL_46, kL_47, kL_48, kL_49, kL_50, kL_51, kL_52, kL_53, kL_54, kL_55, kL_56, kL_57, kL_58, kL_59, kL_60, kL_61, kW_24_1, kW_24_2, kW_24_3, kW_24_4, kW_24_5, kW_24_6, kW_24_7, kW_24_8, kW_24_9, kW_24_10, kW_24_11, kW_24_12, kW_24_14, kW_24_15, kW_24_16, kW_24_17, kW_24_18, kW_24_19, kW_24_21, kW_24_22, kW_24_23, kW_24_25, kW_24_26, kW_24_27, kW_24_28, kW_24_29, kW_24_31, kW_24_32, kW_24_33, kW_24_34, kW_24_36, kW_24_37, kW_24_44, kW_24_49, kW_24_50, kW_24_51, kW_24_52, kI_24, kI_w24, kI_25, kI_w25, kI_26, kI_w26, kI_27, kI_w27, kI_28, kI_w28, kI_29, kI_w29, kI_30, kI_w30, kI_31, kI_w31, kI_32, kI_w32, kI_33, kI_w33, kI_34, kI_w34, kI_35, kI_w35, kI_36, kI_w36, kI_37, kI_w37, kI_38, kI_w38, kI_39, kI_w39, kI_40, kI_w40, kI_41, kI_w41, kI_42, kI_w42, kI_43, kI_w43, kI_44, kI_w44, kI_45, kI_w45, kI_46, kI_w46, kI_47, kI_w47, kI_48, kI_w48, kI_49, kI_w49, kI_50, kI_w50, kI_51, kI_w51, kI_52, kI_w52, kI_53, kI_w53, kI_54, kI_w54, kI_55, kI_w55, kI_56, kI_w56, kI_57, kI_w57, kI_58, kI_w58, kI_59, kI_w59, kI_60, kI_w60, kI_61, kI_w61, m_lease hG.hn h40 hk, ho', m_isOn (show k < 40 by omega) (hG.hw k hk), hon, ix_in k1, ix_nat k1, show k < 40 by omega, hb, hd, m_close (show k < 40 by omega), true_or, or_true, false_or, or_false, not_true_eq_false, not_false_eq_true, true_and, and_true, false_and, and_false, and_self, decide_true, decide_false, ↓reduceIte, Bool.true_and, Bool.false_and, Bool.and_true, Bool.and_false, Bool.not_true, Bool.not_false, Bool.false_eq_true, Bool.true_or, Bool.or_true, Bool.false_or, Bool.or_false, reduceCtorEq, Bool.and_self, Bool.or_self, ne_eq]
            rw [m_fallAll (by rw [e0]; exact hG.hn) h40 hk O1 F1' F2 R1]
            have eK : ∀ j, 1 ≤ j → j ≤ 12 → kFs (mj_u2 (mj_u2 s 6 k 2) 5 k (s 0 0)) F (nI k) j = kCut s (fun h => decide (h = k)) F (fun _ => 2) (nI k) j := by
              intro j j1 j2
              funext h
              unfold kFs kCut
              rw [if_neg (by omega), e0, e3]
              by_cases eh : h = k
              · subst eh
                simp only [hFk, decide_true, Bool.false_eq_true, ↓reduceIte]
                by_cases j6 : j = 6
                · subst j6; rw [e6k]; rfl
                · by_cases j5 : j = 5
                  · subst j5; rw [mq_u2s]; rfl
                  · by_cases j12 : j = 12
                    · subst j12; rw [mq_u2n (by decide), mq_u2n (by decide)]; rfl
                    · rw [mq_u2n j5, mq_u2n j6]; simp only [j6, j5, j12, ↓reduceIte]
              · simp only [eh, decide_false, Bool.false_eq_true, ↓reduceIte]
                rw [mq_u2k eh, mq_u2k eh]
                cases F h <;> simp only [Bool.false_eq_true, ↓reduceIte]
                by_cases j6 : j = 6
                · simp only [j6, ↓reduceIte]
                · by_cases j5 : j = 5
                  · simp only [j5, ↓reduceIte]; rfl
                  · by_cases j12 : j = 12
                    · simp only [j12, ↓reduceIte]; rfl
                    · simp only [j6, j5, j12, ↓reduceIte]
            have S := g8.cut (Rt := fun h => decide (h = k)) (F := F) (w := fun _ => 2) (v := nI k) h40
              (fun h hh e => by
                simp only [decide_eq_true_eq] at e; subst e
                exact ⟨hFk, u1, u2, by rw [ho, ne_eq, ix_m1 ho1]; exact id, by decide, by decide, by decide⟩)
              (fun h hh e => by
                have eh : h ≠ k := fun z => by rw [z, hFk] at e; cases e
                obtain ⟨a1, a2, j, hj, a3, a4⟩ := (F1' h hh).mp e
                rw [e6 h eh] at a1
                rw [e1] at a3
                refine ⟨a1, j, hj, a3, ?_⟩
                rcases a4 with a4 | a4
                · right; simp only [decide_eq_true_eq]; exact ⟨a4, .inr ⟨by rw [a4], trivial⟩⟩
                · exact .inl a4)
              (fun h j hh hj a1 a2 a3 a4 => by
                simp only [decide_eq_true_eq] at a4 ⊢
                by_cases eh : h = k
                · exact .inl eh
                · right
                  refine (F1' h hh).mpr ⟨by rw [e6 h eh]; exact a2, by rw [e0, e4]; exact a3, j, hj, by rw [e1]; exact a1, a4⟩)
              (.inr ⟨k, hk, rfl⟩)
            have z0 : kFs (mj_u2 (mj_u2 s 6 k 2) 5 k (s 0 0)) F (nI k) 0 = s 0 := by rw [kFs_o (by decide) (by decide) (by decide) (by decide), e0]
            have zo : ∀ j, 13 ≤ j → j ≠ 31 → kFs (mj_u2 (mj_u2 s 6 k 2) 5 k (s 0 0)) F (nI k) j = s j := fun j j1 j2 => by rw [kFs_o (by omega) (by omega) (by omega) j2, mj_u2_ne _ (by omega), mj_u2_ne _ (by omega)]
            have z1 : kFs (mj_u2 (mj_u2 s 6 k 2) 5 k (s 0 0)) F (nI k) 1 = s 1 := by rw [kFs_o (by decide) (by decide) (by decide) (by decide), e1]
            refine hK _ _ (kJ.mk ⟨H2.to ?_ ?_ ?_ ?_, g2, g3.to rfl rfl rfl rfl ?_ ?_ ?_ ?_, g4.to rfl rfl rfl rfl ?_ ?_ ?_ ?_, g5.to rfl rfl rfl rfl ?_ ?_ ?_ ?_ ?_ ?_, g6.to rfl rfl rfl ?_ ?_ ?_, g7.to rfl rfl rfl rfl rfl rfl rfl rfl ?_ ?_ ?_ ?_ ?_, S.to (by rw [z0]; rfl) eK, g9.to ?_ ?_, g10.to (fun h _ => by rw [z1]; exact id) ?_⟩)
            · intro j j1 j2 h hh
              unfold kFs kFa
              rw [if_neg (by omega), e0]
              simp only [← hFv h hh]
              by_cases z : F h = true
              · have y : 0 ≤ h ∧ h < 0 + N 0 ∧ F h = true := ⟨by omega, by omega, z⟩
                rw [if_pos z, if_pos y]
              · rw [if_neg z, if_neg (fun y => z y.2.2)]
            all_goals first
              | (rw [z0]; done) | (rw [zo _ (by decide) (by decide)]; done) | (exact zo _ (by decide) (by decide)) | (intros; rw [zo _ (by decide) (by decide)]; done)
              | (intros; rw [zo 17 (by decide) (by decide), zo 18 (by decide) (by decide), zo 19 (by decide) (by decide)]; exact ⟨rfl, rfl, rfl⟩)
              | (intro j j1 j2; rw [zo j (by omega) (by omega)]; done)
              | (intro j j1 j2 h hh; rw [zo j (by omega) (by omega)]; unfold kFa; rw [show mj_u2 (mj_u2 s 6 k 2) 5 k (s 0 0) j = s j by rw [mj_u2_ne _ (by omega), mj_u2_ne _ (by omega)]]; split <;> simp only [show j ≠ 6 by omega, show j ≠ 5 by omega, show j ≠ 12 by omega, ↓reduceIte])
              | (intro h hh; rw [zo _ (by omega) (by omega)]; unfold kFa; rw [show mj_u2 (mj_u2 s 6 k 2) 5 k (s 0 0) 16 = s 16 by rw [mj_u2_ne _ (by omega), mj_u2_ne _ (by omega)]]; split <;> simp only [Nat.reduceEqDiff, ↓reduceIte])
          · simp only [vc_X11_forfeit, vc_X12_forfeit, mq_tag, mq_len, mq_i, mq_r, mq_l, mq_nx, mq_wi, mq_wr, mq_wl, true_and, and_true, and_false, false_and, and_self, ↓reduceIte, kT_0, kT_1, kT_2, kT_3, kT_4, kT_5, kT_6, kT_7, kT_8, kT_9, kT_10, kT_11, kT_12, kT_13, kT_14, kT_15, kT_16, kT_17, kT_18, kT_19, kT_20, kT_21, kT_22, kT_23, kL_2, kL_3, kL_5, kL_10, kL_11, kL_12, kL_14, kL_15, kL_17, kL_18, kL_19, kL_20, kL_21, kL_22, kL_23, kW_0_0, kW_0_1, kW_0_2, kW_0_3, kW_0_4, kW_0_5, kW_0_6, kW_0_7, kW_1_4, kW_1_5, kW_4_0, kW_4_1, kW_9_0, kW_9_1, kW_9_2, kW_13_0, kW_13_1, kW_16_0, kW_16_1, kW_16_2, kW_16_3, kW_16_4, kW_16_5, kW_1_1, kW_1_2, kW_4_4, kW_8_0, kW_8_1, kW_w1_1, kW_w1_2, kW_w4_4, kW_w8_0, kW_w8_1, kI_0, kI_w0, kI_1, kI_w1, kI_2, kI_w2, kI_3, kI_w3, kI_4, kI_w4, kI_5, kI_w5, kI_6, kI_w6, kI_7, kI_w7, kI_8, kI_w8, kI_9, kI_w9, kI_10, kI_w10, kI_11, kI_w11, kI_12, kI_w12, kI_13, kI_w13, kI_14, kI_w14, kI_15, kI_w15, kI_16, kI_w16, kI_17, kI_w17, kI_18, kI_w18, kI_19, kI_w19, kI_20, kI_w20, kI_21, kI_w21, kI_22, kI_w22, kI_23, kI_w23, kT_24, kT_25, kT_26, kT_27, kT_28, kT_29, kT_30, kT_31, kT_32, kT_33, kT_34, kT_35, kT_36, kT_37, kT_38, kT_39, kT_40, kT_41, kT_42, kT_43, kT_44, kT_45, kT_46, kT_47, kT_48, kT_49, kT_50, kT_51, kT_52, kT_53, kT_54, kT_55, kT_56, kT_57, kT_58, kT_59, kT_60, kT_61, kL_25, kL_26, kL_27, kL_28, kL_29, kL_30, kL_31, kL_32, kL_33, kL_34, kL_35, kL_36, kL_37, kL_38, kL_39, kL_40, kL_41, kL_42, kL_43, kL_44, kL_45, kL_46, kL_47, kL_48, kL_49, kL_50, kL_51, kL_52, kL_53, kL_54, kL_55, kL_56, kL_57, kL_58, kL_59, kL_60, kL_61, kW_24_1, kW_24_2, kW_24_3, kW_24_4, kW_24_5, kW_24_6, kW_24_7, kW_24_8, kW_24_9, kW_24_10, kW_24_11, kW_24_12, kW_24_14, kW_24_15, kW_24_16, kW_24_17, kW_24_18, kW_24_19, kW_24_21, kW_24_22, kW_24_23, kW_24_25, kW_24_26, kW_24_27, kW_24_28, kW_24_29, kW_24_31, kW_24_32, kW_24_33, kW_24_34, kW_24_36, kW_24_37, kW_24_44, kW_24_49, kW_24_50, kW_24_51, kW_24_52, kI_24, kI_w24, kI_25, kI_w25, kI_26, kI_w26, kI_27, kI_w27, kI_28, kI_w28, kI_29, kI_w29, kI_30, kI_w30, kI_31, kI_w31, kI_32, kI_w32, kI_33, kI_w33, kI_34, kI_w34, kI_35, kI_w35, kI_36, kI_w36, kI_37, kI_w37, kI_38, kI_w38, kI_39, kI_w39, kI_40, kI_w40, kI_41, kI_w41, kI_42, kI_w42, kI_43, kI_w43, kI_44, kI_w44, kI_45, kI_w45, kI_46, kI_w46, kI_47, kI_w47, kI_48, kI_w48, kI_49, kI_w49, kI_50, kI_w50, kI_51, kI_w51, kI_52, kI_w52, kI_53, kI_w53, kI_54, kI_w54, kI_55, kI_w55, kI_56, kI_w56, kI_57, kI_w57, kI_58, kI_w58, kI_59, kI_w59, kI_60, kI_w60, kI_61, kI_w61, c_findL g1 g2 hk, ho', m_lease hG.hn h40 hk, g1.atT hk, g1.atI hk, c_on g1 hk, hG.hd, m_isOn (show k < 40 by omega) (hG.hw k hk), hon, ix_in k1, ix_nat k1, show k < 40 by omega, E, hb, hd, true_or, or_true, false_or, or_false, not_true_eq_false, not_false_eq_true, true_and, and_true, false_and, and_false, and_self, decide_true, decide_false, ↓reduceIte, Bool.true_and, Bool.false_and, Bool.and_true, Bool.and_false, Bool.not_true, Bool.not_false, Bool.false_eq_true, Bool.true_or, Bool.or_true, Bool.false_or, Bool.or_false, reduceCtorEq, Bool.and_self, Bool.or_self, ne_eq]
            exact hK _ _ (kJ.mk hG)
      · simp only [vc_X11_forfeit, vc_X12_forfeit, mq_tag, mq_len, mq_i, mq_r, mq_l, mq_nx, mq_wi, mq_wr, mq_wl, true_and, and_true, and_false, false_and, and_self, ↓reduceIte, kT_0, kT_1, kT_2, kT_3, kT_4, kT_5, kT_6, kT_7, kT_8, kT_9, kT_10, kT_11, kT_12, kT_13, kT_14, kT_15, kT_16, kT_17, kT_18, kT_19, kT_20, kT_21, kT_22, kT_23, kL_2, kL_3, kL_5, kL_10, kL_11, kL_12, kL_14, kL_15, kL_17, kL_18, kL_19, kL_20, kL_21, kL_22, kL_23, kW_0_0, kW_0_1, kW_0_2, kW_0_3, kW_0_4, kW_0_5, kW_0_6, kW_0_7, kW_1_4, kW_1_5, kW_4_0, kW_4_1, kW_9_0, kW_9_1, kW_9_2, kW_13_0, kW_13_1, kW_16_0, kW_16_1, kW_16_2, kW_16_3, kW_16_4, kW_16_5, kW_1_1, kW_1_2, kW_4_4, kW_8_0, kW_8_1, kW_w1_1, kW_w1_2, kW_w4_4, kW_w8_0, kW_w8_1, kI_0, kI_w0, kI_1, kI_w1, kI_2, kI_w2, kI_3, kI_w3, kI_4, kI_w4, kI_5, kI_w5, kI_6, kI_w6, kI_7, kI_w7, kI_8, kI_w8, kI_9, kI_w9, kI_10, kI_w10, kI_11, kI_w11, kI_12, kI_w12, kI_13, kI_w13, kI_14, kI_w14, kI_15, kI_w15, kI_16, kI_w16, kI_17, kI_w17, kI_18, kI_w18, kI_19, kI_w19, kI_20, kI_w20, kI_21, kI_w21, kI_22, kI_w22, kI_23, kI_w23, kT_24, kT_25, kT_26, kT_27, kT_28, kT_29, kT_30, kT_31, kT_32, kT_33, kT_34, kT_35, kT_36, kT_37, kT_38, kT_39, kT_40, kT_41, kT_42, kT_43, kT_44, kT_45, kT_46, kT_47, kT_48, kT_49, kT_50, kT_51, kT_52, kT_53, kT_54, kT_55, kT_56, kT_57, kT_58, kT_59, kT_60, kT_61, kL_25, kL_26, kL_27, kL_28, kL_29, kL_30, kL_31, kL_32, kL_33, kL_34, kL_35, kL_36, kL_37, kL_38, kL_39, kL_40, kL_41, kL_42, kL_43, kL_44, kL_45, kL_46, kL_47, kL_48, kL_49, kL_50, kL_51, kL_52, kL_53, kL_54, kL_55, kL_56, kL_57, kL_58, kL_59, kL_60, kL_61, kW_24_1, kW_24_2, kW_24_3, kW_24_4, kW_24_5, kW_24_6, kW_24_7, kW_24_8, kW_24_9, kW_24_10, kW_24_11, kW_24_12, kW_24_14, kW_24_15, kW_24_16, kW_24_17, kW_24_18, kW_24_19, kW_24_21, kW_24_22, kW_24_23, kW_24_25, kW_24_26, kW_24_27, kW_24_28, kW_24_29, kW_24_31, kW_24_32, kW_24_33, kW_24_34, kW_24_36, kW_24_37, kW_24_44, kW_24_49, kW_24_50, kW_24_51, kW_24_52, kI_24, kI_w24, kI_25, kI_w25, kI_26, kI_w26, kI_27, kI_w27, kI_28, kI_w28, kI_29, kI_w29, kI_30, kI_w30, kI_31, kI_w31, kI_32, kI_w32, kI_33, kI_w33, kI_34, kI_w34, kI_35, kI_w35, kI_36, kI_w36, kI_37, kI_w37, kI_38, kI_w38, kI_39, kI_w39, kI_40, kI_w40, kI_41, kI_w41, kI_42, kI_w42, kI_43, kI_w43, kI_44, kI_w44, kI_45, kI_w45, kI_46, kI_w46, kI_47, kI_w47, kI_48, kI_w48, kI_49, kI_w49, kI_50, kI_w50, kI_51, kI_w51, kI_52, kI_w52, kI_53, kI_w53, kI_54, kI_w54, kI_55, kI_w55, kI_56, kI_w56, kI_57, kI_w57, kI_58, kI_w58, kI_59, kI_w59, kI_60, kI_w60, kI_61, kI_w61, c_findL g1 g2 hk, ho', m_lease hG.hn h40 hk, g1.atT hk, c_on g1 hk, hG.hd, m_isOn (show k < 40 by omega) (hG.hw k hk), hon, true_or, or_true, false_or, or_false, not_true_eq_false, not_false_eq_true, true_and, and_true, false_and, and_false, and_self, decide_true, decide_false, ↓reduceIte, Bool.true_and, Bool.false_and, Bool.and_true, Bool.and_false, Bool.not_true, Bool.not_false, Bool.false_eq_true, Bool.true_or, Bool.or_true, Bool.false_or, Bool.or_false, reduceCtorEq, Bool.and_self, Bool.or_self, ne_eq]
        exact hK _ _ (kJ.mk hG)
  · simp only [vc_X11_forfeit, vc_X12_forfeit, mq_tag, mq_len, mq_i, mq_r, mq_l, mq_nx, mq_wi, mq_wr, mq_wl, true_and, and_true, and_false, false_and, and_self, ↓reduceIte, kT_0, kT_1, kT_2, kT_3, kT_4, kT_5, kT_6, kT_7, kT_8, kT_9, kT_10, kT_11, kT_12, kT_13, kT_14, kT_15, kT_16, kT_17, kT_18, kT_19, kT_20, kT_21, kT_22, kT_23, kL_2, kL_3, kL_5, kL_10, kL_11, kL_12, kL_14, kL_15, kL_17, kL_18, kL_19, kL_20, kL_21, kL_22, kL_23, kW_0_0, kW_0_1, kW_0_2, kW_0_3, kW_0_4, kW_0_5, kW_0_6, kW_0_7, kW_1_4, kW_1_5, kW_4_0, kW_4_1, kW_9_0, kW_9_1, kW_9_2, kW_13_0, kW_13_1, kW_16_0, kW_16_1, kW_16_2, kW_16_3, kW_16_4, kW_16_5, kW_1_1, kW_1_2, kW_4_4, kW_8_0, kW_8_1, kW_w1_1, kW_w1_2, kW_w4_4, kW_w8_0, kW_w8_1, kI_0, kI_w0, kI_1, kI_w1, kI_2, kI_w2, kI_3, kI_w3, kI_4, kI_w4, kI_5, kI_w5, kI_6, kI_w6, kI_7, kI_w7, kI_8, kI_w8, kI_9, kI_w9, kI_10, kI_w10, kI_11, kI_w11, kI_12, kI_w12, kI_13, kI_w13, kI_14, kI_w14, kI_15, kI_w15, kI_16, kI_w16, kI_17, kI_w17, kI_18, kI_w18, kI_19, kI_w19, kI_20, kI_w20, kI_21, kI_w21, kI_22, kI_w22, kI_23, kI_w23, kT_24, kT_25, kT_26, kT_27, kT_28, kT_29, kT_30, kT_31, kT_32, kT_33, kT_34, kT_35, kT_36, kT_37, kT_38, kT_39, kT_40, kT_41, kT_42, kT_43, kT_44, kT_45, kT_46, kT_47, kT_48, kT_49, kT_50, kT_51, kT_52, kT_53, kT_54, kT_55, kT_56, kT_57, kT_58, kT_59, kT_60, kT_61, kL_25, kL_26, kL_27, kL_28, kL_29, kL_30, kL_31, kL_32, kL_33, kL_34, kL_35, kL_36, kL_37, kL_38, kL_39, kL_40, kL_41, kL_42, kL_43, kL_44, kL_45, kL_46, kL_47, kL_48, kL_49, kL_50, kL_51, kL_52, kL_53, kL_54, kL_55, kL_56, kL_57, kL_58, kL_59, kL_60, kL_61, kW_24_1, kW_24_2, kW_24_3, kW_24_4, kW_24_5, kW_24_6, kW_24_7, kW_24_8, kW_24_9, kW_24_10, kW_24_11, kW_24_12, kW_24_14, kW_24_15, kW_24_16, kW_24_17, kW_24_18, kW_24_19, kW_24_21, kW_24_22, kW_24_23, kW_24_25, kW_24_26, kW_24_27, kW_24_28, kW_24_29, kW_24_31, kW_24_32, kW_24_33, kW_24_34, kW_24_36, kW_24_37, kW_24_44, kW_24_49, kW_24_50, kW_24_51, kW_24_52, kI_24, kI_w24, kI_25, kI_w25, kI_26, kI_w26, kI_27, kI_w27, kI_28, kI_w28, kI_29, kI_w29, kI_30, kI_w30, kI_31, kI_w31, kI_32, kI_w32, kI_33, kI_w33, kI_34, kI_w34, kI_35, kI_w35, kI_36, kI_w36, kI_37, kI_w37, kI_38, kI_w38, kI_39, kI_w39, kI_40, kI_w40, kI_41, kI_w41, kI_42, kI_w42, kI_43, kI_w43, kI_44, kI_w44, kI_45, kI_w45, kI_46, kI_w46, kI_47, kI_w47, kI_48, kI_w48, kI_49, kI_w49, kI_50, kI_w50, kI_51, kI_w51, kI_52, kI_w52, kI_53, kI_w53, kI_54, kI_w54, kI_55, kI_w55, kI_56, kI_w56, kI_57, kI_w57, kI_58, kI_w58, kI_59, kI_w59, kI_60, kI_w60, kI_61, kI_w61, c_findL_no g1 g2 hv, m_lease_no hG.hn h40 hv, true_or, or_true, false_or, or_false, not_true_eq_false, not_false_eq_true, true_and, and_true, false_and, and_false, and_self, decide_true, decide_false, ↓reduceIte, Bool.true_and, Bool.false_and, Bool.and_true, Bool.and_false, Bool.not_true, Bool.not_false, Bool.false_eq_true, Bool.true_or, Bool.or_true, Bool.false_or, Bool.or_false, reduceCtorEq, Bool.and_self, Bool.or_self, ne_eq]
    exact hK _ _ (kJ.mk hG)
end

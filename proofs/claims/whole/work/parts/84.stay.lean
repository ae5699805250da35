/-! STAGE B: staying on -/
theorem kHo.stay {s : Nat → Nat → Int32} {n k ko : Nat} (h : kHo s n) (hn : n ≤ 40) (hk : k < n) (hko : ko < n) (ho : s 1 k = nI ko) (hw : s 6 k = 0) (hto : s 0 0 ≤ s 4 k) : kHo (mj_u2 s 4 k (kun s ko)) n := by
  obtain ⟨a1, a2, ⟨rk, R⟩, a4⟩ := h
  have kko : ko ≠ k := fun z => by have := (R k hk).2 ko hko ho; rw [z] at this; omega
  obtain ⟨b1, b2, b3, b4, b5⟩ := a4 k hk
  obtain ⟨d1, d2, d3, d4, d5⟩ := b5 ko hko ho
  have V1 := d3 hw hto
  have cases : (s 6 ko = 0 ∧ kun s ko = s 4 ko) ∨ kun s ko = s 4 k := by
    by_cases w0 : s 6 ko = 0
    · left; exact ⟨w0, by unfold kun; rw [if_pos w0]⟩
    · right
      have ku : kun s ko = s 5 ko := by unfold kun; rw [if_neg w0]
      rw [ku] at V1 ⊢
      obtain ⟨q1, q2, q3, _⟩ := a4 ko hko
      obtain ⟨_, _, p3, _⟩ := a2 k hk
      obtain ⟨p5, p6, p7⟩ := p3
      by_cases h4 : s 6 ko = 4
      · rcases q3 h4 with z | z
        · rw [i_le] at z hto V1; exact i_eq.mpr (by omega)
        · rcases d2 with y | y
          · rw [z] at V1; rw [i_le] at y V1; rw [i_lt] at p6; omega
          · rw [z] at V1 ⊢; rw [i_le] at y V1 hto; exact i_eq.mpr (by omega)
      · have := (q1 w0 h4).1
        rw [i_le] at this hto V1; exact i_eq.mpr (by omega)
  have E4 : ∀ h, h ≠ k → mj_u2 s 4 k (kun s ko) 4 h = s 4 h := fun h hh => mq_u2k hh
  have E4k : mj_u2 s 4 k (kun s ko) 4 k = kun s ko := mq_u2s
  have Eo : ∀ j, j ≠ 4 → mj_u2 s 4 k (kun s ko) j = s j := fun j hj => mj_u2_ne _ hj
  have kd : ∀ (e : Nat → Nat → Int32) h, kun e h = if e 6 h = 0 then e 4 h else e 5 h := fun _ _ => rfl
  have ku : ∀ h, h ≠ k → kun (mj_u2 s 4 k (kun s ko)) h = kun s h := fun h hh => by rw [kd (mj_u2 s 4 k (kun s ko)) h, kd s h, E4 h hh, Eo 5 (by decide), Eo 6 (by decide)]
  have kuk : kun (mj_u2 s 4 k (kun s ko)) k = kun s ko := by rw [kd (mj_u2 s 4 k (kun s ko)) k, Eo 6 (by decide), if_pos hw, E4k]
  rcases cases with ⟨w0, cv⟩ | cv
  · refine ⟨by rw [Eo 0 (by decide)]; exact a1, fun h hh => ?_, ⟨rk, by rw [Eo 1 (by decide)]; exact R⟩, fun h hh => ?_⟩
    · have q := a2 h hh
      unfold kR1 at q ⊢
      rw [Eo 1 (by decide), Eo 2 (by decide), Eo 3 (by decide), Eo 5 (by decide), Eo 6 (by decide), Eo 7 (by decide), Eo 8 (by decide), Eo 9 (by decide), Eo 10 (by decide), Eo 11 (by decide), Eo 12 (by decide)]
      by_cases hhk : h = k
      · subst hhk
        rw [E4k]
        refine ⟨q.1, q.2.1, ⟨q.2.2.1.1, ?_, ?_⟩, q.2.2.2⟩
        · have := q.2.2.1.2.1; rw [i_lt] at this ⊢; rw [i_le] at V1; omega
        · rw [cv]; exact (a2 ko hko).2.2.1.2.2
      · rw [E4 h hhk]; exact q
    · obtain ⟨q1, q2, q3, q4, q5⟩ := a4 h hh
      unfold kR2
      rw [Eo 0 (by decide), Eo 1 (by decide), Eo 3 (by decide), Eo 5 (by decide), Eo 6 (by decide), Eo 12 (by decide)]
      by_cases hhk : h = k
      · subst hhk
        refine ⟨q1, q2, q3, fun z => ?_, fun k' hk' z => ?_⟩
        · rw [ho] at z; exact absurd z (by rw [show (-1 : Int32) = -1 from rfl]; intro y; have := nI_pos (show ko < 2147483648 by omega); rw [y] at this; exact this (by decide))
        · have kk : k' = ko := by rw [ho, ix_eq (by omega) (by omega)] at z; exact z.symm
          subst kk
          obtain ⟨e1, e2, e3, e4, e5⟩ := q5 k' hk' z
          rw [E4k, E4 k' kko, ku k' kko, cv]
          have le : s 4 k' ≤ s 4 k' := by rw [i_le]; omega
          exact ⟨le, e2, fun _ _ => le, fun _ _ => w0, e5⟩
      · rw [E4 h hhk]
        refine ⟨q1, q2, q3, q4, fun k' hk' z => ?_⟩
        obtain ⟨e1, e2, e3, e4, e5⟩ := q5 k' hk' z
        by_cases hkk : k' = k
        · subst hkk
          rw [E4k, kuk]
          refine ⟨by rw [i_le] at e1 V1 ⊢; omega, e2, fun y1 y2 => ?_, e4, e5⟩
          rw [i_le] at e1 V1 ⊢; omega
        · rw [E4 k' hkk, ku k' hkk]
          exact ⟨e1, e2, e3, e4, e5⟩
  · have e : mj_u2 s 4 k (kun s ko) = s := by
      rw [cv]; funext j h
      by_cases z : j = 4 ∧ h = k
      · obtain ⟨rfl, rfl⟩ := z; exact mq_u2s
      · by_cases y : j = 4
        · subst y; exact mq_u2k (fun w => z ⟨rfl, w⟩)
        · rw [mj_u2_ne _ y]
    rw [e]; exact ⟨a1, a2, ⟨rk, R⟩, a4⟩
section
variable {B : Nat} {M : mj_M} {K : Int32 → Int32 → mj_M → Prop}
theorem T_stay (h : kJ B M) (a : Int32) (hK : ∀ v M', kJ B M' → K v v M') : vc_X11_stay B a M (fun v M1 => mj_tag M1 (B + 24) = 13 ∧ vc_X12_stay (B + 24) a M1 (fun v' M2 => K v v' M2)) := by
  obtain ⟨A, AA, AT, AN, N, t, l, u, i, c, s, r, q, g, w, x, rfl, hG⟩ := h
  obtain ⟨g1, g2, g3, g4, g5, g6, g7, g8, g9, g10⟩ := id hG
  have h40 := hG.n40
  by_cases hv : 0 ≤ a ∧ a < nI (N 0)
  · obtain ⟨k, hk, rfl⟩ := ix_ofl (by omega) hv.1 hv.2
    have A0 : (A k = 0) = False := g1.H0 hk
    have k1 : k < 2147483648 := by omega
    have k40 : k < 40 := by omega
    rcases hG.out hk with ho | ⟨ko, hko, ho⟩
    · have ho' : s 1 k < 0 := by rw [ho]; decide
      simp only [vc_X11_stay, vc_X12_stay, mq_tag, mq_len, mq_i, mq_r, mq_l, mq_nx, mq_wi, mq_wr, mq_wl, true_and, and_true, and_false, false_and, and_self, ↓reduceIte, kT_0, kT_1, kT_2, kT_3, kT_4, kT_5, kT_6, kT_7, kT_8, kT_9, kT_10, kT_11, kT_12, kT_13, kT_14, kT_15, kT_16, kT_17, kT_18, kT_19, kT_20, kT_21, kT_22, kT_23, kL_2, kL_3, kL_5, kL_10, kL_11, kL_12, kL_14, kL_15, kL_17, kL_18, kL_19, kL_20, kL_21, kL_22, kL_23, kW_0_0, kW_0_1, kW_0_2, kW_0_3, kW_0_4, kW_0_5, kW_0_6, kW_0_7, kW_1_4, kW_1_5, kW_4_0, kW_4_1, kW_9_0, kW_9_1, kW_9_2, kW_13_0, kW_13_1, kW_16_0, kW_16_1, kW_16_2, kW_16_3, kW_16_4, kW_16_5, kW_1_1, kW_1_2, kW_4_4, kW_8_0, kW_8_1, kW_w1_1, kW_w1_2, kW_w4_4, kW_w8_0, kW_w8_1, kI_0, kI_w0, kI_1, kI_w1, kI_2, kI_w2, kI_3, kI_w3, kI_4, kI_w4, kI_5, kI_w5, kI_6, kI_w6, kI_7, kI_w7, kI_8, kI_w8, kI_9, kI_w9, kI_10, kI_w10, kI_11, kI_w11, kI_12, kI_w12, kI_13, kI_w13, kI_14, kI_w14, kI_15, kI_w15, kI_16, kI_w16, kI_17, kI_w17, kI_18, kI_w18, kI_19, kI_w19, kI_20, kI_w20, kI_21, kI_w21, kI_22, kI_w22, kI_23, kI_w23, kT_24, kT_25, kT_26, kT_27, kT_28, kT_29, kT_30, kT_31, kT_32, kT_33, kT_34, kT_35, kT_36, kT_37, kT_38, kT_39, kT_40, kT_41, kT_42, kT_43, kT_44, kT_45, kT_46, kT_47, kT_48, kT_49, kT_50, kT_51, kT_52, kT_53, kT_54, kT_55, kT_56, kT_57, kT_58, kT_59, kT_60, kT_61, kL_25, kL_26, kL_27, kL_28, kL_29, kL_30, kL_31, kL_32, kL_33, kL_34, kL_35, kL_36, kL_37, kL_38, kL_39, kL_40, kL_41, kL_42, kL_43, kL_44, kL_45, kL_46, kL_47, kL_48, kL_49, kL_50, kL_51, kL_52, kL_53, kL_54, kL_55, kL_56, kL_57, kL_58, kL_59, kL_60, kL_61, kW_24_1, kW_24_2, kW_24_3, kW_24_4, kW_24_5, kW_24_6, kW_24_7, kW_24_8, kW_24_9, kW_24_10, kW_24_11, kW_24_12, kW_24_14, kW_24_15, kW_24_16, kW_24_17, kW_24_18, kW_24_19, kW_24_21, kW_24_22, kW_24_23, kW_24_25, kW_24_26, kW_24_27, kW_24_28, kW_24_29, kW_24_31, kW_24_32, kW_24_33, kW_24_34, kW_24_36, kW_24_37, kW_24_44, kW_24_49, kW_24_50, kW_24_51, kW_24_52, kI_24, kI_w24, kI_25, kI_w25, kI_26, kI_w26, kI_27, kI_w27, kI_28, kI_w28, kI_29, kI_w29, kI_30, kI_w30, kI_31, kI_w31, kI_32, kI_w32, kI_33, kI_w33, kI_34, kI_w34, kI_35, kI_w35, kI_36, kI_w36, kI_37, kI_w37, kI_38, kI_w38, kI_39, kI_w39, kI_40, kI_w40, kI_41, kI_w41, kI_42, kI_w42, kI_43, kI_w43, kI_44, kI_w44, kI_45, kI_w45, kI_46, kI_w46, kI_47, kI_w47, kI_48, kI_w48, kI_49, kI_w49, kI_50, kI_w50, kI_51, kI_w51, kI_52, kI_w52, kI_53, kI_w53, kI_54, kI_w54, kI_55, kI_w55, kI_56, kI_w56, kI_57, kI_w57, kI_58, kI_w58, kI_59, kI_w59, kI_60, kI_w60, kI_61, kI_w61, c_find g1 g2 hk, A0, g1.atT hk, g1.atW hk, ho, kR_m1, m_lease hG.hn h40 hk, ho', true_or, or_true, false_or, or_false, not_true_eq_false, not_false_eq_true, true_and, and_true, false_and, and_false, and_self, decide_true, decide_false, ↓reduceIte, Bool.true_and, Bool.false_and, Bool.and_true, Bool.and_false, Bool.not_true, Bool.not_false, Bool.false_eq_true, Bool.true_or, Bool.or_true, Bool.false_or, Bool.or_false, reduceCtorEq, Bool.and_self, Bool.or_self, ne_eq]
      simp only [show ((-1 : Int32) < 0) = True from eq_true (by decide), true_or, or_true, false_or, or_false, not_true_eq_false, not_false_eq_true, true_and, and_true, false_and, and_false, and_self, decide_true, decide_false, ↓reduceIte, Bool.true_and, Bool.false_and, Bool.and_true, Bool.and_false, Bool.not_true, Bool.not_false, Bool.false_eq_true, Bool.true_or, Bool.or_true, Bool.false_or, Bool.or_false, reduceCtorEq, Bool.and_self, Bool.or_self, ne_eq]
      exact hK _ _ (kJ.mk hG)
    · have ho1 : ko < 2147483648 := by omega
      have ko40 : ko < 40 := by omega
      have n0 : (nI ko < 0) = False := eq_false (nI_pos ho1)
      have Ao0 : (A ko = 0) = False := g1.H0 hko
      have w5 := hG.hw k hk
      have e0 : (0 : Int32).toInt = 0 := by decide
      by_cases hw : s 6 k = 0
      · have hw' : ((0 : Int32) < 0) = False := eq_false (by decide)
        by_cases hd : s 0 0 ≤ s 4 k
        · obtain ⟨r1, r2, r3, r4⟩ := hG.R1 hk
          have dd : (s 4 k - 1).toInt = (s 4 k).toInt - 1 := by
            have := i_le.mp r3.1; have := i_lt.mp r3.2.1; have := i_le.mp r3.2.2
            have e3 : (73000 : Int32).toInt = 73000 := by decide
            have e1 : (1 : Int32).toInt = 1 := by decide
            rw [Int32.toInt_sub, e1, Int.bmod_eq_of_le (by omega) (by omega)]
          have hd2 : 0 ≤ s 4 k - 1 ∧ s 4 k - 1 ≤ 73000 := by
            have := i_le.mp r3.1; have := i_lt.mp r3.2.1; have := i_le.mp r3.2.2
            exact ⟨i_le.mpr (by omega), i_le.mpr (by omega)⟩
          have hon : kon s k (s 4 k - 1) = true := by
            unfold kon kun
            rw [if_pos hw]
            have := i_le.mp r3.1; have := i_lt.mp r3.2.1
            exact decide_eq_true ⟨i_le.mpr (by omega), i_lt.mpr (by omega)⟩
          have hr : kHr s (N 1) k 2 (s 4 k - 1) = decide (kRi s (N 1) k 2 (s 4 k - 1) = 1) := by
            unfold kHr kRi
            cases kBe s 2 (s 4 k - 1) (N 1) with
            | none => simp
            | some a => rcases Bool.eq_false_or_eq_true (kTx s a k (s 4 k - 1) kNo1).1 with z | z <;> simp [z, hon]
          simp only [vc_X11_stay, mq_tag, mq_len, mq_i, mq_r, mq_l, mq_nx, mq_wi, mq_wr, mq_wl, true_and, and_true, and_false, false_and, and_self, ↓reduceIte, kT_0, kT_1, kT_2, kT_3, kT_4, kT_5, kT_6, kT_7, kT_8, kT_9, kT_10, kT_11, kT_12, kT_13, kT_14, kT_15, kT_16, kT_17, kT_18, kT_19, kT_20, kT_21, kT_22, kT_23, kL_2, kL_3, kL_5, kL_10, kL_11, kL_12, kL_14, kL_15, kL_17, kL_18, kL_19, kL_20, kL_21, kL_22, kL_23, kW_0_0, kW_0_1, kW_0_2, kW_0_3, kW_0_4, kW_0_5, kW_0_6, kW_0_7, kW_1_4, kW_1_5, kW_4_0, kW_4_1, kW_9_0, kW_9_1, kW_9_2, kW_13_0, kW_13_1, kW_16_0, kW_16_1, kW_16_2, kW_16_3, kW_16_4, kW_16_5, kW_1_1, kW_1_2, kW_4_4, kW_8_0, kW_8_1, kW_w1_1, kW_w1_2, kW_w4_4, kW_w8_0, kW_w8_1, kI_0, kI_w0, kI_1, kI_w1, kI_2, kI_w2, kI_3, kI_w3, kI_4, kI_w4, kI_5, kI_w5, kI_6, kI_w6, kI_7, kI_w7, kI_8, kI_w8, kI_9, kI_w9, kI_10, kI_w10, kI_11, kI_w11, kI_12, kI_w12, kI_13, kI_w13, kI_14, kI_w14, kI_15, kI_w15, kI_16, kI_w16, kI_17, kI_w17, kI_18, kI_w18, kI_19, kI_w19, kI_20, kI_w20, kI_21, kI_w21, kI_22, kI_w22, kI_23, kI_w23, c_find g1 g2 hk, A0, g1.atT hk, g1.atW hk, g1.atI hk, ho, kR_I ho1, Ao0, hw, hG.hd, hd, g1.atT hko, c_until g1 hko]
          refine c_hasRight hG hk hd2 fun c' g' h1 => ?_
          have hG' := hG.rf h1 (rF.refl s)
          have g1' := hG'.1
          rcases Classical.propComplete (kRi s (N 1) k 2 (s 4 k - 1) = 1) with z | z
          · simp only [hr, z, decide_true, ↓reduceIte, mq_tag, mq_len, mq_i, mq_r, mq_l, mq_nx, mq_wi, mq_wr, mq_wl, true_and, and_true, and_false, false_and, and_self, ↓reduceIte, kT_0, kT_1, kT_2, kT_3, kT_4, kT_5, kT_6, kT_7, kT_8, kT_9, kT_10, kT_11, kT_12, kT_13, kT_14, kT_15, kT_16, kT_17, kT_18, kT_19, kT_20, kT_21, kT_22, kT_23, kL_2, kL_3, kL_5, kL_10, kL_11, kL_12, kL_14, kL_15, kL_17, kL_18, kL_19, kL_20, kL_21, kL_22, kL_23, kW_0_0, kW_0_1, kW_0_2, kW_0_3, kW_0_4, kW_0_5, kW_0_6, kW_0_7, kW_1_4, kW_1_5, kW_4_0, kW_4_1, kW_9_0, kW_9_1, kW_9_2, kW_13_0, kW_13_1, kW_16_0, kW_16_1, kW_16_2, kW_16_3, kW_16_4, kW_16_5, kW_1_1, kW_1_2, kW_4_4, kW_8_0, kW_8_1, kW_w1_1, kW_w1_2, kW_w4_4, kW_w8_0, kW_w8_1, kI_0, kI_w0, kI_1, kI_w1, kI_2, kI_w2, kI_3, kI_w3, kI_4, kI_w4, kI_5, kI_w5, kI_6, kI_w6, kI_7, kI_w7, kI_8, kI_w8, kI_9, kI_w9, kI_10, kI_w10, kI_11, kI_w11, kI_12, kI_w12, kI_13, kI_w13, kI_14, kI_w14, kI_15, kI_w15, kI_16, kI_w16, kI_17, kI_w17, kI_18, kI_w18, kI_19, kI_w19, kI_20, kI_w20, kI_21, kI_w21, kI_22, kI_w22, kI_23, kI_w23, g1'.atT hk, g1'.atI hk, c_way g1' g2 hk hko ho]
            rcases Bool.eq_false_or_eq_true (kAny (kAno s (nI ko) k (s 2 k) (s 4 k) (kun s ko)) (N 0) 0) with hy | hy
            · simp only [hy, ↓reduceIte]
              refine ⟨kT_24, ?_⟩
              simp only [vc_X12_stay, mq_tag, mq_len, mq_i, mq_r, mq_l, mq_nx, mq_wi, mq_wr, mq_wl, true_and, and_true, and_false, false_and, and_self, ↓reduceIte, kT_24, kT_25, kT_26, kT_27, kT_28, kT_29, kT_30, kT_31, kT_32, kT_33, kT_34, kT_35, kT_36, kT_37, kT_38, kT_39, kT_40, kT_41, kT_42, kT_43, kT_44, kT_45, kT_46, kT_47, kT_48, kT_49, kT_50, kT_51, kT_52, kT_53, kT_54, kT_55, kT_56, kT_57, kT_58, kT_59, kT_60, kT_61, kL_25, kL_26, kL_27, kL_28, kL_29, kL_30, kL_31, kL_32, kL_33, kL_34, kL_35, kL_36, kL_37, kL_38, kL_39, kL_40, kL_41, kL_42, kL_43, kL_44, kL_45, kL_46, kL_47, kL_48, kL_49, kL_50, kL_51, kL_52, kL_53, kL_54, kL_55, kL_56, kL_57, kL_58, kL_59, kL_60, kL_61, kW_24_1, kW_24_2, kW_24_3, kW_24_4, kW_24_5, kW_24_6, kW_24_7, kW_24_8, kW_24_9, kW_24_10, kW_24_11, kW_24_12, kW_24_14, kW_24_15, kW_24_16, kW_24_17, kW_24_18, kW_24_19, kW_24_21, kW_24_22, kW_24_23, kW_24_25, kW_24_26, kW_24_27, kW_24_28, kW_24_29, kW_24_31, kW_24_32, kW_24_33, kW_24_34, kW_24_36, kW_24_37, kW_24_44, kW_24_49, kW_24_50, kW_24_51, kW_24_52, kI_24, kI_w24, kI_25, kI_w25, kI_26, kI_w26, kI_27, kI_w27, kI_28, kI_w28, kI_29, kI_w29, kI_30, kI_w30, kI_31, kI_w31, kI_32, kI_w32, kI_33, kI_w33, kI_34, kI_w34, kI_35, kI_w35, kI_36, kI_w36, kI_37, kI_w37, kI_38, kI_w38, kI_39, kI_w39, kI_40, kI_w40, kI_41, kI_w41, kI_42, kI_w42, kI_43, kI_w43, kI_44, kI_w44, kI_45, kI_w45, kI_46, kI_w46, kI_47, kI_w47, kI_48, kI_w48, kI_49, kI_w49, kI_50, kI_w50, kI_51, kI_w51, kI_52, kI_w52, kI_53, kI_w53, kI_54, kI_w54, kI_55, kI_w55, kI_56, kI_w56, kI_57, kI_w57, kI_58, kI_w58, kI_59, kI_w59, kI_60, kI_w60, kI_61, kI_w61, m_lease hG.hn h40 hk, ho, n0, not_false_eq_true, decide_true, ix_in k1, ix_nat k1, k40, hw, hw', hd]
              refine m_right hG' (rF.refl s) hk hd2 fun s' h3 => ?_
              have hG2 := hG'.rf (fun _ _ => rfl) h3
              have x1 : s' 1 = s 1 := h3.1 1 (by decide) (by decide) (by decide) (by decide)
              have x4 : s' 4 = s 4 := h3.1 4 (by decide) (by decide) (by decide) (by decide)
              have xk : kun s' = kun s := kun_to x4 (h3.1 5 (by decide) (by decide) (by decide) (by decide)) (h3.1 6 (by decide) (by decide) (by decide) (by decide))
              have x2 : s' 2 = s 2 := h3.1 2 (by decide) (by decide) (by decide) (by decide)
              have x3 : s' 3 = s 3 := h3.1 3 (by decide) (by decide) (by decide) (by decide)
              have xa : ∀ f a b, kAno s' (nI ko) k f a b = kAno s (nI ko) k f a b := fun f a b => by unfold kAno kmt; rw [x1, x2, x3, xk]
              simp only [z, ↓reduceIte, mq_tag, mq_len, mq_i, mq_r, mq_l, mq_nx, mq_wi, mq_wr, mq_wl, true_and, and_true, and_false, false_and, and_self, ↓reduceIte, kT_24, kT_25, kT_26, kT_27, kT_28, kT_29, kT_30, kT_31, kT_32, kT_33, kT_34, kT_35, kT_36, kT_37, kT_38, kT_39, kT_40, kT_41, kT_42, kT_43, kT_44, kT_45, kT_46, kT_47, kT_48, kT_49, kT_50, kT_51, kT_52, kT_53, kT_54, kT_55, kT_56, kT_57, kT_58, kT_59, kT_60, kT_61, kL_25, kL_26, kL_27, kL_28, kL_29, kL_30, kL_31, kL_32, kL_33, kL_34, kL_35, kL_36, kL_37, kL_38, kL_39, kL_40, kL_41, kL_42, kL_43, kL_44, kL_45, kL_46, kL_47, kL_48, kL_49, kL_50, kL_51, kL_52, kL_53, kL_54, kL_55, kL_56, kL_57, kL_58, kL_59, kL_60, kL_61, kW_24_1, kW_24_2, kW_24_3, kW_24_4, kW_24_5, kW_24_6, kW_24_7, kW_24_8, kW_24_9, kW_24_10, kW_24_11, kW_24_12, kW_24_14, kW_24_15, kW_24_16, kW_24_17, kW_24_18, kW_24_19, kW_24_21, kW_24_22, kW_24_23, kW_24_25, kW_24_26, kW_24_27, kW_24_28, kW_24_29, kW_24_31, kW_24_32, kW_24_33, kW_24_34, kW_24_36, kW_24_37, kW_24_44, kW_24_49, kW_24_50, kW_24_51, kW_24_52, kI_24, kI_w24, kI_25, kI_w25, kI_26, kI_w26, kI_27, kI_w27, kI_28, kI_w28, kI_29, kI_w29, kI_30, kI_w30, kI_31, kI_w31, kI_32, kI_w32, kI_33, kI_w33, kI_34, kI_w34, kI_35, kI_w35, kI_36, kI_w36, kI_37, kI_w37, kI_38, kI_w38, kI_39, kI_w39, kI_40, kI_w40, kI_41, kI_w41, kI_42, kI_w42, kI_43, kI_w43, kI_44, kI_w44, kI_45, kI_w45, kI_46, kI_w46, kI_47, kI_w47, kI_48, kI_w48, kI_49, kI_w49, kI_50, kI_w50, kI_51, kI_w51, kI_52, kI_w52, kI_53, kI_w53, kI_54, kI_w54, kI_55, kI_w55, kI_56, kI_w56, kI_57, kI_w57, kI_58, kI_w58, kI_59, kI_w59, kI_60, kI_w60, kI_61, kI_w61, ix_in k1, ix_nat k1, k40, x1, ho, m_until ko40 (hG2.hw ko hko), xk, x4, m_barred hG2.hn h40 hG2.hw hk, x2, xa, hy]
              exact hK _ _ (kJ.mk hG2)
            · simp only [hy, Bool.false_eq_true, ↓reduceIte, mq_tag, mq_len, mq_i, mq_r, mq_l, mq_nx, mq_wi, mq_wr, mq_wl, true_and, and_true, and_false, false_and, and_self, ↓reduceIte, kT_0, kT_1, kT_2, kT_3, kT_4, kT_5, kT_6, kT_7, kT_8, kT_9, kT_10, kT_11, kT_12, kT_13, kT_14, kT_15, kT_16, kT_17, kT_18, kT_19, kT_20, kT_21, kT_22, kT_23, kL_2, kL_3, kL_5, kL_10, kL_11, kL_12, kL_14, kL_15, kL_17, kL_18, kL_19, kL_20, kL_21, kL_22, kL_23, kW_0_0, kW_0_1, kW_0_2, kW_0_3, kW_0_4, kW_0_5, kW_0_6, kW_0_7, kW_1_4, kW_1_5, kW_4_0, kW_4_1, kW_9_0, kW_9_1, kW_9_2, kW_13_0, kW_13_1, kW_16_0, kW_16_1, kW_16_2, kW_16_3, kW_16_4, kW_16_5, kW_1_1, kW_1_2, kW_4_4, kW_8_0, kW_8_1, kW_w1_1, kW_w1_2, kW_w4_4, kW_w8_0, kW_w8_1, kI_0, kI_w0, kI_1, kI_w1, kI_2, kI_w2, kI_3, kI_w3, kI_4, kI_w4, kI_5, kI_w5, kI_6, kI_w6, kI_7, kI_w7, kI_8, kI_w8, kI_9, kI_w9, kI_10, kI_w10, kI_11, kI_w11, kI_12, kI_w12, kI_13, kI_w13, kI_14, kI_w14, kI_15, kI_w15, kI_16, kI_w16, kI_17, kI_w17, kI_18, kI_w18, kI_19, kI_w19, kI_20, kI_w20, kI_21, kI_w21, kI_22, kI_w22, kI_23, kI_w23, g1'.atT hk, g1'.atI hk, kI_wo (g1.AH hk)]
              refine ⟨kT_24, ?_⟩
              simp only [vc_X12_stay, mq_tag, mq_len, mq_i, mq_r, mq_l, mq_nx, mq_wi, mq_wr, mq_wl, true_and, and_true, and_false, false_and, and_self, ↓reduceIte, kT_24, kT_25, kT_26, kT_27, kT_28, kT_29, kT_30, kT_31, kT_32, kT_33, kT_34, kT_35, kT_36, kT_37, kT_38, kT_39, kT_40, kT_41, kT_42, kT_43, kT_44, kT_45, kT_46, kT_47, kT_48, kT_49, kT_50, kT_51, kT_52, kT_53, kT_54, kT_55, kT_56, kT_57, kT_58, kT_59, kT_60, kT_61, kL_25, kL_26, kL_27, kL_28, kL_29, kL_30, kL_31, kL_32, kL_33, kL_34, kL_35, kL_36, kL_37, kL_38, kL_39, kL_40, kL_41, kL_42, kL_43, kL_44, kL_45, kL_46, kL_47, kL_48, kL_49, kL_50, kL_51, kL_52, kL_53, kL_54, kL_55, kL_56, kL_57, kL_58, kL_59, kL_60, kL_61, kW_24_1, kW_24_2, kW_24_3, kW_24_4, kW_24_5, kW_24_6, kW_24_7, kW_24_8, kW_24_9, kW_24_10, kW_24_11, kW_24_12, kW_24_14, kW_24_15, kW_24_16, kW_24_17, kW_24_18, kW_24_19, kW_24_21, kW_24_22, kW_24_23, kW_24_25, kW_24_26, kW_24_27, kW_24_28, kW_24_29, kW_24_31, kW_24_32, kW_24_33, kW_24_34, kW_24_36, kW_24_37, kW_24_44, kW_24_49, kW_24_50, kW_24_51, kW_24_52, kI_24, kI_w24, kI_25, kI_w25, kI_26, kI_w26, kI_27, kI_w27, kI_28, kI_w28, kI_29, kI_w29, kI_30, kI_w30, kI_31, kI_w31, kI_32, kI_w32, kI_33, kI_w33, kI_34, kI_w34, kI_35, kI_w35, kI_36, kI_w36, kI_37, kI_w37, kI_38, kI_w38, kI_39, kI_w39, kI_40, kI_w40, kI_41, kI_w41, kI_42, kI_w42, kI_43, kI_w43, kI_44, kI_w44, kI_45, kI_w45, kI_46, kI_w46, kI_47, kI_w47, kI_48, kI_w48, kI_49, kI_w49, kI_50, kI_w50, kI_51, kI_w51, kI_52, kI_w52, kI_53, kI_w53, kI_54, kI_w54, kI_55, kI_w55, kI_56, kI_w56, kI_57, kI_w57, kI_58, kI_w58, kI_59, kI_w59, kI_60, kI_w60, kI_61, kI_w61, m_lease hG.hn h40 hk, ho, n0, not_false_eq_true, decide_true, ix_in k1, ix_nat k1, k40, hw, hw', hd]
              refine m_right hG' (rF.refl s) hk hd2 fun s' h3 => ?_
              have hG2 := hG'.rf (fun _ _ => rfl) h3
              have x1 : s' 1 = s 1 := h3.1 1 (by decide) (by decide) (by decide) (by decide)
              have x4 : s' 4 = s 4 := h3.1 4 (by decide) (by decide) (by decide) (by decide)
              have xk : kun s' = kun s := kun_to x4 (h3.1 5 (by decide) (by decide) (by decide) (by decide)) (h3.1 6 (by decide) (by decide) (by decide) (by decide))
              have x2 : s' 2 = s 2 := h3.1 2 (by decide) (by decide) (by decide) (by decide)
              have x3 : s' 3 = s 3 := h3.1 3 (by decide) (by decide) (by decide) (by decide)
              have x6 : s' 6 = s 6 := h3.1 6 (by decide) (by decide) (by decide) (by decide)
              have x0 : s' 0 0 = s 0 0 := h3.2 0 (by decide)
              have xa : ∀ f a b, kAno s' (nI ko) k f a b = kAno s (nI ko) k f a b := fun f a b => by unfold kAno kmt; rw [x1, x2, x3, xk]
              have ad : s 4 k + (kun s ko - s 4 k) = kun s ko := by rw [Int32.add_comm, Int32.sub_add_cancel]
              simp only [z, ↓reduceIte, mq_tag, mq_len, mq_i, mq_r, mq_l, mq_nx, mq_wi, mq_wr, mq_wl, true_and, and_true, and_false, false_and, and_self, ↓reduceIte, kT_24, kT_25, kT_26, kT_27, kT_28, kT_29, kT_30, kT_31, kT_32, kT_33, kT_34, kT_35, kT_36, kT_37, kT_38, kT_39, kT_40, kT_41, kT_42, kT_43, kT_44, kT_45, kT_46, kT_47, kT_48, kT_49, kT_50, kT_51, kT_52, kT_53, kT_54, kT_55, kT_56, kT_57, kT_58, kT_59, kT_60, kT_61, kL_25, kL_26, kL_27, kL_28, kL_29, kL_30, kL_31, kL_32, kL_33, kL_34, kL_35, kL_36, kL_37, kL_38, kL_39, kL_40, kL_41, kL_42, kL_43, kL_44, kL_45, kL_46, kL_47, kL_48, kL_49, kL_50, kL_51, kL_52, kL_53, kL_54, kL_55, kL_56, kL_57, kL_58, kL_59, kL_60, kL_61, kW_24_1, kW_24_2, kW_24_3, kW_24_4, kW_24_5, kW_24_6, kW_24_7, kW_24_8, kW_24_9, kW_24_10, kW_24_11, kW_24_12, kW_24_14, kW_24_15, kW_24_16, kW_24_17, kW_24_18, kW_24_19, kW_24_21, kW_24_22, kW_24_23, kW_24_25, kW_24_26, kW_24_27, kW_24_28, kW_24_29, kW_24_31, kW_24_32, kW_24_33, kW_24_34, kW_24_36, kW_24_37, kW_24_44, kW_24_49, kW_24_50, kW_24_51, kW_24_52, kI_24, kI_w24, kI_25, kI_w25, kI_26, kI_w26, kI_27, kI_w27, kI_28, kI_w28, kI_29, kI_w29, kI_30, kI_w30, kI_31, kI_w31, kI_32, kI_w32, kI_33, kI_w33, kI_34, kI_w34, kI_35, kI_w35, kI_36, kI_w36, kI_37, kI_w37, kI_38, kI_w38, kI_39, kI_w39, kI_40, kI_w40, kI_41, kI_w41, kI_42, kI_w42, kI_43, kI_w43, kI_44, kI_w44, kI_45, kI_w45, kI_46, kI_w46, kI_47, kI_w47, kI_48, kI_w48, kI_49, kI_w49, kI_50, kI_w50, kI_51, kI_w51, kI_52, kI_w52, kI_53, kI_w53, kI_54, kI_w54, kI_55, kI_w55, kI_56, kI_w56, kI_57, kI_w57, kI_58, kI_w58, kI_59, kI_w59, kI_60, kI_w60, kI_61, kI_w61, ix_in k1, ix_nat k1, k40, x1, ho, m_until ko40 (hG2.hw ko hko), xk, x4, m_barred hG2.hn h40 hG2.hw hk, x2, xa, hy, ad, Bool.false_eq_true]
              have S := hG2.2.2.2.2.2.2.2.1.stay h40 hk hko (by rw [x1]; exact ho) (by rw [x6]; exact hw) (by rw [x0, x4]; exact hd)
              rw [xk] at S
              have H1 := hG2.1.wi hk (j := 4) (by decide) (kun s ko)
              obtain ⟨f1, f2, g3, g4, g5, g6, g7, f8, g9, g10⟩ := hG2
              refine hK _ _ (kJ.mk ⟨H1, g2, g3.to rfl rfl rfl rfl ?_ ?_ ?_ ?_, g4.to rfl rfl rfl rfl ?_ ?_ ?_ ?_, g5.to rfl rfl rfl rfl ?_ ?_ ?_ ?_ ?_ ?_, g6.to rfl rfl rfl ?_ ?_ ?_, g7.to rfl rfl rfl rfl rfl rfl rfl rfl ?_ ?_ ?_ ?_ ?_, S, g9.to ?_ ?_, g10.to (fun h _ => by rw [mj_u2_ne _ (by decide)]; exact id) ?_⟩)
              all_goals first
                | (rw [mj_u2_ne _ (by decide)]; done) | (intros; rw [mj_u2_ne _ (by decide)]; done)
                | (intros; rw [mj_u2_ne _ (by decide), mj_u2_ne _ (by decide), mj_u2_ne _ (by decide)]; exact ⟨rfl, rfl, rfl⟩)
                | (intro j j1 j2; rw [mj_u2_ne _ (by omega)]; done)
          · simp only [hr, z, decide_false, Bool.false_eq_true, ↓reduceIte]
            refine ⟨kT_24, ?_⟩
            simp only [vc_X12_stay, mq_tag, mq_len, mq_i, mq_r, mq_l, mq_nx, mq_wi, mq_wr, mq_wl, true_and, and_true, and_false, false_and, and_self, ↓reduceIte, kT_24, kT_25, kT_26, kT_27, kT_28, kT_29, kT_30, kT_31, kT_32, kT_33, kT_34, kT_35, kT_36, kT_37, kT_38, kT_39, kT_40, kT_41, kT_42, kT_43, kT_44, kT_45, kT_46, kT_47, kT_48, kT_49, kT_50, kT_51, kT_52, kT_53, kT_54, kT_55, kT_56, kT_57, kT_58, kT_59, kT_60, kT_61, kL_25, kL_26, kL_27, kL_28, kL_29, kL_30, kL_31, kL_32, kL_33, kL_34, kL_35, kL_36, kL_37, kL_38, kL_39, kL_40, kL_41, kL_42, kL_43, kL_44, kL_45, kL_46, kL_47, kL_48, kL_49, kL_50, kL_51, kL_52, kL_53, kL_54, kL_55, kL_56, kL_57, kL_58, kL_59, kL_60, kL_61, kW_24_1, kW_24_2, kW_24_3, kW_24_4, kW_24_5, kW_24_6, kW_24_7, kW_24_8, kW_24_9, kW_24_10, kW_24_11, kW_24_12, kW_24_14, kW_24_15, kW_24_16, kW_24_17, kW_24_18, kW_24_19, kW_24_21, kW_24_22, kW_24_23, kW_24_25, kW_24_26, kW_24_27, kW_24_28, kW_24_29, kW_24_31, kW_24_32, kW_24_33, kW_24_34, kW_24_36, kW_24_37, kW_24_44, kW_24_49, kW_24_50, kW_24_51, kW_24_52, kI_24, kI_w24, kI_25, kI_w25, kI_26, kI_w26, kI_27, kI_w27, kI_28, kI_w28, kI_29, kI_w29, kI_30, kI_w30, kI_31, kI_w31, kI_32, kI_w32, kI_33, kI_w33, kI_34, kI_w34, kI_35, kI_w35, kI_36, kI_w36, kI_37, kI_w37, kI_38, kI_w38, kI_39, kI_w39, kI_40, kI_w40, kI_41, kI_w41, kI_42, kI_w42, kI_43, kI_w43, kI_44, kI_w44, kI_45, kI_w45, kI_46, kI_w46, kI_47, kI_w47, kI_48, kI_w48, kI_49, kI_w49, kI_50, kI_w50, kI_51, kI_w51, kI_52, kI_w52, kI_53, kI_w53, kI_54, kI_w54, kI_55, kI_w55, kI_56, kI_w56, kI_57, kI_w57, kI_58, kI_w58, kI_59, kI_w59, kI_60, kI_w60, kI_61, kI_w61, m_lease hG.hn h40 hk, ho, n0, not_false_eq_true, decide_true, ix_in k1, ix_nat k1, k40, hw, hw', hd]
            refine m_right hG' (rF.refl s) hk hd2 fun s' h3 => ?_
            simp only [z, ↓reduceIte]
            exact hK _ _ (kJ.mk (hG'.rf (fun _ _ => rfl) h3))
        · have w0 : (0 : Int32) < 0 ↔ False := by decide
          simp only [vc_X11_stay, vc_X12_stay, mq_tag, mq_len, mq_i, mq_r, mq_l, mq_nx, mq_wi, mq_wr, mq_wl, true_and, and_true, and_false, false_and, and_self, ↓reduceIte, kT_0, kT_1, kT_2, kT_3, kT_4, kT_5, kT_6, kT_7, kT_8, kT_9, kT_10, kT_11, kT_12, kT_13, kT_14, kT_15, kT_16, kT_17, kT_18, kT_19, kT_20, kT_21, kT_22, kT_23, kL_2, kL_3, kL_5, kL_10, kL_11, kL_12, kL_14, kL_15, kL_17, kL_18, kL_19, kL_20, kL_21, kL_22, kL_23, kW_0_0, kW_0_1, kW_0_2, kW_0_3, kW_0_4, kW_0_5, kW_0_6, kW_0_7, kW_1_4, kW_1_5, kW_4_0, kW_4_1, kW_9_0, kW_9_1, kW_9_2, kW_13_0, kW_13_1, kW_16_0, kW_16_1, kW_16_2, kW_16_3, kW_16_4, kW_16_5, kW_1_1, kW_1_2, kW_4_4, kW_8_0, kW_8_1, kW_w1_1, kW_w1_2, kW_w4_4, kW_w8_0, kW_w8_1, kI_0, kI_w0, kI_1, kI_w1, kI_2, kI_w2, kI_3, kI_w3, kI_4, kI_w4, kI_5, kI_w5, kI_6, kI_w6, kI_7, kI_w7, kI_8, kI_w8, kI_9, kI_w9, kI_10, kI_w10, kI_11, kI_w11, kI_12, kI_w12, kI_13, kI_w13, kI_14, kI_w14, kI_15, kI_w15, kI_16, kI_w16, kI_17, kI_w17, kI_18, kI_w18, kI_19, kI_w19, kI_20, kI_w20, kI_21, kI_w21, kI_22, kI_w22, kI_23, kI_w23, kT_24, kT_25, kT_26, kT_27, kT_28, kT_29, kT_30, kT_31, kT_32, kT_33, kT_34, kT_35, kT_36, kT_37, kT_38, kT_39, kT_40, kT_41, kT_42, kT_43, kT_44, kT_45, kT_46, kT_47, kT_48, kT_49, kT_50, kT_51, kT_52, kT_53, kT_54, kT_55, kT_56, kT_57, kT_58, kT_59, kT_60, kT_61, kL_25, kL_26, kL_27, kL_28, kL_29, kL_30, kL_31, kL_32, kL_33, kL_34, kL_35, kL_36, kL_37, kL_38, kL_39, kL_40, kL_41, kL_42, kL_43, kL_44, kL_45, kL_46, kL_47, kL_48, kL_49, kL_50, kL_51, kL_52, kL_53, kL_54, kL_55, kL_56, kL_57, kL_58, kL_59, kL_60, kL_61, kW_24_1, kW_24_2, kW_24_3, kW_24_4, kW_24_5, kW_24_6, kW_24_7, kW_24_8, kW_24_9, kW_24_10, kW_24_11, kW_24_12, kW_24_14, kW_24_15, kW_24_16, kW_24_17, kW_24_18, kW_24_19, kW_24_21, kW_24_22, kW_24_23, kW_24_25, kW_24_26, kW_24_27, kW_24_28, kW_24_29, kW_24_31, kW_24_32, kW_24_33, kW_24_34, kW_24_36, kW_24_37, kW_24_44, kW_24_49, kW_24_50, kW_24_51, kW_24_52, kI_24, kI_w24, kI_25, kI_w25, kI_26, kI_w26, kI_27, kI_w27, kI_28, kI_w28, kI_29, kI_w29, kI_30, kI_w30, kI_31, kI_w31, kI_32, kI_w32, kI_33, kI_w33, kI_34, kI_w34, kI_35, kI_w35, kI_36, kI_w36, kI_37, kI_w37, kI_38, kI_w38, kI_39, kI_w39, kI_40, kI_w40, kI_41, kI_w41, kI_42, kI_w42, kI_43, kI_w43, kI_44, kI_w44, kI_45, kI_w45, kI_46, kI_w46, kI_47, kI_w47, kI_48, kI_w48, kI_49, kI_w49, kI_50, kI_w50, kI_51, kI_w51, kI_52, kI_w52, kI_53, kI_w53, kI_54, kI_w54, kI_55, kI_w55, kI_56, kI_w56, kI_57, kI_w57, kI_58, kI_w58, kI_59, kI_w59, kI_60, kI_w60, kI_61, kI_w61, c_find g1 g2 hk, A0, g1.atT hk, g1.atW hk, g1.atI hk, ho, kR_I ho1, Ao0, hw, hw', hd, hG.hd, m_lease hG.hn h40 hk, n0, ix_in k1, ix_nat k1, k40, true_or, or_true, false_or, or_false, not_true_eq_false, not_false_eq_true, true_and, and_true, false_and, and_false, and_self, decide_true, decide_false, ↓reduceIte, Bool.true_and, Bool.false_and, Bool.and_true, Bool.and_false, Bool.not_true, Bool.not_false, Bool.false_eq_true, Bool.true_or, Bool.or_true, Bool.false_or, Bool.or_false, reduceCtorEq, Bool.and_self, Bool.or_self, ne_eq]
          exact hK _ _ (kJ.mk hG)
      · have hw' : ((0 : Int32) < s 6 k) = True := by
          refine eq_true (i_lt.mpr ?_)
          have := i_le.mp w5
          rw [i_eq] at hw
          omega
        simp only [vc_X11_stay, vc_X12_stay, mq_tag, mq_len, mq_i, mq_r, mq_l, mq_nx, mq_wi, mq_wr, mq_wl, true_and, and_true, and_false, false_and, and_self, ↓reduceIte, kT_0, kT_1, kT_2, kT_3, kT_4, kT_5, kT_6, kT_7, kT_8, kT_9, kT_10, kT_11, kT_12, kT_13, kT_14, kT_15, kT_16, kT_17, kT_18, kT_19, kT_20, kT_21, kT_22, kT_23, kL_2, kL_3, kL_5, kL_10, kL_11, kL_12, kL_14, kL_15, kL_17, kL_18, kL_19, kL_20, kL_21, kL_22, kL_23, kW_0_0, kW_0_1, kW_0_2, kW_0_3, kW_0_4, kW_0_5, kW_0_6, kW_0_7, kW_1_4, kW_1_5, kW_4_0, kW_4_1, kW_9_0, kW_9_1, kW_9_2, kW_13_0, kW_13_1, kW_16_0, kW_16_1, kW_16_2, kW_16_3, kW_16_4, kW_16_5, kW_1_1, kW_1_2, kW_4_4, kW_8_0, kW_8_1, kW_w1_1, kW_w1_2, kW_w4_4, kW_w8_0, kW_w8_1, kI_0, kI_w0, kI_1, kI_w1, kI_2, kI_w2, kI_3, kI_w3, kI_4, kI_w4, kI_5, kI_w5, kI_6, kI_w6, kI_7, kI_w7, kI_8, kI_w8, kI_9, kI_w9, kI_10, kI_w10, kI_11, kI_w11, kI_12, kI_w12, kI_13, kI_w13, kI_14, kI_w14, kI_15, kI_w15, kI_16, kI_w16, kI_17, kI_w17, kI_18, kI_w18, kI_19, kI_w19, kI_20, kI_w20, kI_21, kI_w21, kI_22, kI_w22, kI_23, kI_w23, kT_24, kT_25, kT_26, kT_27, kT_28, kT_29, kT_30, kT_31, kT_32, kT_33, kT_34, kT_35, kT_36, kT_37, kT_38, kT_39, kT_40, kT_41, kT_42, kT_43, kT_44, kT_45, kT_46, kT_47, kT_48, kT_49, kT_50, kT_51, kT_52, kT_53, kT_54, kT_55, kT_56, kT_57, kT_58, kT_59, kT_60, kT_61, kL_25, kL_26, kL_27, kL_28, kL_29, kL_30, kL_31, kL_32, kL_33, kL_34, kL_35, kL_36, kL_37, kL_38, kL_39, kL_40, kL_41, kL_42, kL_43, kL_44, kL_45, kL_46, kL_47, kL_48, kL_49, kL_50, kL_51, kL_52, kL_53, kL_54, kL_55, kL_56, kL_57, kL_58, kL_59, kL_60, kL_61, kW_24_1, kW_24_2, kW_24_3, kW_24_4, kW_24_5, kW_24_6, kW_24_7, kW_24_8, kW_24_9, kW_24_10, kW_24_11, kW_24_12, kW_24_14, kW_24_15, kW_24_16, kW_24_17, kW_24_18, kW_24_19, kW_24_21, kW_24_22, kW_24_23, kW_24_25, kW_24_26, kW_24_27, kW_24_28, kW_24_29, kW_24_31, kW_24_32, kW_24_33, kW_24_34, kW_24_36, kW_24_37, kW_24_44, kW_24_49, kW_24_50, kW_24_51, kW_24_52, kI_24, kI_w24, kI_25, kI_w25, kI_26, kI_w26, kI_27, kI_w27, kI_28, kI_w28, kI_29, kI_w29, kI_30, kI_w30, kI_31, kI_w31, kI_32, kI_w32, kI_33, kI_w33, kI_34, kI_w34, kI_35, kI_w35, kI_36, kI_w36, kI_37, kI_w37, kI_38, kI_w38, kI_39, kI_w39, kI_40, kI_w40, kI_41, kI_w41, kI_42, kI_w42, kI_43, kI_w43, kI_44, kI_w44, kI_45, kI_w45, kI_46, kI_w46, kI_47, kI_w47, kI_48, kI_w48, kI_49, kI_w49, kI_50, kI_w50, kI_51, kI_w51, kI_52, kI_w52, kI_53, kI_w53, kI_54, kI_w54, kI_55, kI_w55, kI_56, kI_w56, kI_57, kI_w57, kI_58, kI_w58, kI_59, kI_w59, kI_60, kI_w60, kI_61, kI_w61, c_find g1 g2 hk, A0, g1.atT hk, g1.atW hk, g1.atI hk, ho, kR_I ho1, Ao0, hw, hw', m_lease hG.hn h40 hk, n0, ix_in k1, ix_nat k1, k40, true_or, or_true, false_or, or_false, not_true_eq_false, not_false_eq_true, true_and, and_true, false_and, and_false, and_self, decide_true, decide_false, ↓reduceIte, Bool.true_and, Bool.false_and, Bool.and_true, Bool.and_false, Bool.not_true, Bool.not_false, Bool.false_eq_true, Bool.true_or, Bool.or_true, Bool.false_or, Bool.or_false, reduceCtorEq, Bool.and_self, Bool.or_self, ne_eq]
        exact hK _ _ (kJ.mk hG)
  · simp only [vc_X11_stay, vc_X12_stay, mq_tag, mq_len, mq_i, mq_r, mq_l, mq_nx, mq_wi, mq_wr, mq_wl, true_and, and_true, and_false, false_and, and_self, ↓reduceIte, kT_0, kT_1, kT_2, kT_3, kT_4, kT_5, kT_6, kT_7, kT_8, kT_9, kT_10, kT_11, kT_12, kT_13, kT_14, kT_15, kT_16, kT_17, kT_18, kT_19, kT_20, kT_21, kT_22, kT_23, kL_2, kL_3, kL_5, kL_10, kL_11, kL_12, kL_14, kL_15, kL_17, kL_18, kL_19, kL_20, kL_21, kL_22, kL_23, kW_0_0, kW_0_1, kW_0_2, kW_0_3, kW_0_4, kW_0_5, kW_0_6, kW_0_7, kW_1_4, kW_1_5, kW_4_0, kW_4_1, kW_9_0, kW_9_1, kW_9_2, kW_13_0, kW_13_1, kW_16_0, kW_16_1, kW_16_2, kW_16_3, kW_16_4, kW_16_5, kW_1_1, kW_1_2, kW_4_4, kW_8_0, kW_8_1, kW_w1_1, kW_w1_2, kW_w4_4, kW_w8_0, kW_w8_1, kI_0, kI_w0, kI_1, kI_w1, kI_2, kI_w2, kI_3, kI_w3, kI_4, kI_w4, kI_5, kI_w5, kI_6, kI_w6, kI_7, kI_w7, kI_8, kI_w8, kI_9, kI_w9, kI_10, kI_w10, kI_11, kI_w11, kI_12, kI_w12, kI_13, kI_w13, kI_14, kI_w14, kI_15, kI_w15, kI_16, kI_w16, kI_17, kI_w17, kI_18, kI_w18, kI_19, kI_w19, kI_20, kI_w20, kI_21, kI_w21, kI_22, kI_w22, kI_23, kI_w23, kT_24, kT_25, kT_26, kT_27, kT_28, kT_29, kT_30, kT_31, kT_32, kT_33, kT_34, kT_35, kT_36, kT_37, kT_38, kT_39, kT_40, kT_41, kT_42, kT_43, kT_44, kT_45, kT_46, kT_47, kT_48, kT_49, kT_50, kT_51, kT_52, kT_53, kT_54, kT_55, kT_56, kT_57, kT_58, kT_59, kT_60, kT_61, kL_25, kL_26, kL_27, kL_28, kL_29, kL_30, kL_31, kL_32, kL_33, kL_34, kL_35, kL_36, kL_37, kL_38, kL_39, kL_40, kL_41, kL_42, kL_43, kL_44, kL_45, kL_46, kL_47, kL_48, kL_49, kL_50, kL_51, kL_52, kL_53, kL_54, kL_55, kL_56, kL_57, kL_58, kL_59, kL_60, kL_61, kW_24_1, kW_24_2, kW_24_3, kW_24_4, kW_24_5, kW_24_6, kW_24_7, kW_24_8, kW_24_9, kW_24_10, kW_24_11, kW_24_12, kW_24_14, kW_24_15, kW_24_16, kW_24_17, kW_24_18, kW_24_19, kW_24_21, kW_24_22, kW_24_23, kW_24_25, kW_24_26, kW_24_27, kW_24_28, kW_24_29, kW_24_31, kW_24_32, kW_24_33, kW_24_34, kW_24_36, kW_24_37, kW_24_44, kW_24_49, kW_24_50, kW_24_51, kW_24_52, kI_24, kI_w24, kI_25, kI_w25, kI_26, kI_w26, kI_27, kI_w27, kI_28, kI_w28, kI_29, kI_w29, kI_30, kI_w30, kI_31, kI_w31, kI_32, kI_w32, kI_33, kI_w33, kI_34, kI_w34, kI_35, kI_w35, kI_36, kI_w36, kI_37, kI_w37, kI_38, kI_w38, kI_39, kI_w39, kI_40, kI_w40, kI_41, kI_w41, kI_42, kI_w42, kI_43, kI_w43, kI_44, kI_w44, kI_45, kI_w45, kI_46, kI_w46, kI_47, kI_w47, kI_48, kI_w48, kI_49, kI_w49, kI_50, kI_w50, kI_51, kI_w51, kI_52, kI_w52, kI_53, kI_w53, kI_54, kI_w54, kI_55, kI_w55, kI_56, kI_w56, kI_57, kI_w57, kI_58, kI_w58, kI_59, kI_w59, kI_60, kI_w60, kI_61, kI_w61, c_find_no g1 g2 hv, m_lease_no hG.hn h40 hv, true_or, or_true, false_or, or_false, not_true_eq_false, not_false_eq_true, true_and, and_true, false_and, and_false, and_self, decide_true, decide_false, ↓reduceIte, Bool.true_and, Bool.false_and, Bool.and_true, Bool.and_false, Bool.not_true, Bool.not_false, Bool.false_eq_true, Bool.true_or, Bool.or_true, Bool.false_or, Bool.or_false, reduceCtorEq, Bool.and_self, Bool.or_self, ne_eq]
    exact hK _ _ (kJ.mk hG)
end

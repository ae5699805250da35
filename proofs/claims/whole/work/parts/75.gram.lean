/-! STAGE B: texts' faults -/
def kFi : Option Nat → Int32
  | none => -6
  | some k => nI k
def kGp (st : Nat) : Nat := if st = 0 then 0 else if st = 1 then 1 else if st < 8 then 2 else 3
def kGm (c : Nat → Nat → Int32) (st op : Nat) : Prop := c 6 0 = nI (kGp st) ∧ c 6 1 = nI op ∧ (2 ≤ st → st < 8 → c 6 2 = nI (st - 2)) ∧ st ≤ 8 ∧ op ≤ 48
theorem gDig_n {ch : Int32} (h : gDig ch = true) : ch ≠ 38 ∧ ch ≠ 124 ∧ ch ≠ 41 ∧ ch ≠ 40 := by
  simp only [gDig, decide_eq_true_eq] at h
  refine ⟨?_, ?_, ?_, ?_⟩ <;> intro z <;> rw [z] at h <;> exact absurd h (by decide)
theorem gFact_n {ch : Int32} (h : mj_fact ch = true) : ch ≠ 40 ∧ ch ≠ 33 ∧ ch ≠ 41 := by
  refine ⟨?_, ?_, ?_⟩ <;> intro z <;> rw [z] at h <;> exact absurd h (by decide)
section
variable {B x : Nat} {t l u : Nat → Nat} {i s : Nat → Nat → Int32} {r : Nat → Nat → Nat} {q g w : Nat → Nat → Int64}
theorem kGm.up {c : Nat → Nat → Int32} {st op : Nat} {a b d : Int32} (h0 : a = nI (kGp st)) (h1 : b = nI op) (h2 : 2 ≤ st → st < 8 → d = nI (st - 2)) (h3 : st ≤ 8) (h4 : op ≤ 48) : kGm (mj_u2 (mj_u2 (mj_u2 c 6 0 a) 6 1 b) 6 2 d) st op := by
  refine ⟨by simpa [mq_u2] using h0, by simpa [mq_u2] using h1, fun x y => by simpa [mq_u2] using h2 x y, h3, h4⟩
/-- one sign is taken, as the reference's step says -/
theorem c_takes {c : Nat → Nat → Int32} {st op : Nat} {ch : Int32} (h : kGm c st op) (ho : op < 48) {post : Bool → mj_M → Prop}
    (hp : ∀ c', (∀ j, j ≠ 6 → c' j = c j) → match gSt st ch op with
      | none => post false (kT B t, kL B l, kI B i c' s, kW B r u, kI B q g w, x)
      | some st' => kGm c' st' (gOp ch op) → post true (kT B t, kL B l, kI B i c' s, kW B r u, kI B q g w, x)) : vc_X2_takes (B + 6) ch (kT B t, kL B l, kI B i c s, kW B r u, kI B q g w, x) post := by
  obtain ⟨h0, h1, h2, h3, h4⟩ := h
  have F : ∀ k v, ∀ j, j ≠ 6 → mj_u2 c 6 k v j = c j := fun k v j hj => mj_u2_ne _ hj
  have F2 : ∀ k v k' v', ∀ j, j ≠ 6 → mj_u2 (mj_u2 c 6 k v) 6 k' v' j = c j := fun k v k' v' j hj => by rw [mj_u2_ne _ hj, mj_u2_ne _ hj]
  by_cases s0 : st = 0
  · subst s0
    have g0 : gSt 0 ch op = (if ch = 33 ∨ ch = 40 then some 0 else if mj_fact ch then some 1 else none) := rfl
    simp only [vc_X2_takes, vc_X2_takesFactor, vb_X2_takesFactor_30, mq_tag, mq_len, mq_i, mq_r, mq_l, mq_nx, mq_wi, mq_wr, mq_wl, true_and, and_true, and_false, false_and, and_self, ↓reduceIte, kT_0, kT_1, kT_2, kT_3, kT_4, kT_5, kT_6, kT_7, kT_8, kT_9, kT_10, kT_11, kT_12, kT_13, kT_14, kT_15, kT_16, kT_17, kT_18, kT_19, kT_20, kT_21, kT_22, kT_23, kL_2, kL_3, kL_5, kL_10, kL_11, kL_12, kL_14, kL_15, kL_17, kL_18, kL_19, kL_20, kL_21, kL_22, kL_23, kW_0_0, kW_0_1, kW_0_2, kW_0_3, kW_0_4, kW_0_5, kW_0_6, kW_0_7, kW_1_4, kW_1_5, kW_4_0, kW_4_1, kW_9_0, kW_9_1, kW_9_2, kW_13_0, kW_13_1, kW_16_0, kW_16_1, kW_16_2, kW_16_3, kW_16_4, kW_16_5, kW_1_1, kW_1_2, kW_4_4, kW_8_0, kW_8_1, kW_w1_1, kW_w1_2, kW_w4_4, kW_w8_0, kW_w8_1, kI_0, kI_w0, kI_1, kI_w1, kI_2, kI_w2, kI_3, kI_w3, kI_4, kI_w4, kI_5, kI_w5, kI_6, kI_w6, kI_7, kI_w7, kI_8, kI_w8, kI_9, kI_w9, kI_10, kI_w10, kI_11, kI_w11, kI_12, kI_w12, kI_13, kI_w13, kI_14, kI_w14, kI_15, kI_w15, kI_16, kI_w16, kI_17, kI_w17, kI_18, kI_w18, kI_19, kI_w19, kI_20, kI_w20, kI_21, kI_w21, kI_22, kI_w22, kI_23, kI_w23, h0, h1, kGp, nI_0, c_isFact]
    rcases Bool.eq_false_or_eq_true (mj_fact ch) with hf | hf
    · obtain ⟨n40, n33, n41⟩ := gFact_n hf
      have := hp (mj_u2 c 6 0 1) (F 0 1)
      simp only [g0, hf, n40, n33, or_self, ↓reduceIte] at this
      simp only [hf, ↓reduceIte]
      refine this ⟨by simp [mq_u2, kGp]; decide, by simpa [mq_u2, gOp, n40, n41] using h1, fun z => by omega, by decide, by simp only [gOp, n40, n41, ↓reduceIte]; omega⟩
    · by_cases n40 : ch = 40
      · have := hp (mj_u2 c 6 1 (nI op + 1)) (F _ _)
        simp only [g0, n40, or_true, ↓reduceIte] at this
        simp only [hf, n40, Bool.false_eq_true, ↓reduceIte]
        refine this ⟨by simpa [mq_u2] using h0, by simp [mq_u2, gOp, nI_1], fun z => by omega, by decide, by simp only [gOp, ↓reduceIte]; omega⟩
      · have := hp c (fun _ _ => rfl)
        by_cases n33 : ch = 33
        · simp only [g0, n33, true_or, ↓reduceIte] at this
          simp only [hf, n40, n33, Bool.false_eq_true, ↓reduceIte]
          have n41 : ¬ ch = 41 := fun z => by rw [n33] at z; exact absurd z (by decide)
          rw [n33] at n40 n41
          exact this ⟨h0, by simpa [gOp, n40, n41] using h1, fun z => by omega, by decide, by simp only [gOp, n40, n41, ↓reduceIte]; omega⟩
        · simp only [g0, n33, n40, or_self, hf, Bool.false_eq_true, ↓reduceIte] at this
          simp only [hf, n40, n33, Bool.false_eq_true, ↓reduceIte]
          exact this
  · by_cases s1 : st = 1
    · subst s1
      have g0 : gSt 1 ch op = (if ch = 60 ∨ ch = 62 ∨ ch = 61 then some 2 else none) := rfl
      have := hp (mj_u2 (mj_u2 c 6 0 2) 6 2 0) (F2 _ _ _ _)
      have e1 : c 6 0 = 1 := h0
      simp only [vc_X2_takes, vc_X2_takesComparing, vc_X11_isComparing, mq_tag, mq_len, mq_i, mq_r, mq_l, mq_nx, mq_wi, mq_wr, mq_wl, true_and, and_true, and_false, false_and, and_self, ↓reduceIte, kT_0, kT_1, kT_2, kT_3, kT_4, kT_5, kT_6, kT_7, kT_8, kT_9, kT_10, kT_11, kT_12, kT_13, kT_14, kT_15, kT_16, kT_17, kT_18, kT_19, kT_20, kT_21, kT_22, kT_23, kL_2, kL_3, kL_5, kL_10, kL_11, kL_12, kL_14, kL_15, kL_17, kL_18, kL_19, kL_20, kL_21, kL_22, kL_23, kW_0_0, kW_0_1, kW_0_2, kW_0_3, kW_0_4, kW_0_5, kW_0_6, kW_0_7, kW_1_4, kW_1_5, kW_4_0, kW_4_1, kW_9_0, kW_9_1, kW_9_2, kW_13_0, kW_13_1, kW_16_0, kW_16_1, kW_16_2, kW_16_3, kW_16_4, kW_16_5, kW_1_1, kW_1_2, kW_4_4, kW_8_0, kW_8_1, kW_w1_1, kW_w1_2, kW_w4_4, kW_w8_0, kW_w8_1, kI_0, kI_w0, kI_1, kI_w1, kI_2, kI_w2, kI_3, kI_w3, kI_4, kI_w4, kI_5, kI_w5, kI_6, kI_w6, kI_7, kI_w7, kI_8, kI_w8, kI_9, kI_w9, kI_10, kI_w10, kI_11, kI_w11, kI_12, kI_w12, kI_13, kI_w13, kI_14, kI_w14, kI_15, kI_w15, kI_16, kI_w16, kI_17, kI_w17, kI_18, kI_w18, kI_19, kI_w19, kI_20, kI_w20, kI_21, kI_w21, kI_22, kI_w22, kI_23, kI_w23, e1, show ((1 : Int32) = 0) = False from eq_false (by decide)]
      have mk : ch ≠ 40 → ch ≠ 41 → kGm (mj_u2 (mj_u2 c 6 0 2) 6 2 0) 2 (gOp ch op) := fun n40 n41 =>
        ⟨by simp [mq_u2, kGp]; decide, by simpa [mq_u2, gOp, n40, n41] using h1, fun _ _ => by simp [mq_u2, nI_0], by decide, by simp only [gOp, n40, n41, ↓reduceIte]; omega⟩
      by_cases a1 : ch = 60
      · simp only [g0, a1, true_or, ↓reduceIte] at this ⊢
        exact this (by rw [← a1]; exact mk (by rw [a1]; decide) (by rw [a1]; decide))
      · by_cases a2 : ch = 62
        · simp only [g0, a2, true_or, or_true, ↓reduceIte] at this
          simp only [a1, a2, ↓reduceIte]
          have a1' := a1
          rw [a2] at a1'
          simp only [a1', ↓reduceIte]
          exact this (by rw [← a2]; exact mk (by rw [a2]; decide) (by rw [a2]; decide))
        · by_cases a3 : ch = 61
          · simp only [g0, a3, or_true, ↓reduceIte] at this
            have a1' := a1
            have a2' := a2
            rw [a3] at a1' a2'
            simp only [a3, a1', a2', ↓reduceIte]
            exact this (by rw [← a3]; exact mk (by rw [a3]; decide) (by rw [a3]; decide))
          · simp only [g0, a1, a2, a3, or_self, ↓reduceIte] at this ⊢
            exact this
    · have g0 : gSt st ch op = (if st < 7 ∧ gDig ch then some (st + 1) else if st = 2 then none else if ch = 38 ∨ ch = 124 then some 0 else if ch = 41 ∧ 0 < op then some 8 else none) := by
        unfold gSt; rw [if_neg s0, if_neg s1]
      have p2 : kGp st = if st < 8 then 2 else 3 := by unfold kGp; rw [if_neg s0, if_neg s1]
      have e0 : (c 6 0 = 0) = False := by rw [h0, p2]; split <;> exact eq_false (by decide)
      have e1 : (c 6 0 = 1) = False := by rw [h0, p2]; split <;> exact eq_false (by decide)
      have e2 : (c 6 0 = 2) = (st < 8) := by
        rw [h0, p2]
        by_cases z : st < 8
        · simp only [z, ↓reduceIte]; exact eq_true (by decide)
        · simp only [z, ↓reduceIte]; exact eq_false (by decide)
      have e3 : (c 6 0 = 3) = (¬ st < 8) := by
        rw [h0, p2]
        by_cases z : st < 8
        · simp only [z, ↓reduceIte, not_true_eq_false]; exact eq_false (by decide)
        · simp only [z, ↓reduceIte, not_false_eq_true]; exact eq_true (by decide)
      rcases Bool.eq_false_or_eq_true (gDig ch) with hd | hd
      · obtain ⟨d1, d2, d3, d4⟩ := gDig_n hd
        have := hp (mj_u2 c 6 2 (c 6 2 + 1)) (F _ _)
        simp only [g0, hd, d1, d2, d3, and_true, false_and, or_self, ↓reduceIte] at this
        simp only [vc_X2_takes, vc_X2_takesDigit, c_isDigit, mq_tag, mq_len, mq_i, mq_r, mq_l, mq_nx, mq_wi, mq_wr, mq_wl, true_and, and_true, and_false, false_and, and_self, ↓reduceIte, kT_0, kT_1, kT_2, kT_3, kT_4, kT_5, kT_6, kT_7, kT_8, kT_9, kT_10, kT_11, kT_12, kT_13, kT_14, kT_15, kT_16, kT_17, kT_18, kT_19, kT_20, kT_21, kT_22, kT_23, kL_2, kL_3, kL_5, kL_10, kL_11, kL_12, kL_14, kL_15, kL_17, kL_18, kL_19, kL_20, kL_21, kL_22, kL_23, kW_0_0, kW_0_1, kW_0_2, kW_0_3, kW_0_4, kW_0_5, kW_0_6, kW_0_7, kW_1_4, kW_1_5, kW_4_0, kW_4_1, kW_9_0, kW_9_1, kW_9_2, kW_13_0, kW_13_1, kW_16_0, kW_16_1, kW_16_2, kW_16_3, kW_16_4, kW_16_5, kW_1_1, kW_1_2, kW_4_4, kW_8_0, kW_8_1, kW_w1_1, kW_w1_2, kW_w4_4, kW_w8_0, kW_w8_1, kI_0, kI_w0, kI_1, kI_w1, kI_2, kI_w2, kI_3, kI_w3, kI_4, kI_w4, kI_5, kI_w5, kI_6, kI_w6, kI_7, kI_w7, kI_8, kI_w8, kI_9, kI_w9, kI_10, kI_w10, kI_11, kI_w11, kI_12, kI_w12, kI_13, kI_w13, kI_14, kI_w14, kI_15, kI_w15, kI_16, kI_w16, kI_17, kI_w17, kI_18, kI_w18, kI_19, kI_w19, kI_20, kI_w20, kI_21, kI_w21, kI_22, kI_w22, kI_23, kI_w23, e0, e1, e2, hd, mq_u2s, mq_u2k, ne_eq, Nat.reduceEqDiff, not_false_eq_true]
        by_cases z7 : st < 7
        · have z8 : st < 8 := by omega
          have hc := h2 (by omega) z8
          have l5 : ¬ (5 : Int32) < c 6 2 + 1 := by
            rw [hc, nI_1, show (5 : Int32) = nI 5 by decide, ix_lt (by decide) (by omega)]; omega
          simp only [z7, ↓reduceIte] at this
          simp only [z8, l5, ↓reduceIte]
          refine this ⟨?_, by simpa [mq_u2, gOp, d3, d4] using h1, fun _ _ => ?_, by omega, by simp only [gOp, d3, d4, ↓reduceIte]; omega⟩
          · rw [mq_u2k (by decide), h0, p2]; unfold kGp; rw [if_pos z8, if_neg (by omega), if_neg (by omega), if_pos (by omega)]
          · rw [mq_u2s, hc, nI_1, show st - 2 + 1 = st + 1 - 2 by omega]
        · simp only [z7, ↓reduceIte] at this
          have this : post false (kT B t, kL B l, kI B i (mj_u2 c 6 2 (c 6 2 + 1)) s, kW B r u, kI B q g w, x) := by
            by_cases z2 : st = 2
            · omega
            · simp only [z2, ↓reduceIte] at this; exact this
          by_cases z8 : st < 8
          · have hc := h2 (by omega) z8
            have l5 : (5 : Int32) < c 6 2 + 1 := by
              rw [hc, nI_1, show (5 : Int32) = nI 5 by decide, ix_lt (by decide) (by omega)]; omega
            simp only [z8, l5, ↓reduceIte]; exact this
          · simp only [z8, ↓reduceIte]; exact this
      · simp only [g0, hd, Bool.false_eq_true, and_false, ↓reduceIte] at hp
        simp only [vc_X2_takes, vc_X2_takesLink, vc_X2_isBehindFactor, c_isDigit, mq_tag, mq_len, mq_i, mq_r, mq_l, mq_nx, mq_wi, mq_wr, mq_wl, true_and, and_true, and_false, false_and, and_self, ↓reduceIte, kT_0, kT_1, kT_2, kT_3, kT_4, kT_5, kT_6, kT_7, kT_8, kT_9, kT_10, kT_11, kT_12, kT_13, kT_14, kT_15, kT_16, kT_17, kT_18, kT_19, kT_20, kT_21, kT_22, kT_23, kL_2, kL_3, kL_5, kL_10, kL_11, kL_12, kL_14, kL_15, kL_17, kL_18, kL_19, kL_20, kL_21, kL_22, kL_23, kW_0_0, kW_0_1, kW_0_2, kW_0_3, kW_0_4, kW_0_5, kW_0_6, kW_0_7, kW_1_4, kW_1_5, kW_4_0, kW_4_1, kW_9_0, kW_9_1, kW_9_2, kW_13_0, kW_13_1, kW_16_0, kW_16_1, kW_16_2, kW_16_3, kW_16_4, kW_16_5, kW_1_1, kW_1_2, kW_4_4, kW_8_0, kW_8_1, kW_w1_1, kW_w1_2, kW_w4_4, kW_w8_0, kW_w8_1, kI_0, kI_w0, kI_1, kI_w1, kI_2, kI_w2, kI_3, kI_w3, kI_4, kI_w4, kI_5, kI_w5, kI_6, kI_w6, kI_7, kI_w7, kI_8, kI_w8, kI_9, kI_w9, kI_10, kI_w10, kI_11, kI_w11, kI_12, kI_w12, kI_13, kI_w13, kI_14, kI_w14, kI_15, kI_w15, kI_16, kI_w16, kI_17, kI_w17, kI_18, kI_w18, kI_19, kI_w19, kI_20, kI_w20, kI_21, kI_w21, kI_22, kI_w22, kI_23, kI_w23, e0, e1, e2, e3, hd, mq_u2s, mq_u2k, ne_eq, Nat.reduceEqDiff, not_false_eq_true, Bool.false_eq_true]
        by_cases z2 : st = 2
        · have hc := h2 (by omega) (by omega)
          have hc0 : c 6 2 ≤ 0 := by rw [hc, z2]; decide
          have := hp c (fun _ _ => rfl)
          simp only [z2, ↓reduceIte] at this
          simp only [z2, hc0, Nat.reduceLT, not_true_eq_false, ↓reduceIte]; exact this
        · simp only [z2, ↓reduceIte] at hp
          have beh : ∀ P Q : Prop, (P → (if ¬ st < 8 then P else if st < 8 then (if c 6 2 ≤ 0 then Q else P) else Q)) := by
            intro P Q hP
            by_cases z8 : st < 8
            · have hc := h2 (by omega) z8
              have hc0 : ¬ c 6 2 ≤ 0 := by rw [hc]; exact nI_nle (by omega) (by omega)
              simp only [z8, hc0, not_true_eq_false, ↓reduceIte]; exact hP
            · simp only [z8, not_false_eq_true, ↓reduceIte]; exact hP
          refine beh _ _ ?_
          by_cases a41 : ch = 41
          · have := hp (mj_u2 (mj_u2 c 6 0 3) 6 1 (c 6 1 - 1)) (F2 _ _ _ _)
            have n38 : ¬ (ch = 38 ∨ ch = 124) := by rw [a41]; decide
            simp only [n38, a41, true_and, ↓reduceIte] at this
            rw [a41] at n38
            simp only [n38, ↓reduceIte] at this
            simp only [a41, ↓reduceIte]
            by_cases p0 : 0 < op
            · have l0 : ¬ c 6 1 - 1 < 0 := by rw [h1, ix_sub1 p0]; exact nI_pos (by omega)
              simp only [p0, ↓reduceIte] at this
              simp only [l0, ↓reduceIte]
              refine this ⟨by simp [mq_u2, kGp]; decide, ?_, fun _ z => by omega, by decide, by simp only [gOp, ↓reduceIte, show ((41 : Int32) = 40) = False from eq_false (by decide)]; omega⟩
              rw [mq_u2s, h1, ix_sub1 p0]; rfl
            · have op0 : op = 0 := by omega
              have l0 : c 6 1 - 1 < 0 := by rw [h1, op0]; decide
              simp only [p0, ↓reduceIte] at this
              simp only [l0, ↓reduceIte]; exact this
          · have := hp (mj_u2 c 6 0 0) (F _ _)
            simp only [a41, false_and, ↓reduceIte] at this
            simp only [a41, ↓reduceIte]
            have mk : ch ≠ 40 → kGm (mj_u2 c 6 0 0) 0 (gOp ch op) := fun n40 => ⟨by simp [mq_u2, kGp, nI_0], by simpa [mq_u2, gOp, n40, a41] using h1, fun z => by omega, by decide, by simp only [gOp, n40, a41, ↓reduceIte]; omega⟩
            by_cases a38 : ch = 38
            · simp only [a38, true_or, ↓reduceIte] at this ⊢
              exact this (by rw [← a38]; exact mk (by rw [a38]; decide))
            · by_cases a124 : ch = 124
              · simp only [a124, or_true, ↓reduceIte] at this
                have a38' := a38
                rw [a124] at a38'
                simp only [a124, a38', ↓reduceIte]
                exact this (by rw [← a124]; exact mk (by rw [a124]; decide))
              · simp only [a38, a124, or_self, ↓reduceIte] at this ⊢
                exact this
def kTk (c : Nat → Nat → Int32) (ch : Int32) : Bool × (Nat → Nat → Int32) :=
  if c 6 0 = 0 then (if mj_fact ch = true then (true, mj_u2 c 6 0 1) else if ch = 40 then (true, mj_u2 c 6 1 (c 6 1 + 1)) else if ch = 33 then (true, c) else (false, c))
  else if c 6 0 = 1 then (decide (ch = 60 ∨ ch = 62 ∨ ch = 61), mj_u2 (mj_u2 c 6 0 2) 6 2 0)
  else if gDig ch = true then (decide (c 6 0 = 2 ∧ ¬ 5 < c 6 2 + 1), mj_u2 c 6 2 (c 6 2 + 1))
  else if (c 6 0 = 3 ∨ (c 6 0 = 2 ∧ ¬ c 6 2 ≤ 0)) then (if ch = 41 then (decide (¬ c 6 1 - 1 < 0), mj_u2 (mj_u2 c 6 0 3) 6 1 (c 6 1 - 1)) else (decide (ch = 38 ∨ ch = 124), mj_u2 c 6 0 0))
  else (false, c)
theorem c_tk {c : Nat → Nat → Int32} {ch : Int32} {post : Bool → mj_M → Prop} : vc_X2_takes (B + 6) ch (kT B t, kL B l, kI B i c s, kW B r u, kI B q g w, x) post = post (kTk c ch).1 (kT B t, kL B l, kI B i (kTk c ch).2 s, kW B r u, kI B q g w, x) := by
  simp only [vc_X2_takes, vc_X2_takesFactor, vb_X2_takesFactor_30, vc_X2_takesComparing, vc_X11_isComparing, vc_X2_takesDigit, vc_X2_takesLink, vc_X2_isBehindFactor, c_isDigit, c_isFact, mq_tag, mq_len, mq_i, mq_r, mq_l, mq_nx, mq_wi, mq_wr, mq_wl, true_and, and_true, and_false, false_and, and_self, ↓reduceIte, kT_0, kT_1, kT_2, kT_3, kT_4, kT_5, kT_6, kT_7, kT_8, kT_9, kT_10, kT_11, kT_12, kT_13, kT_14, kT_15, kT_16, kT_17, kT_18, kT_19, kT_20, kT_21, kT_22, kT_23, kL_2, kL_3, kL_5, kL_10, kL_11, kL_12, kL_14, kL_15, kL_17, kL_18, kL_19, kL_20, kL_21, kL_22, kL_23, kW_0_0, kW_0_1, kW_0_2, kW_0_3, kW_0_4, kW_0_5, kW_0_6, kW_0_7, kW_1_4, kW_1_5, kW_4_0, kW_4_1, kW_9_0, kW_9_1, kW_9_2, kW_13_0, kW_13_1, kW_16_0, kW_16_1, kW_16_2, kW_16_3, kW_16_4, kW_16_5, kW_1_1, kW_1_2, kW_4_4, kW_8_0, kW_8_1, kW_w1_1, kW_w1_2, kW_w4_4, kW_w8_0, kW_w8_1, kI_0, kI_w0, kI_1, kI_w1, kI_2, kI_w2, kI_3, kI_w3, kI_4, kI_w4, kI_5, kI_w5, kI_6, kI_w6, kI_7, kI_w7, kI_8, kI_w8, kI_9, kI_w9, kI_10, kI_w10, kI_11, kI_w11, kI_12, kI_w12, kI_13, kI_w13, kI_14, kI_w14, kI_15, kI_w15, kI_16, kI_w16, kI_17, kI_w17, kI_18, kI_w18, kI_19, kI_w19, kI_20, kI_w20, kI_21, kI_w21, kI_22, kI_w22, kI_23, kI_w23, mq_u2s, mq_u2k, ne_eq, Nat.reduceEqDiff, not_false_eq_true, kTk]
  rcases Classical.propComplete (c 6 0 = 0) with p0 | p0
  · simp only [p0, ↓reduceIte]
    rcases Bool.eq_false_or_eq_true (mj_fact ch) with hf | hf <;> rcases Classical.propComplete (ch = 40) with c1 | c1 <;> rcases Classical.propComplete (ch = 33) with c2 | c2 <;> simp only [hf, c1, c2, Bool.false_eq_true, ↓reduceIte]
  · rcases Classical.propComplete (c 6 0 = 1) with p1 | p1
    · simp only [p0, p1, ↓reduceIte]
      rcases Classical.propComplete (ch = 60) with c1 | c1 <;> rcases Classical.propComplete (ch = 62) with c2 | c2 <;> rcases Classical.propComplete (ch = 61) with c3 | c3 <;> simp only [c1, c2, c3, true_or, or_true, false_or, or_false, not_true_eq_false, not_false_eq_true, true_and, and_true, false_and, and_false, and_self, decide_true, decide_false, ↓reduceIte, Bool.true_and, Bool.false_and, Bool.and_true, Bool.and_false, Bool.not_true, Bool.not_false, Bool.false_eq_true, Bool.true_or, Bool.or_true, Bool.false_or, Bool.or_false, reduceCtorEq, Bool.and_self, Bool.or_self, ne_eq]
    · simp only [p0, p1, ↓reduceIte]
      rcases Bool.eq_false_or_eq_true (gDig ch) with hd | hd
      · rcases Classical.propComplete (c 6 0 = 2) with c1 | c1 <;> rcases Classical.propComplete (5 < c 6 2 + 1) with c2 | c2 <;> simp only [hd, c1, c2, true_or, or_true, false_or, or_false, not_true_eq_false, not_false_eq_true, true_and, and_true, false_and, and_false, and_self, decide_true, decide_false, ↓reduceIte, Bool.true_and, Bool.false_and, Bool.and_true, Bool.and_false, Bool.not_true, Bool.not_false, Bool.false_eq_true, Bool.true_or, Bool.or_true, Bool.false_or, Bool.or_false, reduceCtorEq, Bool.and_self, Bool.or_self, ne_eq]
      · rcases Classical.propComplete (c 6 0 = 3) with c1 | c1 <;> rcases Classical.propComplete (c 6 0 = 2) with c2 | c2 <;> rcases Classical.propComplete (c 6 2 ≤ 0) with c6 | c6 <;> rcases Classical.propComplete (ch = 41) with c3 | c3 <;> rcases Classical.propComplete (c 6 1 - 1 < 0) with c4 | c4 <;> rcases Classical.propComplete (ch = 38) with c5 | c5 <;> rcases Classical.propComplete (ch = 124) with c7 | c7 <;> simp only [hd, c1, c2, c3, c4, c5, c6, c7, true_or, or_true, false_or, or_false, not_true_eq_false, not_false_eq_true, true_and, and_true, false_and, and_false, and_self, decide_true, decide_false, ↓reduceIte, Bool.true_and, Bool.false_and, Bool.and_true, Bool.and_false, Bool.not_true, Bool.not_false, Bool.false_eq_true, Bool.true_or, Bool.or_true, Bool.false_or, Bool.or_false, reduceCtorEq, Bool.and_self, Bool.or_self, ne_eq]
theorem c_takesE {c : Nat → Nat → Int32} {st op : Nat} {ch : Int32} (h : kGm c st op) (ho : op < 48) : ∃ (v : Bool) (c' : Nat → Nat → Int32), (∀ j, j ≠ 6 → c' j = c j) ∧ (match gSt st ch op with | none => v = false | some st' => v = true ∧ kGm c' st' (gOp ch op)) ∧
    ∀ post : Bool → mj_M → Prop, vc_X2_takes (B + 6) ch (kT B t, kL B l, kI B i c s, kW B r u, kI B q g w, x) post = post v (kT B t, kL B l, kI B i c' s, kW B r u, kI B q g w, x) := by
  have key := c_takes (B := B) (x := x) (t := t) (l := l) (u := u) (i := i) (s := s) (r := r) (q := q) (g := g) (w := w) (ch := ch) h ho (post := fun v M' => ∃ c' : Nat → Nat → Int32, (∀ j, j ≠ 6 → c' j = c j) ∧ M' = (kT B t, kL B l, kI B i c' s, kW B r u, kI B q g w, x) ∧ (match gSt st ch op with | none => v = false | some st' => v = true ∧ kGm c' st' (gOp ch op))) (fun c' hc' => by
    cases gSt st ch op with
    | none => exact ⟨c', hc', rfl, rfl⟩
    | some st' => exact fun hm => ⟨c', hc', rfl, rfl, hm⟩)
  rw [c_tk] at key
  obtain ⟨c', h1, h2, h3⟩ := key
  exact ⟨(kTk c ch).1, c', h1, h3, fun post => by rw [c_tk, h2]⟩
theorem cl_fp {n0 : Nat} {post : Int32 → mj_M → Prop} (f : Nat → Int32) : ∀ (m k st op : Nat) (c : Nat → Nat → Int32), k + m = n0 → n0 ≤ 48 → kGm c st op → op ≤ k → c 4 2 = nI n0 → c 5 = f →
    (∀ c', (∀ j, j ≠ 6 → c' j = c j) → post (kFi (gF f m k st op)) (kT B t, kL B l, kI B i c' s, kW B r u, kI B q g w, x)) → ∃ fe, vb_X1_faultPlace_9 post fe (B + 4) (nI k) (kT B t, kL B l, kI B i c s, kW B r u, kI B q g w, x)
  | 0, k, st, op, c, hk, h48, h, ho, hl, hf, hp => by
    obtain ⟨h0, h1, h2, h3, h4⟩ := h
    have := hp c (fun _ _ => rfl)
    refine ex_imp ⟨0, ?_⟩
    have kn : k = n0 := by omega
    subst kn
    have e1 : (nI op = 0) = (op = 0) := by rw [← nI_0, ix_eq (by omega) (by decide)]
    simp only [vb_X1_faultPlace_9, vc_X2_isComplete, vc_X2_isBehindFactor, mq_tag, mq_len, mq_i, mq_r, mq_l, mq_nx, mq_wi, mq_wr, mq_wl, true_and, and_true, and_false, false_and, and_self, ↓reduceIte, kT_0, kT_1, kT_2, kT_3, kT_4, kT_5, kT_6, kT_7, kT_8, kT_9, kT_10, kT_11, kT_12, kT_13, kT_14, kT_15, kT_16, kT_17, kT_18, kT_19, kT_20, kT_21, kT_22, kT_23, kL_2, kL_3, kL_5, kL_10, kL_11, kL_12, kL_14, kL_15, kL_17, kL_18, kL_19, kL_20, kL_21, kL_22, kL_23, kW_0_0, kW_0_1, kW_0_2, kW_0_3, kW_0_4, kW_0_5, kW_0_6, kW_0_7, kW_1_4, kW_1_5, kW_4_0, kW_4_1, kW_9_0, kW_9_1, kW_9_2, kW_13_0, kW_13_1, kW_16_0, kW_16_1, kW_16_2, kW_16_3, kW_16_4, kW_16_5, kW_1_1, kW_1_2, kW_4_4, kW_8_0, kW_8_1, kW_w1_1, kW_w1_2, kW_w4_4, kW_w8_0, kW_w8_1, kI_0, kI_w0, kI_1, kI_w1, kI_2, kI_w2, kI_3, kI_w3, kI_4, kI_w4, kI_5, kI_w5, kI_6, kI_w6, kI_7, kI_w7, kI_8, kI_w8, kI_9, kI_w9, kI_10, kI_w10, kI_11, kI_w11, kI_12, kI_w12, kI_13, kI_w13, kI_14, kI_w14, kI_15, kI_w15, kI_16, kI_w16, kI_17, kI_w17, kI_18, kI_w18, kI_19, kI_w19, kI_20, kI_w20, kI_21, kI_w21, kI_22, kI_w22, kI_23, kI_w23, hl, h0, h1, e1, Int32.le_refl]
    simp only [gF] at this
    by_cases o0 : op = 0
    · simp only [o0, and_true, ↓reduceIte] at this ⊢
      by_cases s8 : st = 8
      · subst s8
        simp only [Nat.reduceLT, ↓reduceIte, kFi] at this
        simp only [kGp, Nat.reduceEqDiff, Nat.reduceLT, ↓reduceIte, show (nI 3 = 3) = True from eq_true (by decide)]; exact this
      · by_cases s2 : 2 ≤ st
        · have hc := h2 s2 (by omega)
          have p2 : kGp st = 2 := by unfold kGp; rw [if_neg (by omega), if_neg (by omega), if_pos (by omega)]
          simp only [p2, show (nI 2 = 3) = False from eq_false (by decide), show (nI 2 = 2) = True from eq_true (by decide), hc, ↓reduceIte]
          by_cases s3 : 2 < st
          · have hc0 : ¬ nI (st - 2) ≤ 0 := nI_nle (by omega) (by omega)
            simp only [s3, ↓reduceIte, kFi] at this
            simp only [hc0, ↓reduceIte]; exact this
          · have hc0 : nI (st - 2) ≤ 0 := by rw [show st - 2 = 0 by omega]; decide
            simp only [s3, ↓reduceIte, kFi] at this
            simp only [hc0, Bool.false_eq_true, ↓reduceIte]; exact this
        · have s3 : ¬ 2 < st := by omega
          simp only [s3, ↓reduceIte, kFi] at this
          have p2 : kGp st = st := by
            unfold kGp
            by_cases z : st = 0
            · rw [if_pos z]; omega
            · rw [if_neg z, if_pos (by omega)]; omega
          have n3 : (nI st = 3) = False := by rw [show (3 : Int32) = nI 3 by decide, ix_eq (by omega) (by decide)]; exact eq_false (by omega)
          have n2 : (nI st = 2) = False := by rw [show (2 : Int32) = nI 2 by decide, ix_eq (by omega) (by decide)]; exact eq_false (by omega)
          simp only [p2, n3, n2, Bool.false_eq_true, ↓reduceIte]; exact this
    · simp only [o0, and_false, ↓reduceIte, kFi] at this
      simp only [o0, Bool.false_eq_true, ↓reduceIte]; exact this
  | m + 1, k, st, op, c, hk, h48, h, ho, hl, hf, hp => by
    have k1 : k < 2147483648 := by omega
    have n1 : n0 < 2147483648 := by omega
    obtain ⟨v, c', hc', hm, hv⟩ := c_takesE (B := B) (x := x) (t := t) (l := l) (u := u) (i := i) (s := s) (r := r) (q := q) (g := g) (w := w) (ch := f k) h (by omega)
    have e : gF f (m + 1) k st op = match gSt st (f k) op with
      | none => some k
      | some st' => gF f m (k + 1) st' (gOp (f k) op) := rfl
    have ef : c 5 k = f k := by rw [hf]
    rw [ex_succ rfl]
    simp only [vb_X1_faultPlace_9, mq_tag, mq_len, mq_i, mq_r, mq_l, mq_nx, mq_wi, mq_wr, mq_wl, true_and, and_true, and_false, false_and, and_self, ↓reduceIte, kT_0, kT_1, kT_2, kT_3, kT_4, kT_5, kT_6, kT_7, kT_8, kT_9, kT_10, kT_11, kT_12, kT_13, kT_14, kT_15, kT_16, kT_17, kT_18, kT_19, kT_20, kT_21, kT_22, kT_23, kL_2, kL_3, kL_5, kL_10, kL_11, kL_12, kL_14, kL_15, kL_17, kL_18, kL_19, kL_20, kL_21, kL_22, kL_23, kW_0_0, kW_0_1, kW_0_2, kW_0_3, kW_0_4, kW_0_5, kW_0_6, kW_0_7, kW_1_4, kW_1_5, kW_4_0, kW_4_1, kW_9_0, kW_9_1, kW_9_2, kW_13_0, kW_13_1, kW_16_0, kW_16_1, kW_16_2, kW_16_3, kW_16_4, kW_16_5, kW_1_1, kW_1_2, kW_4_4, kW_8_0, kW_8_1, kW_w1_1, kW_w1_2, kW_w4_4, kW_w8_0, kW_w8_1, kI_0, kI_w0, kI_1, kI_w1, kI_2, kI_w2, kI_3, kI_w3, kI_4, kI_w4, kI_5, kI_w5, kI_6, kI_w6, kI_7, kI_w7, kI_8, kI_w8, kI_9, kI_w9, kI_10, kI_w10, kI_11, kI_w11, kI_12, kI_w12, kI_13, kI_w13, kI_14, kI_w14, kI_15, kI_w15, kI_16, kI_w16, kI_17, kI_w17, kI_18, kI_w18, kI_19, kI_w19, kI_20, kI_w20, kI_21, kI_w21, kI_22, kI_w22, kI_23, kI_w23, hl, ix_le n1 k1, show ¬ n0 ≤ k by omega, ix_in k1, ix_nat k1, show k < 48 by omega, ef, hv, nI_1]
    cases hg : gSt st (f k) op with
    | none =>
      rw [hg] at e hm
      simp only [hm, Bool.false_eq_true, ↓reduceIte, exists_const]
      have := hp c' hc'
      rw [e] at this; exact this
    | some st' =>
      rw [hg] at e hm
      simp only [hm.1, ↓reduceIte]
      refine cl_fp f m (k + 1) st' (gOp (f k) op) c' (by omega) h48 hm.2 ?_ (by rw [hc' 4 (by decide)]; exact hl) (by rw [hc' 5 (by decide)]; exact hf) fun c'' hc'' => ?_
      · unfold gOp; split
        · omega
        · split <;> omega
      · have := hp c'' (fun j hj => by rw [hc'' j hj, hc' j hj])
        rw [e] at this; exact this
end
section
variable {B x : Nat} {t l u : Nat → Nat} {i c : Nat → Nat → Int32} {r : Nat → Nat → Nat} {q g w : Nat → Nat → Int64}
theorem m_isFact {v : Int32} {M : mj_M} {post : Bool → mj_M → Prop} : vc_X12_isFact v M post = post (mj_fact v) M := by
  unfold vc_X12_isFact mj_fact
  by_cases c1 : v = 108
  · simp only [c1, true_or, or_true, false_or, or_false, not_true_eq_false, not_false_eq_true, true_and, and_true, false_and, and_false, and_self, decide_true, decide_false, ↓reduceIte, Bool.true_and, Bool.false_and, Bool.and_true, Bool.and_false, Bool.not_true, Bool.not_false, Bool.false_eq_true, Bool.true_or, Bool.or_true, Bool.false_or, Bool.or_false, reduceCtorEq, Bool.and_self, Bool.or_self, ne_eq]
  · by_cases c2 : v = 116
    · simp only [c1, c2, true_or, or_true, false_or, or_false, not_true_eq_false, not_false_eq_true, true_and, and_true, false_and, and_false, and_self, decide_true, decide_false, ↓reduceIte, Bool.true_and, Bool.false_and, Bool.and_true, Bool.and_false, Bool.not_true, Bool.not_false, Bool.false_eq_true, Bool.true_or, Bool.or_true, Bool.false_or, Bool.or_false, reduceCtorEq, Bool.and_self, Bool.or_self, ne_eq]; rfl
    · by_cases c3 : v = 104
      · simp only [c1, c2, c3, true_or, or_true, false_or, or_false, not_true_eq_false, not_false_eq_true, true_and, and_true, false_and, and_false, and_self, decide_true, decide_false, ↓reduceIte, Bool.true_and, Bool.false_and, Bool.and_true, Bool.and_false, Bool.not_true, Bool.not_false, Bool.false_eq_true, Bool.true_or, Bool.or_true, Bool.false_or, Bool.or_false, reduceCtorEq, Bool.and_self, Bool.or_self, ne_eq]; rfl
      · by_cases c4 : v = 114
        · simp only [c1, c2, c3, c4, true_or, or_true, false_or, or_false, not_true_eq_false, not_false_eq_true, true_and, and_true, false_and, and_false, and_self, decide_true, decide_false, ↓reduceIte, Bool.true_and, Bool.false_and, Bool.and_true, Bool.and_false, Bool.not_true, Bool.not_false, Bool.false_eq_true, Bool.true_or, Bool.or_true, Bool.false_or, Bool.or_false, reduceCtorEq, Bool.and_self, Bool.or_self, ne_eq]; rfl
        · by_cases c5 : v = 102
          · simp only [c1, c2, c3, c4, c5, true_or, or_true, false_or, or_false, not_true_eq_false, not_false_eq_true, true_and, and_true, false_and, and_false, and_self, decide_true, decide_false, ↓reduceIte, Bool.true_and, Bool.false_and, Bool.and_true, Bool.and_false, Bool.not_true, Bool.not_false, Bool.false_eq_true, Bool.true_or, Bool.or_true, Bool.false_or, Bool.or_false, reduceCtorEq, Bool.and_self, Bool.or_self, ne_eq]; rfl
          · by_cases c6 : v = 111
            · simp only [c1, c2, c3, c4, c5, c6, true_or, or_true, false_or, or_false, not_true_eq_false, not_false_eq_true, true_and, and_true, false_and, and_false, and_self, decide_true, decide_false, ↓reduceIte, Bool.true_and, Bool.false_and, Bool.and_true, Bool.and_false, Bool.not_true, Bool.not_false, Bool.false_eq_true, Bool.true_or, Bool.or_true, Bool.false_or, Bool.or_false, reduceCtorEq, Bool.and_self, Bool.or_self, ne_eq]; rfl
            · by_cases c7 : v = 115 <;> simp only [c1, c2, c3, c4, c5, c6, c7, true_or, or_true, false_or, or_false, not_true_eq_false, not_false_eq_true, true_and, and_true, false_and, and_false, and_self, decide_true, decide_false, ↓reduceIte, Bool.true_and, Bool.false_and, Bool.and_true, Bool.and_false, Bool.not_true, Bool.not_false, Bool.false_eq_true, Bool.true_or, Bool.or_true, Bool.false_or, Bool.or_false, reduceCtorEq, Bool.and_self, Bool.or_self, ne_eq]
              rfl
def kSi : Option Nat → Int32
  | none => -1
  | some k => nI k
theorem m_step {st op : Nat} {ch : Int32} (hs : st ≤ 8) (ho : op ≤ 48) {M : mj_M} {post : Int32 → mj_M → Prop} : vc_X12_stepOf (nI st) ch (nI op) M post = post (kSi (gSt st ch op)) M := by
  have e0 : (nI st = 0) = (st = 0) := by rw [← nI_0, ix_eq (by omega) (by decide)]
  have e1 : (nI st = 1) = (st = 1) := by rw [show (1 : Int32) = nI 1 by decide, ix_eq (by omega) (by decide)]
  have e2 : (nI st = 2) = (st = 2) := by rw [show (2 : Int32) = nI 2 by decide, ix_eq (by omega) (by decide)]
  have e7 : (7 ≤ nI st) = (7 ≤ st) := by rw [show (7 : Int32) = nI 7 by decide, ix_le (by decide) (by omega)]
  have eo : (nI op ≤ 0) = (op = 0) := by
    by_cases z : op = 0
    · rw [z]; simp [nI_0]
    · rw [eq_false z]; exact eq_false (nI_nle (by omega) (by omega))
  have z8 : (8 : Int32) = nI 8 := by decide
  have z2 : (2 : Int32) = nI 2 := by decide
  have z1 : (1 : Int32) = nI 1 := by decide
  simp only [vc_X12_stepOf, vb_X12_stepOf_79, e0, e1, e2, e7, eo, m_isFact, m_isDigit, gSt, nI_1]
  by_cases s0 : st = 0
  · simp only [s0, ↓reduceIte]
    by_cases c1 : ch = 33 <;> by_cases c2 : ch = 40 <;> rcases Bool.eq_false_or_eq_true (mj_fact ch) with hf | hf <;> simp only [c1, c2, hf, kSi, nI_0, true_or, or_true, false_or, or_false, not_true_eq_false, not_false_eq_true, true_and, and_true, false_and, and_false, and_self, decide_true, decide_false, ↓reduceIte, Bool.true_and, Bool.false_and, Bool.and_true, Bool.and_false, Bool.not_true, Bool.not_false, Bool.false_eq_true, Bool.true_or, Bool.or_true, Bool.false_or, Bool.or_false, reduceCtorEq, Bool.and_self, Bool.or_self, ne_eq] <;> rfl
  · by_cases s1 : st = 1
    · simp only [s1, Nat.reduceEqDiff, ↓reduceIte]
      by_cases c1 : ch = 60 <;> by_cases c2 : ch = 62 <;> by_cases c3 : ch = 61 <;> simp only [c1, c2, c3, kSi, true_or, or_true, false_or, or_false, not_true_eq_false, not_false_eq_true, true_and, and_true, false_and, and_false, and_self, decide_true, decide_false, ↓reduceIte, Bool.true_and, Bool.false_and, Bool.and_true, Bool.and_false, Bool.not_true, Bool.not_false, Bool.false_eq_true, Bool.true_or, Bool.or_true, Bool.false_or, Bool.or_false, reduceCtorEq, Bool.and_self, Bool.or_self, ne_eq] <;> rfl
    · simp only [s0, s1, ↓reduceIte]
      by_cases s7 : 7 ≤ st
      · have n7 : ¬ st < 7 := by omega
        by_cases c0 : st = 2
        · omega
        · by_cases c1 : ch = 38 <;> by_cases c2 : ch = 124 <;> by_cases c3 : ch = 41 <;> by_cases c4 : op = 0 <;> simp only [s7, n7, c0, c1, c2, c3, c4, kSi, show (0 < op) = (¬ op = 0) from propext ⟨fun z => by omega, fun z => by omega⟩, true_or, or_true, false_or, or_false, not_true_eq_false, not_false_eq_true, true_and, and_true, false_and, and_false, and_self, decide_true, decide_false, ↓reduceIte, Bool.true_and, Bool.false_and, Bool.and_true, Bool.and_false, Bool.not_true, Bool.not_false, Bool.false_eq_true, Bool.true_or, Bool.or_true, Bool.false_or, Bool.or_false, reduceCtorEq, Bool.and_self, Bool.or_self, ne_eq] <;> first | rfl | decide | (rw [if_neg (by decide)]; rfl)
      · have n7 : st < 7 := by omega
        rcases Bool.eq_false_or_eq_true (gDig ch) with hd | hd
        · simp only [s7, n7, hd, kSi, true_or, or_true, false_or, or_false, not_true_eq_false, not_false_eq_true, true_and, and_true, false_and, and_false, and_self, decide_true, decide_false, ↓reduceIte, Bool.true_and, Bool.false_and, Bool.and_true, Bool.and_false, Bool.not_true, Bool.not_false, Bool.false_eq_true, Bool.true_or, Bool.or_true, Bool.false_or, Bool.or_false, reduceCtorEq, Bool.and_self, Bool.or_self, ne_eq]
        · rcases Classical.propComplete (st = 2) with c0 | c0
          · simp only [s7, n7, hd, c0, kSi, true_or, or_true, false_or, or_false, not_true_eq_false, not_false_eq_true, true_and, and_true, false_and, and_false, and_self, decide_true, decide_false, ↓reduceIte, Bool.true_and, Bool.false_and, Bool.and_true, Bool.and_false, Bool.not_true, Bool.not_false, Bool.false_eq_true, Bool.true_or, Bool.or_true, Bool.false_or, Bool.or_false, reduceCtorEq, Bool.and_self, Bool.or_self, ne_eq]
          · by_cases c1 : ch = 38 <;> by_cases c2 : ch = 124 <;> by_cases c3 : ch = 41 <;> by_cases c4 : op = 0 <;> simp only [s7, n7, hd, c0, c1, c2, c3, c4, kSi, show (0 < op) = (¬ op = 0) from propext ⟨fun z => by omega, fun z => by omega⟩, true_or, or_true, false_or, or_false, not_true_eq_false, not_false_eq_true, true_and, and_true, false_and, and_false, and_self, decide_true, decide_false, ↓reduceIte, Bool.true_and, Bool.false_and, Bool.and_true, Bool.and_false, Bool.not_true, Bool.not_false, Bool.false_eq_true, Bool.true_or, Bool.or_true, Bool.false_or, Bool.or_false, reduceCtorEq, Bool.and_self, Bool.or_self, ne_eq] <;> first | rfl | decide | (rw [if_neg (by decide)]; rfl)
end

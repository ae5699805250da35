/-! STAGE B: the lowest form of a fraction, both ways -/
theorem lN_t {n : Nat} (h : n < 9000000000000000000) : (lN n).toInt = (n : Int) := lg_ofNat_toInt (by omega)
theorem lN_e0 {n : Nat} (h : n < 9000000000000000000) : (lN n = 0) = (n = 0) := propext (by
  rw [l_eq, lN_t h]
  have e0 : (0 : Int64).toInt = 0 := by decide
  omega)
theorem lN_rem {a b : Nat} (ha : a < 9000000000000000000) (hb : b < 9000000000000000000) (h : 0 < b) : lN a - lN a / lN b * lN b = lN (a % b) := by
  have h0 := l_div (a := lN a) (b := lN b) (by rw [lN_t ha]; omega) (by rw [lN_t hb]; omega)
  have h1 : (lN a / lN b).toInt = ((a / b : Nat) : Int) := by rw [h0.1, lN_t ha, lN_t hb]; rfl
  have hm : a / b * b ≤ a := Nat.div_mul_le_self a b
  have hc : ((a / b * b : Nat) : Int) = ((a / b : Nat) : Int) * (b : Int) := rfl
  have h2 : (lN a / lN b * lN b).toInt = ((a / b * b : Nat) : Int) := by
    rw [Int64.toInt_mul, h1, lN_t hb, ← hc, Int.bmod_eq_of_le (by omega) (by omega)]
  have h3 := Nat.div_add_mod' a b
  apply l_eq.mpr
  rw [l_sub (by rw [lN_t ha, h2]; omega), lN_t ha, h2, lN_t (Nat.lt_of_le_of_lt (Nat.mod_le a b) ha)]
  omega
theorem gcd_st (a b : Nat) : Nat.gcd b (a % b) = Nat.gcd a b := by
  rw [Nat.gcd_comm a b, Nat.gcd_rec b a]
  exact Nat.gcd_comm _ _
theorem gcd_half {a b m : Nat} (hb : b ≤ a) (h : a * b < 2 ^ (m + 1)) (z : 0 < b) : b * (a % b) < 2 ^ m := by
  have r : a % b < b := Nat.mod_lt a z
  have d := Nat.div_add_mod a b
  have q1 : 1 ≤ a / b := (Nat.one_le_div_iff z).mpr hb
  have k1 : b * 1 ≤ b * (a / b) := Nat.mul_le_mul_left b q1
  have k2 : b * (2 * (a % b)) ≤ b * a := Nat.mul_le_mul_left b (by omega)
  have k3 : b * (2 * (a % b)) = 2 * (b * (a % b)) := Nat.mul_left_comm b 2 (a % b)
  rw [Nat.mul_comm a b, Nat.pow_succ] at h
  omega
section
variable {M : mj_M}
theorem cl_gcd {post : Int64 → mj_M → Prop} : ∀ (m a b st : Nat), b ≤ a → a * b < 2 ^ m → a < 9000000000000000000 → st + m < 1000 → (∃ fe, vb_X10_commonDivisor_9 post fe (lN a) (lN b) (nI st) M) = post (lN (Nat.gcd a b)) M
  | 0, a, b, st, hb, hm, ha, hs => by
    have b0 : b = 0 := by
      rcases Nat.eq_zero_or_pos b with z | z
      · exact z
      · exfalso
        have : 1 * 1 ≤ a * b := Nat.mul_le_mul (by omega) z
        omega
    subst b0
    rw [ex_succ rfl]
    simp only [vb_X10_commonDivisor_9, ix_cmp0, lN_e0 (show 0 < 9000000000000000000 by decide), ↓reduceIte, ex_ite, exists_and_left, exists_const, exists_and_right, Nat.gcd_zero_right]
  | m + 1, a, b, st, hb, hm, ha, hs => by
    rw [ex_succ rfl]
    rcases Nat.eq_zero_or_pos b with z | z
    · subst z
      simp only [vb_X10_commonDivisor_9, ix_cmp0, lN_e0 (show 0 < 9000000000000000000 by decide), ↓reduceIte, ex_ite, exists_and_left, exists_const, exists_and_right, Nat.gcd_zero_right]
    · have r : a % b < b := Nat.mod_lt a z
      have I := cl_gcd (post := post) m b (a % b) (st + 1) (by omega) (gcd_half hb hm z) (by omega) (by omega)
      have n0 : (lN b = 0) = False := by rw [lN_e0 (by omega)]; exact eq_false (by omega)
      simp only [vb_X10_commonDivisor_9, ix_cmp0, n0, ↓reduceIte, lN_rem ha (by omega) z, show (1000 : Int32) = nI 1000 by decide, ix_le (show 1000 < 2147483648 by decide) (show st < 2147483648 by omega), show ¬ 1000 ≤ st by omega, not_false_eq_true, true_and, nI_1, ex_ite, exists_and_left, exists_const, exists_and_right, I, gcd_st]
theorem c_gcd {l0 : Nat} {post : Int64 → mj_M → Prop} {a b : Nat} (h : a * b < 2 ^ 100) (ha : a < 9000000000000000000) (hb : b < 9000000000000000000) : vc_X10_commonDivisor l0 (lN a) (lN b) M post = post (lN (Nat.gcd a b)) M := by
  unfold vc_X10_commonDivisor
  by_cases z : b ≤ a
  · have R := cl_gcd (M := M) (post := post) 100 a b 0 z h ha (by omega)
    rw [nI_0] at R; exact R
  · have b0 : 0 < b := by omega
    have e : a % b = a := Nat.mod_eq_of_lt (by omega)
    have R := cl_gcd (M := M) (post := post) 100 b (a % b) 1 (by rw [e]; omega) (by rw [e, Nat.mul_comm]; exact h) hb (by omega)
    have n0 : (lN b = 0) = False := by rw [lN_e0 hb]; exact eq_false (by omega)
    rw [ex_succ rfl]
    simp only [vb_X10_commonDivisor_9, ix_cmp0, n0, ↓reduceIte, lN_rem ha hb b0, show ¬ (1000 : Int32) ≤ 0 by decide, not_false_eq_true, true_and, show (0 : Int32) + 1 = nI 1 by decide, ex_ite, exists_and_left, exists_const, exists_and_right, R, gcd_st]
theorem ml_gcd {post : Int64 → mj_M → Prop} {U L : Int64} {pt : Int32} : ∀ (m a b : Nat), b ≤ a → a * b < 2 ^ m → a < 9000000000000000000 → 0 < a → (∃ fe, vb_X12_lowest_9 post fe U L pt (lN a) (lN b) M) = post (if pt = 0 then U / lN (Nat.gcd a b) else L / lN (Nat.gcd a b)) M
  | 0, a, b, hb, hm, ha, h0 => by
    have b0 : b = 0 := by
      rcases Nat.eq_zero_or_pos b with z | z
      · exact z
      · exfalso
        have : 1 * 1 ≤ a * b := Nat.mul_le_mul (by omega) z
        omega
    subst b0
    have n0 : (lN a = 0) = False := by rw [lN_e0 ha]; exact eq_false (by omega)
    rw [ex_succ rfl]
    simp only [vb_X12_lowest_9, ix_cmp0, lN_e0 (show 0 < 9000000000000000000 by decide), n0, ↓reduceIte, not_false_eq_true, true_and, ex_ite, exists_and_left, exists_const, exists_and_right, Nat.gcd_zero_right]
    split <;> rfl
  | m + 1, a, b, hb, hm, ha, h0 => by
    rw [ex_succ rfl]
    rcases Nat.eq_zero_or_pos b with z | z
    · subst z
      have n0 : (lN a = 0) = False := by rw [lN_e0 ha]; exact eq_false (by omega)
      simp only [vb_X12_lowest_9, ix_cmp0, lN_e0 (show 0 < 9000000000000000000 by decide), n0, ↓reduceIte, not_false_eq_true, true_and, ex_ite, exists_and_left, exists_const, exists_and_right, Nat.gcd_zero_right]
      split <;> rfl
    · have r : a % b < b := Nat.mod_lt a z
      have I := ml_gcd (post := post) (U := U) (L := L) (pt := pt) m b (a % b) (by omega) (gcd_half hb hm z) (by omega) z
      have n0 : (lN b = 0) = False := by rw [lN_e0 (by omega)]; exact eq_false (by omega)
      simp only [vb_X12_lowest_9, ix_cmp0, n0, ↓reduceIte, lN_rem ha (by omega) z, not_false_eq_true, true_and, ex_ite, exists_and_left, exists_const, exists_and_right, I, gcd_st]
theorem lab_N {u : Int64} (h : -9000000000000000000 < u.toInt ∧ u.toInt < 9000000000000000000) : lab u = lN u.toInt.natAbs := by
  have e0 : (0 : Int64).toInt = 0 := by decide
  apply l_eq.mpr
  rw [lN_t (by omega)]
  unfold lab
  by_cases z : 0 ≤ u
  · rw [if_pos z]; rw [l_le, e0] at z; omega
  · rw [if_neg z]; rw [l_le, e0] at z; rw [Int64.toInt_neg, Int.bmod_eq_of_le (by omega) (by omega)]; omega
theorem l_N {u : Int64} (h : 0 ≤ u.toInt ∧ u.toInt < 9000000000000000000) : u = lN u.toInt.natAbs := by
  apply l_eq.mpr
  rw [lN_t (by omega)]; omega
/-- a fraction's lowest form -/
def kLw (u lw : Int64) (pt : Int32) : Int64 := if pt = 0 then u / lN (Nat.gcd u.toInt.natAbs lw.toInt.natAbs) else lw / lN (Nat.gcd u.toInt.natAbs lw.toInt.natAbs)
theorem low_p {u lw : Int64} (hu : -100000000000000 ≤ u.toInt ∧ u.toInt ≤ 100000000000000) (hl : 0 < lw.toInt ∧ lw.toInt ≤ 1000000000) : u.toInt.natAbs * lw.toInt.natAbs < 2 ^ 100 := by
  have h := Nat.mul_le_mul (show u.toInt.natAbs ≤ 100000000000000 by omega) (show lw.toInt.natAbs ≤ 1000000000 by omega)
  exact Nat.lt_of_le_of_lt h (by decide)
theorem m_low {U L : Int64} {pt : Int32} {post : Int64 → mj_M → Prop} (hu : -100000000000000 ≤ U.toInt ∧ U.toInt ≤ 100000000000000) (hl : 0 < L.toInt ∧ L.toInt ≤ 1000000000) : vc_X12_lowest U L pt M post = post (kLw U L pt) M := by
  have hp := low_p hu hl
  have eL := l_N (u := L) ⟨by omega, by omega⟩
  have eU := lab_N (u := U) ⟨by omega, by omega⟩
  have S : ∀ post : Int64 → mj_M → Prop, vc_X12_size U M post = post (lab U) M := fun post => by
    unfold vc_X12_size lab; simp only [ix_cmp3]; split <;> rfl
  unfold vc_X12_lowest kLw
  rw [S, eU]
  have key : (∃ fe, vb_X12_lowest_9 post fe U L pt (lN U.toInt.natAbs) (lN L.toInt.natAbs) M) = post (if pt = 0 then U / lN (Nat.gcd U.toInt.natAbs L.toInt.natAbs) else L / lN (Nat.gcd U.toInt.natAbs L.toInt.natAbs)) M := by
    by_cases z : L.toInt.natAbs ≤ U.toInt.natAbs
    · exact ml_gcd 100 _ _ z hp (by omega) (by omega)
    · have b0 : 0 < L.toInt.natAbs := by omega
      have e : U.toInt.natAbs % L.toInt.natAbs = U.toInt.natAbs := Nat.mod_eq_of_lt (by omega)
      have R := ml_gcd (M := M) (post := post) (U := U) (L := L) (pt := pt) 100 L.toInt.natAbs (U.toInt.natAbs % L.toInt.natAbs) (by rw [e]; omega) (by rw [e, Nat.mul_comm]; exact hp) (by omega) b0
      have n0 : (lN L.toInt.natAbs = 0) = False := by rw [lN_e0 (by omega)]; exact eq_false (by omega)
      rw [ex_succ rfl]
      simp only [vb_X12_lowest_9, ix_cmp0, n0, ↓reduceIte, lN_rem (show U.toInt.natAbs < 9000000000000000000 by omega) (show L.toInt.natAbs < 9000000000000000000 by omega) b0, not_false_eq_true, true_and, ex_ite, exists_and_left, exists_const, exists_and_right, R, gcd_st]
  rw [← eL] at key
  exact key
theorem low_eq {u U lw L : Int64} {n : Nat} (hn : 0 < n) (hu : u.toInt = (n : Int) * U.toInt) (hl : lw.toInt = (n : Int) * L.toInt) (bu : -100000000000000 ≤ u.toInt ∧ u.toInt ≤ 100000000000000) (bU : -100000000000000 ≤ U.toInt ∧ U.toInt ≤ 100000000000000) (bl : 0 < lw.toInt ∧ lw.toInt ≤ 1000000000) (bL : 0 < L.toInt ∧ L.toInt ≤ 1000000000) (pt : Int32) : kLw u lw pt = kLw U L pt := by
  have hg : Nat.gcd u.toInt.natAbs lw.toInt.natAbs = n * Nat.gcd U.toInt.natAbs L.toInt.natAbs := by
    rw [hu, hl, Int.natAbs_mul, Int.natAbs_mul, Int.natAbs_natCast, Nat.gcd_mul_left]
  have b1 : Nat.gcd u.toInt.natAbs lw.toInt.natAbs ≤ lw.toInt.natAbs := Nat.gcd_le_right _ (by omega)
  have b2 : Nat.gcd U.toInt.natAbs L.toInt.natAbs ≤ L.toInt.natAbs := Nat.gcd_le_right _ (by omega)
  have D : ∀ v V : Int64, v.toInt = (n : Int) * V.toInt → v / lN (Nat.gcd u.toInt.natAbs lw.toInt.natAbs) = V / lN (Nat.gcd U.toInt.natAbs L.toInt.natAbs) := fun v V hv => by
    apply l_eq.mpr
    rw [Int64.toInt_div, Int64.toInt_div, lN_t (by omega), lN_t (by omega), hg, hv]
    have hc : ((n * Nat.gcd U.toInt.natAbs L.toInt.natAbs : Nat) : Int) = (n : Int) * (Nat.gcd U.toInt.natAbs L.toInt.natAbs : Int) := rfl
    rw [hc, Int.mul_tdiv_mul_of_pos _ _ (by omega)]
  unfold kLw
  rw [D u U hu, D lw L hl]
end
section
variable {B x : Nat} {t l u : Nat → Nat} {i c s : Nat → Nat → Int32} {r : Nat → Nat → Nat} {q g w : Nat → Nat → Int64}
theorem c_low {U : Int64} {pt : Int32} {post : Int64 → mj_M → Prop} (hu : -100000000000000 ≤ U.toInt ∧ U.toInt ≤ 100000000000000) (hl : 0 < (g 13 3 * g 13 6).toInt ∧ (g 13 3 * g 13 6).toInt ≤ 1000000000) : vc_X10_lowest (B + 13) U pt (kT B t, kL B l, kI B i c s, kW B r u, kI B q g w, x) post = post (kLw U (g 13 3 * g 13 6) pt) (kT B t, kL B l, kI B i c s, kW B r u, kI B q g w, x) := by
  have hp := low_p hu hl
  have eL := l_N (u := g 13 3 * g 13 6) ⟨by omega, by omega⟩
  have eU := lab_N (u := U) ⟨by omega, by omega⟩
  have G : ∀ post : Int64 → mj_M → Prop, vc_X10_commonDivisor (B + 13) (lab U) (g 13 3 * g 13 6) (kT B t, kL B l, kI B i c s, kW B r u, kI B q g w, x) post = post (lN (Nat.gcd U.toInt.natAbs (g 13 3 * g 13 6).toInt.natAbs)) (kT B t, kL B l, kI B i c s, kW B r u, kI B q g w, x) := fun post => by
    have := c_gcd (M := (kT B t, kL B l, kI B i c s, kW B r u, kI B q g w, x)) (l0 := B + 13) (post := post) hp (by omega) (by omega)
    rw [← eL, ← eU] at this; exact this
  have gp : 0 < Nat.gcd U.toInt.natAbs (g 13 3 * g 13 6).toInt.natAbs := Nat.gcd_pos_of_pos_right _ (by omega)
  have gl : Nat.gcd U.toInt.natAbs (g 13 3 * g 13 6).toInt.natAbs ≤ (g 13 3 * g 13 6).toInt.natAbs := Nat.gcd_le_right _ (by omega)
  have n0 : (lN (Nat.gcd U.toInt.natAbs (g 13 3 * g 13 6).toInt.natAbs) = 0) = False := by rw [lN_e0 (by omega)]; exact eq_false (by omega)
  simp only [vc_X10_lowest, vc_X10_lower, e_absl, mq_tag, mq_len, mq_i, mq_r, mq_l, mq_nx, mq_wi, mq_wr, mq_wl, true_and, and_true, and_false, false_and, and_self, ↓reduceIte, kT_0, kT_1, kT_2, kT_3, kT_4, kT_5, kT_6, kT_7, kT_8, kT_9, kT_10, kT_11, kT_12, kT_13, kT_14, kT_15, kT_16, kT_17, kT_18, kT_19, kT_20, kT_21, kT_22, kT_23, kL_2, kL_3, kL_5, kL_10, kL_11, kL_12, kL_14, kL_15, kL_17, kL_18, kL_19, kL_20, kL_21, kL_22, kL_23, kW_0_0, kW_0_1, kW_0_2, kW_0_3, kW_0_4, kW_0_5, kW_0_6, kW_0_7, kW_1_4, kW_1_5, kW_4_0, kW_4_1, kW_9_0, kW_9_1, kW_9_2, kW_13_0, kW_13_1, kW_16_0, kW_16_1, kW_16_2, kW_16_3, kW_16_4, kW_16_5, kW_1_1, kW_1_2, kW_4_4, kW_8_0, kW_8_1, kW_w1_1, kW_w1_2, kW_w4_4, kW_w8_0, kW_w8_1, kI_0, kI_w0, kI_1, kI_w1, kI_2, kI_w2, kI_3, kI_w3, kI_4, kI_w4, kI_5, kI_w5, kI_6, kI_w6, kI_7, kI_w7, kI_8, kI_w8, kI_9, kI_w9, kI_10, kI_w10, kI_11, kI_w11, kI_12, kI_w12, kI_13, kI_w13, kI_14, kI_w14, kI_15, kI_w15, kI_16, kI_w16, kI_17, kI_w17, kI_18, kI_w18, kI_19, kI_w19, kI_20, kI_w20, kI_21, kI_w21, kI_22, kI_w22, kI_23, kI_w23, G, ix_cmp0, n0, not_false_eq_true, kLw]
  split <;> rfl
end

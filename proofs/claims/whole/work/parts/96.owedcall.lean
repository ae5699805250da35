/-! STAGE B: owed -/
theorem imn_t (a b : Int32) : (imn a b).toInt = min a.toInt b.toInt := by
  unfold imn; split
  · rename_i z; rw [i_lt] at z; omega
  · rename_i z; rw [i_lt] at z; omega
theorem imx_t (a b : Int32) : (imx a b).toInt = max a.toInt b.toInt := by
  unfold imx; split
  · rename_i z; rw [i_lt] at z; omega
  · rename_i z; rw [i_lt] at z; omega
def kOi (s : Nat → Nat → Int32) (h : Nat) (a en st : Int32) (j : Nat) : Int32 := imx 0 ((if j = 10 then en else imn en ((s 3 h + nI j * st) + st)) - imx a (s 3 h + nI j * st))
def kOc (s : Nat → Nat → Int32) (h : Nat) (a en st : Int32) : Nat → Nat → Int64 → Int64
  | 0, _, v => v
  | m + 1, j, v => kOc s h a en st m (j + 1) (v + (kOi s h a en st j).toInt64 * (s 9 h <<< (nI j &&& 31)).toInt64)
section
variable {s : Nat → Nat → Int32} {n h : Nat}
theorem kOi_t (h1 : kR1 s n h) {a b : Nat} (hb : b ≤ 73000) (ha : a ≤ 73000) (hu : 0 ≤ (kun s h).toInt ∧ (kun s h).toInt ≤ 73000) {j : Nat} (hj : j ≤ 10) : (kOi s h (nI a) (imn (nI b) (kun s h)) (s 10 h * 365) j).toInt = oT a (s 3 h).toInt ((s 10 h).toInt * 365) (kun s h).toInt b j ∧ 0 ≤ oT a (s 3 h).toInt ((s 10 h).toInt * 365) (kun s h).toInt b j ∧ oT a (s 3 h).toInt ((s 10 h).toInt * 365) (kun s h).toInt b j ≤ 73000 := by
  obtain ⟨p1, p2, p3, p4, p5, p6, p7, p8, p9, p10, p11⟩ := h1
  have e0 : (0 : Int32).toInt = 0 := by decide
  have e1 : (73000 : Int32).toInt = 73000 := by decide
  have e2 : (100 : Int32).toInt = 100 := by decide
  have e3 : (365 : Int32).toInt = 365 := by decide
  have ea : (nI a).toInt = a := nI_toInt (by omega)
  have eb : (nI b).toInt = b := nI_toInt (by omega)
  have ej : (nI j).toInt = j := nI_toInt (by omega)
  have a1 := i_le.mp p3.1
  have a2 := i_lt.mp p3.2.1
  have a3 := i_le.mp p3.2.2
  have a4 := i_le.mp p9.1
  have a5 := i_le.mp p9.2
  have d2 : (s 10 h * 365).toInt = (s 10 h).toInt * 365 := by rw [Int32.toInt_mul, e3, Int.bmod_eq_of_le (by omega) (by omega)]
  have m1 : 0 ≤ (j : Int) * ((s 10 h).toInt * 365) := Int.mul_nonneg (by omega) (by omega)
  have m2 : (j : Int) * ((s 10 h).toInt * 365) ≤ 10 * 36500 := Int.mul_le_mul (by omega) (by omega) (by omega) (by omega)
  have d3 : (nI j * (s 10 h * 365)).toInt = (j : Int) * ((s 10 h).toInt * 365) := by rw [Int32.toInt_mul, d2, ej, Int.bmod_eq_of_le (by omega) (by omega)]
  have d4 : (s 3 h + nI j * (s 10 h * 365)).toInt = (s 3 h).toInt + (j : Int) * ((s 10 h).toInt * 365) := by rw [Int32.toInt_add, d3, Int.bmod_eq_of_le (by omega) (by omega)]
  have d5 : (s 3 h + nI j * (s 10 h * 365) + s 10 h * 365).toInt = (s 3 h).toInt + (j : Int) * ((s 10 h).toInt * 365) + (s 10 h).toInt * 365 := by rw [Int32.toInt_add, d4, d2, Int.bmod_eq_of_le (by omega) (by omega)]
  unfold kOi oT
  by_cases z : j = 10
  · rw [if_pos z, if_pos z]
    have d6 : (imn (nI b) (kun s h) - imx (nI a) (s 3 h + nI j * (s 10 h * 365))).toInt = min (b : Int) (kun s h).toInt - max (a : Int) ((s 3 h).toInt + (j : Int) * ((s 10 h).toInt * 365)) := by
      rw [Int32.toInt_sub, imn_t, imx_t, d4, ea, eb, Int.bmod_eq_of_le (by omega) (by omega)]
    rw [imx_t, d6, e0]
    omega
  · rw [if_neg z, if_neg z]
    have d6 : (imn (imn (nI b) (kun s h)) (s 3 h + nI j * (s 10 h * 365) + s 10 h * 365) - imx (nI a) (s 3 h + nI j * (s 10 h * 365))).toInt = min (min (b : Int) (kun s h).toInt) ((s 3 h).toInt + (j : Int) * ((s 10 h).toInt * 365) + (s 10 h).toInt * 365) - max (a : Int) ((s 3 h).toInt + (j : Int) * ((s 10 h).toInt * 365)) := by
      rw [Int32.toInt_sub, imn_t, imn_t, imx_t, d4, d5, ea, eb, Int.bmod_eq_of_le (by omega) (by omega)]
    rw [imx_t, d6, e0]
    omega
theorem kOc_t (h1 : kR1 s n h) {a b : Nat} (hb : b ≤ 73000) (ha : a ≤ 73000) (hu : 0 ≤ (kun s h).toInt ∧ (kun s h).toInt ≤ 73000) : ∀ (m j : Nat) (v : Int64), j + m ≤ 11 → 0 ≤ v.toInt → v.toInt ≤ 7475200000000 * j → (kOc s h (nI a) (imn (nI b) (kun s h)) (s 10 h * 365) m j v).toInt = v.toInt + oS (oW s h) a (s 3 h).toInt ((s 10 h).toInt * 365) (kun s h).toInt b m j
  | 0, j, v, _, _, _ => by show v.toInt = v.toInt + 0; omega
  | m + 1, j, v, hj, h0, hv => by
    have T := kOi_t h1 hb ha hu (j := j) (by omega)
    have Wb := i_shl h1.2.2.2.2.2.2.2.1 (k := j) (by omega)
    have P := l_mul (a := (kOi s h (nI a) (imn (nI b) (kun s h)) (s 10 h * 365) j).toInt64) (b := (s 9 h <<< (nI j &&& 31)).toInt64) (A := 73000) (C := 102400000) (by rw [l_of, T.1]; exact T.2) (by rw [l_of]; exact Wb) (by decide)
    rw [l_of, l_of, T.1] at P
    have eW : (s 9 h <<< (nI j &&& 31)).toInt = oW s h j := rfl
    rw [eW] at P
    have P3 : oT a (s 3 h).toInt ((s 10 h).toInt * 365) (kun s h).toInt b j * oW s h j ≤ 7475200000000 := P.2.2
    have P2 := P.2.1
    have P1 := P.1
    have e : (v + (kOi s h (nI a) (imn (nI b) (kun s h)) (s 10 h * 365) j).toInt64 * (s 9 h <<< (nI j &&& 31)).toInt64).toInt = v.toInt + oT a (s 3 h).toInt ((s 10 h).toInt * 365) (kun s h).toInt b j * oW s h j := by
      rw [l_add (by rw [P1]; omega), P1]
    have I := kOc_t h1 hb ha hu m (j + 1) (v + (kOi s h (nI a) (imn (nI b) (kun s h)) (s 10 h * 365) j).toInt64 * (s 9 h <<< (nI j &&& 31)).toInt64) (by omega) (by rw [e]; omega) (by rw [e]; omega)
    unfold kOc oS
    rw [I, e]; omega
end
section
variable {B : Nat} {A AA AT AN N t l u : Nat → Nat} {i c s : Nat → Nat → Int32} {r : Nat → Nat → Nat} {q g w : Nat → Nat → Int64} {x : Nat}
theorem cl_owe (hG : kG B A AA AT AN N c s t l i r u x) {h : Nat} (hh : h < N 0) {a en st : Int32} {post : Int64 → mj_M → Prop} : ∀ (m j : Nat) (v : Int64), j + m = 11 → (∃ fe, vb_X3_owedOver_58 post fe (A h) a en v st (nI j) (kT B t, kL B l, kI B i c s, kW B r u, kI B q g w, x)) = post (kOc s h a en st m j v / 365) (kT B t, kL B l, kI B i c s, kW B r u, kI B q g w, x)
  | 0, j, v, hj => by
    rw [ex_succ rfl]
    simp only [vb_X3_owedOver_58, show (10 : Int32) = nI 10 by decide, ix_lt (show 10 < 2147483648 by decide) (show j < 2147483648 by omega), show 10 < j by omega, ↓reduceIte, ex_ite, exists_and_left, exists_const, exists_and_right, kOc]
  | m + 1, j, v, hj => by
    have j1 : j < 2147483648 := by omega
    have I := fun v => cl_owe hG hh (a := a) (en := en) (st := st) (post := post) m (j + 1) v (by omega)
    rw [ex_succ rfl]
    simp only [vb_X3_owedOver_58, vb_X3_owedOver_97, mq_tag, mq_len, mq_i, mq_r, mq_l, mq_nx, mq_wi, mq_wr, mq_wl, true_and, and_true, and_false, false_and, and_self, ↓reduceIte, kT_0, kT_1, kT_2, kT_3, kT_4, kT_5, kT_6, kT_7, kT_8, kT_9, kT_10, kT_11, kT_12, kT_13, kT_14, kT_15, kT_16, kT_17, kT_18, kT_19, kT_20, kT_21, kT_22, kT_23, kL_2, kL_3, kL_5, kL_10, kL_11, kL_12, kL_14, kL_15, kL_17, kL_18, kL_19, kL_20, kL_21, kL_22, kL_23, kW_0_0, kW_0_1, kW_0_2, kW_0_3, kW_0_4, kW_0_5, kW_0_6, kW_0_7, kW_1_4, kW_1_5, kW_4_0, kW_4_1, kW_9_0, kW_9_1, kW_9_2, kW_13_0, kW_13_1, kW_16_0, kW_16_1, kW_16_2, kW_16_3, kW_16_4, kW_16_5, kW_1_1, kW_1_2, kW_4_4, kW_8_0, kW_8_1, kW_w1_1, kW_w1_2, kW_w4_4, kW_w8_0, kW_w8_1, kI_0, kI_w0, kI_1, kI_w1, kI_2, kI_w2, kI_3, kI_w3, kI_4, kI_w4, kI_5, kI_w5, kI_6, kI_w6, kI_7, kI_w7, kI_8, kI_w8, kI_9, kI_w9, kI_10, kI_w10, kI_11, kI_w11, kI_12, kI_w12, kI_13, kI_w13, kI_14, kI_w14, kI_15, kI_w15, kI_16, kI_w16, kI_17, kI_w17, kI_18, kI_w18, kI_19, kI_w19, kI_20, kI_w20, kI_21, kI_w21, kI_22, kI_w22, kI_23, kI_w23, hG.1.atT hh, hG.1.atI hh, show (10 : Int32) = nI 10 by decide, ix_lt (show 10 < 2147483648 by decide) j1, show ¬ 10 < j by omega, ix_eq j1 (show 10 < 2147483648 by decide), e_min, e_max, nI_1, ex_ite, exists_and_left, exists_const, exists_and_right, I, kOc, kOi]
    split <;> rfl
theorem ml_owe (hG : kG B A AA AT AN N c s t l i r u x) {h : Nat} (hh : h < N 0) {b : Nat} (hb : b ≤ 73000) {post : Int64 → mj_M → Prop} : ∀ (m d : Nat) (v : Int64), d + m = b → (∃ fe, vb_X12_owed_41 post fe (B + 24) (nI h) (nI b) v (nI d) (kT B t, kL B l, kI B i c s, kW B r u, kI B q g w, x)) = post (kOr s h m d v / 365) (kT B t, kL B l, kI B i c s, kW B r u, kI B q g w, x)
  | 0, d, v, hd => by
    rw [ex_succ rfl]
    simp only [vb_X12_owed_41, ix_le (show b < 2147483648 by omega) (show d < 2147483648 by omega), show b ≤ d by omega, ↓reduceIte, ex_ite, exists_and_left, exists_const, exists_and_right, kOr]
  | m + 1, d, v, hd => by
    have h40 := hG.n40
    obtain ⟨p1, p2, p3, p4, p5, p6, p7, p8, p9, _⟩ := hG.R1 hh
    have I := fun v => ml_owe hG hh hb (post := post) m (d + 1) v (by omega)
    rw [ex_succ rfl]
    simp only [vb_X12_owed_41, mq_tag, mq_len, mq_i, mq_r, mq_l, mq_nx, mq_wi, mq_wr, mq_wl, true_and, and_true, and_false, false_and, and_self, ↓reduceIte, kT_24, kT_25, kT_26, kT_27, kT_28, kT_29, kT_30, kT_31, kT_32, kT_33, kT_34, kT_35, kT_36, kT_37, kT_38, kT_39, kT_40, kT_41, kT_42, kT_43, kT_44, kT_45, kT_46, kT_47, kT_48, kT_49, kT_50, kT_51, kT_52, kT_53, kT_54, kT_55, kT_56, kT_57, kT_58, kT_59, kT_60, kT_61, kL_25, kL_26, kL_27, kL_28, kL_29, kL_30, kL_31, kL_32, kL_33, kL_34, kL_35, kL_36, kL_37, kL_38, kL_39, kL_40, kL_41, kL_42, kL_43, kL_44, kL_45, kL_46, kL_47, kL_48, kL_49, kL_50, kL_51, kL_52, kL_53, kL_54, kL_55, kL_56, kL_57, kL_58, kL_59, kL_60, kL_61, kW_24_1, kW_24_2, kW_24_3, kW_24_4, kW_24_5, kW_24_6, kW_24_7, kW_24_8, kW_24_9, kW_24_10, kW_24_11, kW_24_12, kW_24_14, kW_24_15, kW_24_16, kW_24_17, kW_24_18, kW_24_19, kW_24_21, kW_24_22, kW_24_23, kW_24_25, kW_24_26, kW_24_27, kW_24_28, kW_24_29, kW_24_31, kW_24_32, kW_24_33, kW_24_34, kW_24_36, kW_24_37, kW_24_44, kW_24_49, kW_24_50, kW_24_51, kW_24_52, kI_24, kI_w24, kI_25, kI_w25, kI_26, kI_w26, kI_27, kI_w27, kI_28, kI_w28, kI_29, kI_w29, kI_30, kI_w30, kI_31, kI_w31, kI_32, kI_w32, kI_33, kI_w33, kI_34, kI_w34, kI_35, kI_w35, kI_36, kI_w36, kI_37, kI_w37, kI_38, kI_w38, kI_39, kI_w39, kI_40, kI_w40, kI_41, kI_w41, kI_42, kI_w42, kI_43, kI_w43, kI_44, kI_w44, kI_45, kI_w45, kI_46, kI_w46, kI_47, kI_w47, kI_48, kI_w48, kI_49, kI_w49, kI_50, kI_w50, kI_51, kI_w51, kI_52, kI_w52, kI_53, kI_w53, kI_54, kI_w54, kI_55, kI_w55, kI_56, kI_w56, kI_57, kI_w57, kI_58, kI_w58, kI_59, kI_w59, kI_60, kI_w60, kI_61, kI_w61, ix_le (show b < 2147483648 by omega) (show d < 2147483648 by omega), show ¬ b ≤ d by omega, m_rate (show h < 40 by omega) p5.1 p9.1 p9.2, nI_1, ex_ite, exists_and_left, exists_const, exists_and_right, I, kOr]
end
section
variable {B : Nat} {M : mj_M} {K : Int64 → Int64 → mj_M → Prop}
theorem T_owed (h : kJ B M) (a b d : Int32) (hK : ∀ v M', kJ B M' → K v v M') : vc_X11_owed B a b d M (fun v M1 => mj_tag M1 (B + 24) = 13 ∧ vc_X12_owed (B + 24) a b d M1 (fun v' M2 => K v v' M2)) := by
  obtain ⟨A, AA, AT, AN, N, t, l, u, i, c, s, r, q, g, w, x, rfl, hG⟩ := h
  obtain ⟨g1, g2, g3, g4, g5, g6, g7, g8, g9, g10⟩ := id hG
  have h40 := hG.n40
  have L1 : (-1000000000000000 + (-1 : Int32).toInt64 : Int64) = -1000000000000001 := by decide +kernel
  have L2 : (-1000000000000000 + (-2 : Int32).toInt64 : Int64) = -1000000000000002 := by decide +kernel
  by_cases hv : 0 ≤ a ∧ a < nI (N 0)
  · obtain ⟨k, hk, rfl⟩ := ix_ofl (by omega) hv.1 hv.2
    have A0 : (A k = 0) = False := g1.H0 hk
    by_cases hb : 0 ≤ b ∧ b ≤ 73000
    · by_cases hd : 0 ≤ d ∧ d ≤ 73000
      · by_cases hle : b ≤ d
        · obtain ⟨a1, ha1, rfl⟩ := r_of (n := 73000) (by decide) (by decide) hb
          obtain ⟨b1, hb1, rfl⟩ := r_of (n := 73000) (by decide) (by decide) hd
          have lab : a1 ≤ b1 := by rw [ix_le (by omega) (by omega)] at hle; exact hle
          obtain ⟨p1, p2, p3, p4, p5, p6, p7, p8, p9, _⟩ := hG.R1 hk
          have e0 : (0 : Int32).toInt = 0 := by decide
          have e00 : (0 : Int64).toInt = 0 := by decide
          have e73 : (73000 : Int32).toInt = 73000 := by decide
          have hu : 0 ≤ (kun s k).toInt ∧ (kun s k).toInt ≤ 73000 := by
            unfold kun; split
            · have := i_le.mp p3.1; have := i_lt.mp p3.2.1; have := i_le.mp p3.2.2; omega
            · have := i_le.mp p4.1; have := i_le.mp p4.2; omega
          have key : ∃ V : Int64, V = kOr s k (b1 - a1) a1 0 / 365 ∧ ∀ post : Int64 → mj_M → Prop, vc_X11_owed B (nI k) (nI a1) (nI b1) (kT B t, kL B l, kI B i c s, kW B r u, kI B q g w, x) post = post V (kT B t, kL B l, kI B i c s, kW B r u, kI B q g w, x) := by
            refine ⟨_, rfl, fun post => ?_⟩
            have CL := fun post => cl_owe (q := q) (g := g) (w := w) hG hk (a := nI a1) (en := imn (nI b1) (kun s k)) (st := s 10 k * 365) (post := post) 11 0 0 (by omega)
            rw [nI_0] at CL
            simp only [vc_X11_owed, vb_X11_owed_39, vc_X3_owedOver, mq_tag, mq_len, mq_i, mq_r, mq_l, mq_nx, mq_wi, mq_wr, mq_wl, true_and, and_true, and_false, false_and, and_self, ↓reduceIte, kT_0, kT_1, kT_2, kT_3, kT_4, kT_5, kT_6, kT_7, kT_8, kT_9, kT_10, kT_11, kT_12, kT_13, kT_14, kT_15, kT_16, kT_17, kT_18, kT_19, kT_20, kT_21, kT_22, kT_23, kL_2, kL_3, kL_5, kL_10, kL_11, kL_12, kL_14, kL_15, kL_17, kL_18, kL_19, kL_20, kL_21, kL_22, kL_23, kW_0_0, kW_0_1, kW_0_2, kW_0_3, kW_0_4, kW_0_5, kW_0_6, kW_0_7, kW_1_4, kW_1_5, kW_4_0, kW_4_1, kW_9_0, kW_9_1, kW_9_2, kW_13_0, kW_13_1, kW_16_0, kW_16_1, kW_16_2, kW_16_3, kW_16_4, kW_16_5, kW_1_1, kW_1_2, kW_4_4, kW_8_0, kW_8_1, kW_w1_1, kW_w1_2, kW_w4_4, kW_w8_0, kW_w8_1, kI_0, kI_w0, kI_1, kI_w1, kI_2, kI_w2, kI_3, kI_w3, kI_4, kI_w4, kI_5, kI_w5, kI_6, kI_w6, kI_7, kI_w7, kI_8, kI_w8, kI_9, kI_w9, kI_10, kI_w10, kI_11, kI_w11, kI_12, kI_w12, kI_13, kI_w13, kI_14, kI_w14, kI_15, kI_w15, kI_16, kI_w16, kI_17, kI_w17, kI_18, kI_w18, kI_19, kI_w19, kI_20, kI_w20, kI_21, kI_w21, kI_22, kI_w22, kI_23, kI_w23, c_find g1 g2 hk, A0, c_isDay, hb, hd, decide_true, hle, g1.atT hk, g1.atI hk, c_until g1 hk, e_min, e_max, CL]
            by_cases z : s 10 k = 0
            · have nD : ¬ 0 < s 10 k := by rw [z]; decide
              rw [if_pos z]
              congr 2
              have R := kOr_0 (hG.R1 hk) nD lab hb1
              apply l_eq.mpr
              have ea : (nI a1).toInt = a1 := nI_toInt (by omega)
              have eb : (nI b1).toInt = b1 := nI_toInt (by omega)
              have q1 := i_le.mp p3.1; have q2 := i_lt.mp p3.2.1; have q3 := i_le.mp p3.2.2
              have q8 := i_le.mp p8.1; have q9 := i_le.mp p8.2
              have e5 : (100000 : Int32).toInt = 100000 := by decide
              have d6 : (imn (nI b1) (kun s k) - imx (nI a1) (s 3 k)).toInt = min (b1 : Int) (kun s k).toInt - max (a1 : Int) (s 3 k).toInt := by
                rw [Int32.toInt_sub, imn_t, imx_t, ea, eb, Int.bmod_eq_of_le (by omega) (by omega)]
              have d7 : (imx 0 (imn (nI b1) (kun s k) - imx (nI a1) (s 3 k))).toInt = max 0 (min (b1 : Int) (kun s k).toInt - max (a1 : Int) (s 3 k).toInt) := by rw [imx_t, d6, e0]
              have P := l_mul (a := (s 9 k).toInt64) (b := (imx 0 (imn (nI b1) (kun s k) - imx (nI a1) (s 3 k))).toInt64) (A := 100000) (C := 73000) (by rw [l_of]; omega) (by rw [l_of, d7]; omega) (by decide)
              rw [P.1, l_of, l_of, d7, R]
            · have pD : 0 < s 10 k := by
                rw [i_lt, e0]; have := i_le.mp p9.1; rw [i_eq, e0] at z; omega
              rw [if_neg z]
              congr 2
              apply l_eq.mpr
              rw [kOr_w (hG.R1 hk) pD lab hb1, kOc_t (hG.R1 hk) hb1 (by omega) hu 11 0 0 (by omega) (by rw [e00]; omega) (by rw [e00]; omega), e00]
              omega
          obtain ⟨V, hV, C⟩ := key
          rw [C]
          refine ⟨kT_24, ?_⟩
          have ML := fun post => ml_owe (q := q) (g := g) (w := w) hG hk hb1 (post := post) (b1 - a1) a1 0 (by omega)
          simp only [vc_X12_owed, mq_tag, mq_len, mq_i, mq_r, mq_l, mq_nx, mq_wi, mq_wr, mq_wl, true_and, and_true, and_false, false_and, and_self, ↓reduceIte, kT_24, kT_25, kT_26, kT_27, kT_28, kT_29, kT_30, kT_31, kT_32, kT_33, kT_34, kT_35, kT_36, kT_37, kT_38, kT_39, kT_40, kT_41, kT_42, kT_43, kT_44, kT_45, kT_46, kT_47, kT_48, kT_49, kT_50, kT_51, kT_52, kT_53, kT_54, kT_55, kT_56, kT_57, kT_58, kT_59, kT_60, kT_61, kL_25, kL_26, kL_27, kL_28, kL_29, kL_30, kL_31, kL_32, kL_33, kL_34, kL_35, kL_36, kL_37, kL_38, kL_39, kL_40, kL_41, kL_42, kL_43, kL_44, kL_45, kL_46, kL_47, kL_48, kL_49, kL_50, kL_51, kL_52, kL_53, kL_54, kL_55, kL_56, kL_57, kL_58, kL_59, kL_60, kL_61, kW_24_1, kW_24_2, kW_24_3, kW_24_4, kW_24_5, kW_24_6, kW_24_7, kW_24_8, kW_24_9, kW_24_10, kW_24_11, kW_24_12, kW_24_14, kW_24_15, kW_24_16, kW_24_17, kW_24_18, kW_24_19, kW_24_21, kW_24_22, kW_24_23, kW_24_25, kW_24_26, kW_24_27, kW_24_28, kW_24_29, kW_24_31, kW_24_32, kW_24_33, kW_24_34, kW_24_36, kW_24_37, kW_24_44, kW_24_49, kW_24_50, kW_24_51, kW_24_52, kI_24, kI_w24, kI_25, kI_w25, kI_26, kI_w26, kI_27, kI_w27, kI_28, kI_w28, kI_29, kI_w29, kI_30, kI_w30, kI_31, kI_w31, kI_32, kI_w32, kI_33, kI_w33, kI_34, kI_w34, kI_35, kI_w35, kI_36, kI_w36, kI_37, kI_w37, kI_38, kI_w38, kI_39, kI_w39, kI_40, kI_w40, kI_41, kI_w41, kI_42, kI_w42, kI_43, kI_w43, kI_44, kI_w44, kI_45, kI_w45, kI_46, kI_w46, kI_47, kI_w47, kI_48, kI_w48, kI_49, kI_w49, kI_50, kI_w50, kI_51, kI_w51, kI_52, kI_w52, kI_53, kI_w53, kI_54, kI_w54, kI_55, kI_w55, kI_56, kI_w56, kI_57, kI_w57, kI_58, kI_w58, kI_59, kI_w59, kI_60, kI_w60, kI_61, kI_w61, m_isHolding hG.hn h40, hv, decide_true, and_self, m_isDay, hb, hd, hle, ML]
          rw [← hV]
          exact hK _ _ (kJ.mk hG)
        · simp only [vc_X11_owed, vb_X11_owed_39, vc_X11_lost, vc_X12_owed, mq_tag, mq_len, mq_i, mq_r, mq_l, mq_nx, mq_wi, mq_wr, mq_wl, true_and, and_true, and_false, false_and, and_self, ↓reduceIte, kT_0, kT_1, kT_2, kT_3, kT_4, kT_5, kT_6, kT_7, kT_8, kT_9, kT_10, kT_11, kT_12, kT_13, kT_14, kT_15, kT_16, kT_17, kT_18, kT_19, kT_20, kT_21, kT_22, kT_23, kL_2, kL_3, kL_5, kL_10, kL_11, kL_12, kL_14, kL_15, kL_17, kL_18, kL_19, kL_20, kL_21, kL_22, kL_23, kW_0_0, kW_0_1, kW_0_2, kW_0_3, kW_0_4, kW_0_5, kW_0_6, kW_0_7, kW_1_4, kW_1_5, kW_4_0, kW_4_1, kW_9_0, kW_9_1, kW_9_2, kW_13_0, kW_13_1, kW_16_0, kW_16_1, kW_16_2, kW_16_3, kW_16_4, kW_16_5, kW_1_1, kW_1_2, kW_4_4, kW_8_0, kW_8_1, kW_w1_1, kW_w1_2, kW_w4_4, kW_w8_0, kW_w8_1, kI_0, kI_w0, kI_1, kI_w1, kI_2, kI_w2, kI_3, kI_w3, kI_4, kI_w4, kI_5, kI_w5, kI_6, kI_w6, kI_7, kI_w7, kI_8, kI_w8, kI_9, kI_w9, kI_10, kI_w10, kI_11, kI_w11, kI_12, kI_w12, kI_13, kI_w13, kI_14, kI_w14, kI_15, kI_w15, kI_16, kI_w16, kI_17, kI_w17, kI_18, kI_w18, kI_19, kI_w19, kI_20, kI_w20, kI_21, kI_w21, kI_22, kI_w22, kI_23, kI_w23, kT_24, kT_25, kT_26, kT_27, kT_28, kT_29, kT_30, kT_31, kT_32, kT_33, kT_34, kT_35, kT_36, kT_37, kT_38, kT_39, kT_40, kT_41, kT_42, kT_43, kT_44, kT_45, kT_46, kT_47, kT_48, kT_49, kT_50, kT_51, kT_52, kT_53, kT_54, kT_55, kT_56, kT_57, kT_58, kT_59, kT_60, kT_61, kL_25, kL_26, kL_27, kL_28, kL_29, kL_30, kL_31, kL_32, kL_33, kL_34, kL_35, kL_36, kL_37, kL_38, kL_39, kL_40, kL_41, kL_42, kL_43, kL_44, kL_45, kL_46, kL_47, kL_48, kL_49, kL_50, kL_51, kL_52, kL_53, kL_54, kL_55, kL_56, kL_57, kL_58, kL_59, kL_60, kL_61, kW_24_1, kW_24_2, kW_24_3, kW_24_4, kW_24_5, kW_24_6, kW_24_7, kW_24_8, kW_24_9, kW_24_10, kW_24_11, kW_24_12, kW_24_14, kW_24_15, kW_24_16, kW_24_17, kW_24_18, kW_24_19, kW_24_21, kW_24_22, kW_24_23, kW_24_25, kW_24_26, kW_24_27, kW_24_28, kW_24_29, kW_24_31, kW_24_32, kW_24_33, kW_24_34, kW_24_36, kW_24_37, kW_24_44, kW_24_49, kW_24_50, kW_24_51, kW_24_52, kI_24, kI_w24, kI_25, kI_w25, kI_26, kI_w26, kI_27, kI_w27, kI_28, kI_w28, kI_29, kI_w29, kI_30, kI_w30, kI_31, kI_w31, kI_32, kI_w32, kI_33, kI_w33, kI_34, kI_w34, kI_35, kI_w35, kI_36, kI_w36, kI_37, kI_w37, kI_38, kI_w38, kI_39, kI_w39, kI_40, kI_w40, kI_41, kI_w41, kI_42, kI_w42, kI_43, kI_w43, kI_44, kI_w44, kI_45, kI_w45, kI_46, kI_w46, kI_47, kI_w47, kI_48, kI_w48, kI_49, kI_w49, kI_50, kI_w50, kI_51, kI_w51, kI_52, kI_w52, kI_53, kI_w53, kI_54, kI_w54, kI_55, kI_w55, kI_56, kI_w56, kI_57, kI_w57, kI_58, kI_w58, kI_59, kI_w59, kI_60, kI_w60, kI_61, kI_w61, c_find g1 g2 hk, A0, c_isDay, hb, hd, hle, m_isHolding hG.hn h40, hv, m_isDay, L2, true_or, or_true, false_or, or_false, not_true_eq_false, not_false_eq_true, true_and, and_true, false_and, and_false, and_self, decide_true, decide_false, ↓reduceIte, Bool.true_and, Bool.false_and, Bool.and_true, Bool.and_false, Bool.not_true, Bool.not_false, Bool.false_eq_true, Bool.true_or, Bool.or_true, Bool.false_or, Bool.or_false, reduceCtorEq, Bool.and_self, Bool.or_self, ne_eq]
          exact hK _ _ (kJ.mk hG)
      · simp only [vc_X11_owed, vb_X11_owed_39, vc_X11_lost, vc_X12_owed, mq_tag, mq_len, mq_i, mq_r, mq_l, mq_nx, mq_wi, mq_wr, mq_wl, true_and, and_true, and_false, false_and, and_self, ↓reduceIte, kT_0, kT_1, kT_2, kT_3, kT_4, kT_5, kT_6, kT_7, kT_8, kT_9, kT_10, kT_11, kT_12, kT_13, kT_14, kT_15, kT_16, kT_17, kT_18, kT_19, kT_20, kT_21, kT_22, kT_23, kL_2, kL_3, kL_5, kL_10, kL_11, kL_12, kL_14, kL_15, kL_17, kL_18, kL_19, kL_20, kL_21, kL_22, kL_23, kW_0_0, kW_0_1, kW_0_2, kW_0_3, kW_0_4, kW_0_5, kW_0_6, kW_0_7, kW_1_4, kW_1_5, kW_4_0, kW_4_1, kW_9_0, kW_9_1, kW_9_2, kW_13_0, kW_13_1, kW_16_0, kW_16_1, kW_16_2, kW_16_3, kW_16_4, kW_16_5, kW_1_1, kW_1_2, kW_4_4, kW_8_0, kW_8_1, kW_w1_1, kW_w1_2, kW_w4_4, kW_w8_0, kW_w8_1, kI_0, kI_w0, kI_1, kI_w1, kI_2, kI_w2, kI_3, kI_w3, kI_4, kI_w4, kI_5, kI_w5, kI_6, kI_w6, kI_7, kI_w7, kI_8, kI_w8, kI_9, kI_w9, kI_10, kI_w10, kI_11, kI_w11, kI_12, kI_w12, kI_13, kI_w13, kI_14, kI_w14, kI_15, kI_w15, kI_16, kI_w16, kI_17, kI_w17, kI_18, kI_w18, kI_19, kI_w19, kI_20, kI_w20, kI_21, kI_w21, kI_22, kI_w22, kI_23, kI_w23, kT_24, kT_25, kT_26, kT_27, kT_28, kT_29, kT_30, kT_31, kT_32, kT_33, kT_34, kT_35, kT_36, kT_37, kT_38, kT_39, kT_40, kT_41, kT_42, kT_43, kT_44, kT_45, kT_46, kT_47, kT_48, kT_49, kT_50, kT_51, kT_52, kT_53, kT_54, kT_55, kT_56, kT_57, kT_58, kT_59, kT_60, kT_61, kL_25, kL_26, kL_27, kL_28, kL_29, kL_30, kL_31, kL_32, kL_33, kL_34, kL_35, kL_36, kL_37, kL_38, kL_39, kL_40, kL_41, kL_42, kL_43, kL_44, kL_45, kL_46, kL_47, kL_48, kL_49, kL_50, kL_51, kL_52, kL_53, kL_54, kL_55, kL_56, kL_57, kL_58, kL_59, kL_60, kL_61, kW_24_1, kW_24_2, kW_24_3, kW_24_4, kW_24_5, kW_24_6, kW_24_7, kW_24_8, kW_24_9, kW_24_10, kW_24_11, kW_24_12, kW_24_14, kW_24_15, kW_24_16, kW_24_17, kW_24_18, kW_24_19, kW_24_21, kW_24_22, kW_24_23, kW_24_25, kW_24_26, kW_24_27, kW_24_28, kW_24_29, kW_24_31, kW_24_32, kW_24_33, kW_24_34, kW_24_36, kW_24_37, kW_24_44, kW_24_49, kW_24_50, kW_24_51, kW_24_52, kI_24, kI_w24, kI_25, kI_w25, kI_26, kI_w26, kI_27, kI_w27, kI_28, kI_w28, kI_29, kI_w29, kI_30, kI_w30, kI_31, kI_w31, kI_32, kI_w32, kI_33, kI_w33, kI_34, kI_w34, kI_35, kI_w35, kI_36, kI_w36, kI_37, kI_w37, kI_38, kI_w38, kI_39, kI_w39, kI_40, kI_w40, kI_41, kI_w41, kI_42, kI_w42, kI_43, kI_w43, kI_44, kI_w44, kI_45, kI_w45, kI_46, kI_w46, kI_47, kI_w47, kI_48, kI_w48, kI_49, kI_w49, kI_50, kI_w50, kI_51, kI_w51, kI_52, kI_w52, kI_53, kI_w53, kI_54, kI_w54, kI_55, kI_w55, kI_56, kI_w56, kI_57, kI_w57, kI_58, kI_w58, kI_59, kI_w59, kI_60, kI_w60, kI_61, kI_w61, c_find g1 g2 hk, A0, c_isDay, hb, hd, m_isHolding hG.hn h40, hv, m_isDay, L2, true_or, or_true, false_or, or_false, not_true_eq_false, not_false_eq_true, true_and, and_true, false_and, and_false, and_self, decide_true, decide_false, ↓reduceIte, Bool.true_and, Bool.false_and, Bool.and_true, Bool.and_false, Bool.not_true, Bool.not_false, Bool.false_eq_true, Bool.true_or, Bool.or_true, Bool.false_or, Bool.or_false, reduceCtorEq, Bool.and_self, Bool.or_self, ne_eq]
        exact hK _ _ (kJ.mk hG)
    · simp only [vc_X11_owed, vb_X11_owed_39, vc_X11_lost, vc_X12_owed, mq_tag, mq_len, mq_i, mq_r, mq_l, mq_nx, mq_wi, mq_wr, mq_wl, true_and, and_true, and_false, false_and, and_self, ↓reduceIte, kT_0, kT_1, kT_2, kT_3, kT_4, kT_5, kT_6, kT_7, kT_8, kT_9, kT_10, kT_11, kT_12, kT_13, kT_14, kT_15, kT_16, kT_17, kT_18, kT_19, kT_20, kT_21, kT_22, kT_23, kL_2, kL_3, kL_5, kL_10, kL_11, kL_12, kL_14, kL_15, kL_17, kL_18, kL_19, kL_20, kL_21, kL_22, kL_23, kW_0_0, kW_0_1, kW_0_2, kW_0_3, kW_0_4, kW_0_5, kW_0_6, kW_0_7, kW_1_4, kW_1_5, kW_4_0, kW_4_1, kW_9_0, kW_9_1, kW_9_2, kW_13_0, kW_13_1, kW_16_0, kW_16_1, kW_16_2, kW_16_3, kW_16_4, kW_16_5, kW_1_1, kW_1_2, kW_4_4, kW_8_0, kW_8_1, kW_w1_1, kW_w1_2, kW_w4_4, kW_w8_0, kW_w8_1, kI_0, kI_w0, kI_1, kI_w1, kI_2, kI_w2, kI_3, kI_w3, kI_4, kI_w4, kI_5, kI_w5, kI_6, kI_w6, kI_7, kI_w7, kI_8, kI_w8, kI_9, kI_w9, kI_10, kI_w10, kI_11, kI_w11, kI_12, kI_w12, kI_13, kI_w13, kI_14, kI_w14, kI_15, kI_w15, kI_16, kI_w16, kI_17, kI_w17, kI_18, kI_w18, kI_19, kI_w19, kI_20, kI_w20, kI_21, kI_w21, kI_22, kI_w22, kI_23, kI_w23, kT_24, kT_25, kT_26, kT_27, kT_28, kT_29, kT_30, kT_31, kT_32, kT_33, kT_34, kT_35, kT_36, kT_37, kT_38, kT_39, kT_40, kT_41, kT_42, kT_43, kT_44, kT_45, kT_46, kT_47, kT_48, kT_49, kT_50, kT_51, kT_52, kT_53, kT_54, kT_55, kT_56, kT_57, kT_58, kT_59, kT_60, kT_61, kL_25, kL_26, kL_27, kL_28, kL_29, kL_30, kL_31, kL_32, kL_33, kL_34, kL_35, kL_36, kL_37, kL_38, kL_39, kL_40, kL_41, kL_42, kL_43, kL_44, kL_45, kL_46, kL_47, kL_48, kL_49, kL_50, kL_51, kL_52, kL_53, kL_54, kL_55, kL_56, kL_57, kL_58, kL_59, kL_60, kL_61, kW_24_1, kW_24_2, kW_24_3, kW_24_4, kW_24_5, kW_24_6, kW_24_7, kW_24_8, kW_24_9, kW_24_10, kW_24_11, kW_24_12, kW_24_14, kW_24_15, kW_24_16, kW_24_17, kW_24_18, kW_24_19, kW_24_21, kW_24_22, kW_24_23, kW_24_25, kW_24_26, kW_24_27, kW_24_28, kW_24_29, kW_24_31, kW_24_32, kW_24_33, kW_24_34, kW_24_36, kW_24_37, kW_24_44, kW_24_49, kW_24_50, kW_24_51, kW_24_52, kI_24, kI_w24, kI_25, kI_w25, kI_26, kI_w26, kI_27, kI_w27, kI_28, kI_w28, kI_29, kI_w29, kI_30, kI_w30, kI_31, kI_w31, kI_32, kI_w32, kI_33, kI_w33, kI_34, kI_w34, kI_35, kI_w35, kI_36, kI_w36, kI_37, kI_w37, kI_38, kI_w38, kI_39, kI_w39, kI_40, kI_w40, kI_41, kI_w41, kI_42, kI_w42, kI_43, kI_w43, kI_44, kI_w44, kI_45, kI_w45, kI_46, kI_w46, kI_47, kI_w47, kI_48, kI_w48, kI_49, kI_w49, kI_50, kI_w50, kI_51, kI_w51, kI_52, kI_w52, kI_53, kI_w53, kI_54, kI_w54, kI_55, kI_w55, kI_56, kI_w56, kI_57, kI_w57, kI_58, kI_w58, kI_59, kI_w59, kI_60, kI_w60, kI_61, kI_w61, c_find g1 g2 hk, A0, c_isDay, hb, m_isHolding hG.hn h40, hv, m_isDay, L2, true_or, or_true, false_or, or_false, not_true_eq_false, not_false_eq_true, true_and, and_true, false_and, and_false, and_self, decide_true, decide_false, ↓reduceIte, Bool.true_and, Bool.false_and, Bool.and_true, Bool.and_false, Bool.not_true, Bool.not_false, Bool.false_eq_true, Bool.true_or, Bool.or_true, Bool.false_or, Bool.or_false, reduceCtorEq, Bool.and_self, Bool.or_self, ne_eq]
      exact hK _ _ (kJ.mk hG)
  · simp only [vc_X11_owed, vc_X11_lost, vc_X12_owed, mq_tag, mq_len, mq_i, mq_r, mq_l, mq_nx, mq_wi, mq_wr, mq_wl, true_and, and_true, and_false, false_and, and_self, ↓reduceIte, kT_0, kT_1, kT_2, kT_3, kT_4, kT_5, kT_6, kT_7, kT_8, kT_9, kT_10, kT_11, kT_12, kT_13, kT_14, kT_15, kT_16, kT_17, kT_18, kT_19, kT_20, kT_21, kT_22, kT_23, kL_2, kL_3, kL_5, kL_10, kL_11, kL_12, kL_14, kL_15, kL_17, kL_18, kL_19, kL_20, kL_21, kL_22, kL_23, kW_0_0, kW_0_1, kW_0_2, kW_0_3, kW_0_4, kW_0_5, kW_0_6, kW_0_7, kW_1_4, kW_1_5, kW_4_0, kW_4_1, kW_9_0, kW_9_1, kW_9_2, kW_13_0, kW_13_1, kW_16_0, kW_16_1, kW_16_2, kW_16_3, kW_16_4, kW_16_5, kW_1_1, kW_1_2, kW_4_4, kW_8_0, kW_8_1, kW_w1_1, kW_w1_2, kW_w4_4, kW_w8_0, kW_w8_1, kI_0, kI_w0, kI_1, kI_w1, kI_2, kI_w2, kI_3, kI_w3, kI_4, kI_w4, kI_5, kI_w5, kI_6, kI_w6, kI_7, kI_w7, kI_8, kI_w8, kI_9, kI_w9, kI_10, kI_w10, kI_11, kI_w11, kI_12, kI_w12, kI_13, kI_w13, kI_14, kI_w14, kI_15, kI_w15, kI_16, kI_w16, kI_17, kI_w17, kI_18, kI_w18, kI_19, kI_w19, kI_20, kI_w20, kI_21, kI_w21, kI_22, kI_w22, kI_23, kI_w23, kT_24, kT_25, kT_26, kT_27, kT_28, kT_29, kT_30, kT_31, kT_32, kT_33, kT_34, kT_35, kT_36, kT_37, kT_38, kT_39, kT_40, kT_41, kT_42, kT_43, kT_44, kT_45, kT_46, kT_47, kT_48, kT_49, kT_50, kT_51, kT_52, kT_53, kT_54, kT_55, kT_56, kT_57, kT_58, kT_59, kT_60, kT_61, kL_25, kL_26, kL_27, kL_28, kL_29, kL_30, kL_31, kL_32, kL_33, kL_34, kL_35, kL_36, kL_37, kL_38, kL_39, kL_40, kL_41, kL_42, kL_43, kL_44, kL_45, kL_46, kL_47, kL_48, kL_49, kL_50, kL_51, kL_52, kL_53, kL_54, kL_55, kL_56, kL_57, kL_58, kL_59, kL_60, kL_61, kW_24_1, kW_24_2, kW_24_3, kW_24_4, kW_24_5, kW_24_6, kW_24_7, kW_24_8, kW_24_9, kW_24_10, kW_24_11, kW_24_12, kW_24_14, kW_24_15, kW_24_16, kW_24_17, kW_24_18, kW_24_19, kW_24_21, kW_24_22, kW_24_23, kW_24_25, kW_24_26, kW_24_27, kW_24_28, kW_24_29, kW_24_31, kW_24_32, kW_24_33, kW_24_34, kW_24_36, kW_24_37, kW_24_44, kW_24_49, kW_24_50, kW_24_51, kW_24_52, kI_24, kI_w24, kI_25, kI_w25, kI_26, kI_w26, kI_27, kI_w27, kI_28, kI_w28, kI_29, kI_w29, kI_30, kI_w30, kI_31, kI_w31, kI_32, kI_w32, kI_33, kI_w33, kI_34, kI_w34, kI_35, kI_w35, kI_36, kI_w36, kI_37, kI_w37, kI_38, kI_w38, kI_39, kI_w39, kI_40, kI_w40, kI_41, kI_w41, kI_42, kI_w42, kI_43, kI_w43, kI_44, kI_w44, kI_45, kI_w45, kI_46, kI_w46, kI_47, kI_w47, kI_48, kI_w48, kI_49, kI_w49, kI_50, kI_w50, kI_51, kI_w51, kI_52, kI_w52, kI_53, kI_w53, kI_54, kI_w54, kI_55, kI_w55, kI_56, kI_w56, kI_57, kI_w57, kI_58, kI_w58, kI_59, kI_w59, kI_60, kI_w60, kI_61, kI_w61, c_find_no g1 g2 hv, m_isHolding hG.hn h40, hv, L1, true_or, or_true, false_or, or_false, not_true_eq_false, not_false_eq_true, true_and, and_true, false_and, and_false, and_self, decide_true, decide_false, ↓reduceIte, Bool.true_and, Bool.false_and, Bool.and_true, Bool.and_false, Bool.not_true, Bool.not_false, Bool.false_eq_true, Bool.true_or, Bool.or_true, Bool.false_or, Bool.or_false, reduceCtorEq, Bool.and_self, Bool.or_self, ne_eq]
    exact hK _ _ (kJ.mk hG)
end

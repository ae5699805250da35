/-! STAGE B: what the marriage and the losses are -/
theorem mq_u2o {α : Type} {f : Nat → Nat → α} {a k : Nat} {v v' : α} : mj_u2 (mj_u2 f a k v) a k v' = mj_u2 f a k v' := by
  funext j h
  simp only [mq_u2]
  split <;> rfl
def kBl (s : Nat → Nat → Int32) (h : Nat) : Int64 := ((kRa s h (s 0 0)).toInt64 * (s 0 42).toInt64) / 10
def kLs (s : Nat → Nat → Int32) (ex : Int64) (cur : Nat) : Int64 := kBl s cur + if s 1 (s 1 cur).toNatClampNeg < 0 then ex else 0
/-- the losses from one upwards -/
def kLl (s : Nat → Nat → Int32) (ex : Int64) : Nat → Nat → List Int64
  | 0, _ => []
  | f + 1, cur => if s 1 cur < 0 then [] else kLs s ex cur :: kLl s ex f (s 1 cur).toNatClampNeg
def kSu (L : List Int64) (a : Int64) : Int64 := L.foldl (· + ·) a
def kMa (s : Nat → Nat → Int32) (p h : Nat) : Int64 := kWo s p (s 2 h) (kYl s h + 90) - kWo s p (s 2 h) (kYl s h)
def kEx (s : Nat → Nat → Int32) (p h : Nat) : Int64 := ((kVa s (s 2 h) 12 0 0 - kWo s p (s 2 h) (kYl s h)) * (s 0 43).toInt64) / 100
def kLe (m T : Int64) : Int64 := if m ≤ T then 0 else (m - T) / 2
theorem kLe_eq {m T : Int64} (hm : -20000000 ≤ m.toInt ∧ m.toInt ≤ 20000000) (hT : 0 ≤ T.toInt ∧ T.toInt ≤ 1000000000000) : lmx 0 ((m - T) / 2) = kLe m T := by
  have e0 : (0 : Int64).toInt = 0 := by decide
  have e2 : (2 : Int64).toInt = 2 := by decide
  have d : (m - T).toInt = m.toInt - T.toInt := l_sub (by omega)
  unfold lmx kLe
  by_cases z : m ≤ T
  · rw [if_pos z]
    rw [l_le] at z
    have n : ((m - T) / 2).toInt ≤ 0 := by
      rw [Int64.toInt_div, d, e2]
      have h1 : (m.toInt - T.toInt).tdiv 2 ≤ 0 := by
        rw [show m.toInt - T.toInt = -(T.toInt - m.toInt) by omega, Int.neg_tdiv]
        have := Int.tdiv_nonneg (a := T.toInt - m.toInt) (b := 2) (by omega) (by decide)
        omega
      have h2 : -2000000000000 ≤ (m.toInt - T.toInt).tdiv 2 := by
        rw [show m.toInt - T.toInt = -(T.toInt - m.toInt) by omega, Int.neg_tdiv, Int.tdiv_eq_ediv_of_nonneg (by omega)]
        have := Int.ediv_le_self (a := T.toInt - m.toInt) 2 (by omega)
        omega
      rw [Int.bmod_eq_of_le (by omega) (by omega)]; exact h1
    rw [if_neg (fun y => by rw [l_lt, e0] at y; omega)]
  · rw [if_neg z]
    have z' : T.toInt < m.toInt := by rw [l_le] at z; omega
    have n := l_div (a := m - T) (b := 2) (by rw [d]; omega) (by decide)
    by_cases y : 0 < (m - T) / 2
    · rw [if_pos y]
    · rw [if_neg y]
      rw [l_lt, e0, n.1] at y
      have := n.2.1
      exact l_eq.mpr (by rw [n.1, e0]; omega)
section
variable {B : Nat} {A AA AT AN N t l u : Nat → Nat} {i c s : Nat → Nat → Int32} {r : Nat → Nat → Nat} {q g w : Nat → Nat → Int64} {x : Nat}
theorem kBl_b (hG : kG B A AA AT AN N c s t l i r u x) {h : Nat} (hh : h < N 0) : 0 ≤ (kBl s h).toInt ∧ (kBl s h).toInt ≤ 5120000000 := by
  obtain ⟨_, _, _, _, _, _, _, q8, q9, _⟩ := hG.2.2.2.2.1
  have e0 : (0 : Int32).toInt = 0 := by decide
  have e5 : (500 : Int32).toInt = 500 := by decide
  rw [i_le] at q8 q9
  have h1 := kRa_b (hG.R1 hh) (d := s 0 0) hG.2.2.2.2.2.2.2.1.1.2
  have h2 := l_mul (a := (kRa s h (s 0 0)).toInt64) (b := (s 0 42).toInt64) (A := 102400000) (C := 500) (by rw [l_of]; exact h1) (by rw [l_of]; omega) (by decide)
  rw [l_of, l_of] at h2
  have e10 : (10 : Int64).toInt = 10 := by decide
  have h3 := l_div (a := (kRa s h (s 0 0)).toInt64 * (s 0 42).toInt64) (b := 10) (by rw [h2.1]; exact h2.2.1) (by decide)
  rw [h2.1, e10] at h3
  unfold kBl
  rw [h3.1]
  have h5 := h2.2.2
  have h6 := h2.2.1
  generalize (kRa s h (s 0 0)).toInt * (s 0 42).toInt = P at *
  omega
theorem kYl_b (hG : kG B A AA AT AN N c s t l i r u x) {h : Nat} (hh : h < N 0) (hon : kon s h (s 0 0) = true) : 0 ≤ (kYl s h).toInt ∧ (kYl s h).toInt ≤ 73000 := by
  simp only [kon, decide_eq_true_eq] at hon
  have hk : 0 ≤ kun s h ∧ kun s h ≤ 73000 := by
    obtain ⟨_, _, p3, p4, _⟩ := hG.R1 hh
    unfold kun; split
    · exact ⟨by have := i_le.mp p3.1; have := i_lt.mp p3.2.1; have e0 : (0 : Int32).toInt = 0 := by decide
                rw [i_le]; omega, p3.2.2⟩
    · exact p4
  have ht := hG.2.2.2.2.2.2.2.1.1
  have h2 := hon.2
  have e0 : (0 : Int32).toInt = 0 := by decide
  have e7 : (73000 : Int32).toInt = 73000 := by decide
  have e3 : (365 : Int32).toInt = 365 := by decide
  have d := i_sub hk ht
  have a1 := i_le.mp hk.2
  have a2 := i_le.mp ht.1
  have a3 := i_lt.mp h2
  have n1 := Int.ediv_nonneg (a := (kun s h).toInt - (s 0 0).toInt) (b := 365) (by omega) (by omega)
  have n2 := Int.ediv_le_self (a := (kun s h).toInt - (s 0 0).toInt) 365 (by omega)
  unfold kYl
  rw [Int32.toInt_div, d, e3, Int.tdiv_eq_ediv_of_nonneg (by omega), Int.bmod_eq_of_le (by omega) (by omega)]
  omega
theorem kMa_b (hG : kG B A AA AT AN N c s t l i r u x) {h : Nat} (hh : h < N 0) (hon : kon s h (s 0 0) = true) : (-20000000 ≤ (kMa s (N 4) h).toInt ∧ (kMa s (N 4) h).toInt ≤ 20000000) ∧ 0 ≤ (kEx s (N 4) h).toInt ∧ (kEx s (N 4) h).toInt ≤ 1200000000 := by
  have hy := kYl_b hG hh hon
  have e0 : (0 : Int32).toInt = 0 := by decide
  have e90 : (90 : Int32).toInt = 90 := by decide
  have g5 := hG.2.2.2.2.1
  have y1 : 0 ≤ kYl s h := i_le.mpr (by omega)
  have y2 : 0 ≤ kYl s h + 90 := i_le.mpr (by rw [Int32.toInt_add, e90, Int.bmod_eq_of_le (by omega) (by omega)]; omega)
  have v := kVa_c g5 (v := s 2 h)
  have w1 := kWo_b g5 (v := s 2 h) y1
  have w2 := kWo_b g5 (v := s 2 h) y2
  refine ⟨?_, ?_⟩
  · unfold kMa; rw [l_sub (by omega)]; omega
  · obtain ⟨_, _, _, _, _, _, _, _, _, q10, q11, _⟩ := id g5
    have e100 : (100 : Int32).toInt = 100 := by decide
    rw [i_le] at q10 q11
    have d : (kVa s (s 2 h) 12 0 0 - kWo s (N 4) (s 2 h) (kYl s h)).toInt = (kVa s (s 2 h) 12 0 0).toInt - (kWo s (N 4) (s 2 h) (kYl s h)).toInt := l_sub (by omega)
    have h2 := l_mul (a := kVa s (s 2 h) 12 0 0 - kWo s (N 4) (s 2 h) (kYl s h)) (b := (s 0 43).toInt64) (A := 12000000) (C := 100) (by rw [d]; omega) (by rw [l_of]; omega) (by decide)
    have h3 := l_div (a := (kVa s (s 2 h) 12 0 0 - kWo s (N 4) (s 2 h) (kYl s h)) * (s 0 43).toInt64) (b := 100) (by rw [h2.1]; exact h2.2.1) (by decide)
    rw [h2.1] at h3
    unfold kEx
    rw [h3.1]
    have h5 := h2.2.2
    have h6 := h3.2.2
    have h7 := h3.2.1
    omega
theorem kLl_b (hG : kG B A AA AT AN N c s t l i r u x) {ex : Int64} (hx : 0 ≤ ex.toInt ∧ ex.toInt ≤ 1200000000) : ∀ (f cur : Nat) (a : Int64), cur < N 0 → 0 ≤ a.toInt → a.toInt + 6400000000 * f ≤ 1000000000000 → 0 ≤ (kSu (kLl s ex f cur) a).toInt ∧ (kSu (kLl s ex f cur) a).toInt ≤ a.toInt + 6400000000 * f
  | 0, cur, a, hc, h0, h1 => ⟨h0, by show a.toInt ≤ _; omega⟩
  | f + 1, cur, a, hc, h0, h1 => by
    unfold kLl
    by_cases z : s 1 cur < 0
    · rw [if_pos z]; exact ⟨h0, by show a.toInt ≤ _; omega⟩
    · rw [if_neg z]
      obtain ⟨k, hk, he⟩ : ∃ k, k < N 0 ∧ s 1 cur = nI k := by
        rcases hG.out hc with y | y
        · rw [y] at z; exact absurd (by decide) z
        · exact y
      have h40 := hG.n40
      rw [he, ix_nat (by omega)]
      have b := kBl_b hG hc
      have e0 : (0 : Int64).toInt = 0 := by decide
      have bl : 0 ≤ (kLs s ex cur).toInt ∧ (kLs s ex cur).toInt ≤ 6400000000 := by
        unfold kLs
        split
        · rw [l_add (by omega)]; omega
        · rw [l_add (by rw [e0]; omega)]; omega
      have ea : (a + kLs s ex cur).toInt = a.toInt + (kLs s ex cur).toInt := l_add (by omega)
      have I := kLl_b hG hx f k (a + kLs s ex cur) hk (by rw [ea]; omega) (by rw [ea]; omega)
      rw [show kSu (kLs s ex cur :: kLl s ex f k) a = kSu (kLl s ex f k) (a + kLs s ex cur) from rfl]
      refine ⟨I.1, ?_⟩
      have := I.2; rw [ea] at this; omega
theorem kLl_len (hG : kG B A AA AT AN N c s t l i r u x) {rk : Nat → Nat} (R : ∀ h, h < N 0 → rk h < N 0 ∧ ∀ k, k < N 0 → s 1 h = nI k → rk k < rk h) {ex : Int64} : ∀ (f cur : Nat), cur < N 0 → (kLl s ex f cur).length ≤ rk cur
  | 0, cur, _ => Nat.zero_le _
  | f + 1, cur, hc => by
    unfold kLl
    by_cases z : s 1 cur < 0
    · rw [if_pos z]; exact Nat.zero_le _
    · rw [if_neg z]
      obtain ⟨k, hk, he⟩ : ∃ k, k < N 0 ∧ s 1 cur = nI k := by
        rcases hG.out hc with y | y
        · rw [y] at z; exact absurd (by decide) z
        · exact y
      have h40 := hG.n40
      rw [he, ix_nat (by omega)]
      have := kLl_len hG R (ex := ex) f k hk
      have := (R cur hc).2 k hk he
      show (kLl s ex f k).length + 1 ≤ _
      omega
theorem c_loss (hG : kG B A AA AT AN N c s t l i r u x) {cur k : Nat} (hc : cur < N 0) (hk : k < N 0) (he : s 1 cur = nI k) {post : Int64 → mj_M → Prop} : vc_X5_lossAbove (B + 9) (A cur) (s 0 0) (kT B t, kL B l, kI B i c s, kW B r u, kI B q g w, x) post = post (kLs s (g 9 7) cur) (kT B t, kL B l, kI B i c s, kW B r u, kI B q g w, x) := by
  obtain ⟨g1, g2, g3, g4, g5, g6, g7, g8, g9, g10⟩ := id hG
  have h40 := hG.n40
  have k1 : k < 2147483648 := by omega
  obtain ⟨p1, p2, p3, p4, p5, p6, p7, p8, p9, _⟩ := hG.R1 hc
  have e4 := g5.2.2.2.2.2.1
  simp only [vc_X5_lossAbove, vb_X5_lossAbove_38, vb_X5_lossAbove_39, mq_tag, mq_len, mq_i, mq_r, mq_l, mq_nx, mq_wi, mq_wr, mq_wl, true_and, and_true, and_false, false_and, and_self, ↓reduceIte, kT_0, kT_1, kT_2, kT_3, kT_4, kT_5, kT_6, kT_7, kT_8, kT_9, kT_10, kT_11, kT_12, kT_13, kT_14, kT_15, kT_16, kT_17, kT_18, kT_19, kT_20, kT_21, kT_22, kT_23, kL_2, kL_3, kL_5, kL_10, kL_11, kL_12, kL_14, kL_15, kL_17, kL_18, kL_19, kL_20, kL_21, kL_22, kL_23, kW_0_0, kW_0_1, kW_0_2, kW_0_3, kW_0_4, kW_0_5, kW_0_6, kW_0_7, kW_1_4, kW_1_5, kW_4_0, kW_4_1, kW_9_0, kW_9_1, kW_9_2, kW_13_0, kW_13_1, kW_16_0, kW_16_1, kW_16_2, kW_16_3, kW_16_4, kW_16_5, kW_1_1, kW_1_2, kW_4_4, kW_8_0, kW_8_1, kW_w1_1, kW_w1_2, kW_w4_4, kW_w8_0, kW_w8_1, kI_0, kI_w0, kI_1, kI_w1, kI_2, kI_w2, kI_3, kI_w3, kI_4, kI_w4, kI_5, kI_w5, kI_6, kI_w6, kI_7, kI_w7, kI_8, kI_w8, kI_9, kI_w9, kI_10, kI_w10, kI_11, kI_w11, kI_12, kI_w12, kI_13, kI_w13, kI_14, kI_w14, kI_15, kI_w15, kI_16, kI_w16, kI_17, kI_w17, kI_18, kI_w18, kI_19, kI_w19, kI_20, kI_w20, kI_21, kI_w21, kI_22, kI_w22, kI_23, kI_w23, g1.atT hc, g1.atI hc, g1.atW hc, c_rate g1 hc p9.2, he, kR_I k1, g1.atT hk, g1.atW hk, g1.R0 (g1.V1 hk), e4, kLs, kBl, ix_nat k1, Bool.false_eq_true, show (A k = 0) = False from g1.H0 hk]
  split
  · rfl
  · rw [Int64.add_zero]
theorem cl_app (hG : kG B A AA AT AN N c s t l i r u x) {rk : Nat → Nat} (R : ∀ h, h < N 0 → rk h < N 0 ∧ ∀ k, k < N 0 → s 1 h = nI k → rk k < rk h) {post : Unit → mj_M → Prop} : ∀ (f cur : Nat) (a : Int64), cur < N 0 → rk cur < f → (∃ fe, vb_X5_appraise_62 post fe (B + 9) (s 0 0) (A cur) (kT B t, kL B l, kI B i c s, kW B r u, kI B q (mj_u2 g 9 8 a) w, x)) = post () (kT B t, kL B l, kI B i c s, kW B r u, kI B q (mj_u2 (mj_u2 g 9 8 (kSu (kLl s (g 9 7) f cur) a)) 9 9 (lmx 0 ((g 9 6 - kSu (kLl s (g 9 7) f cur) a) / 2))) w, x)
  | 0, cur, a, hc, hr => by omega
  | f + 1, cur, a, hc, hr => by
    obtain ⟨g1, g2, g3, g4, g5, g6, g7, g8, g9, g10⟩ := id hG
    have h40 := hG.n40
    rw [ex_succ rfl]
    by_cases z : s 1 cur < 0
    · have eL : kLl s (g 9 7) (f + 1) cur = [] := by unfold kLl; rw [if_pos z]
      simp only [vb_X5_appraise_62, mq_tag, mq_len, mq_i, mq_r, mq_l, mq_nx, mq_wi, mq_wr, mq_wl, true_and, and_true, and_false, false_and, and_self, ↓reduceIte, kT_0, kT_1, kT_2, kT_3, kT_4, kT_5, kT_6, kT_7, kT_8, kT_9, kT_10, kT_11, kT_12, kT_13, kT_14, kT_15, kT_16, kT_17, kT_18, kT_19, kT_20, kT_21, kT_22, kT_23, kL_2, kL_3, kL_5, kL_10, kL_11, kL_12, kL_14, kL_15, kL_17, kL_18, kL_19, kL_20, kL_21, kL_22, kL_23, kW_0_0, kW_0_1, kW_0_2, kW_0_3, kW_0_4, kW_0_5, kW_0_6, kW_0_7, kW_1_4, kW_1_5, kW_4_0, kW_4_1, kW_9_0, kW_9_1, kW_9_2, kW_13_0, kW_13_1, kW_16_0, kW_16_1, kW_16_2, kW_16_3, kW_16_4, kW_16_5, kW_1_1, kW_1_2, kW_4_4, kW_8_0, kW_8_1, kW_w1_1, kW_w1_2, kW_w4_4, kW_w8_0, kW_w8_1, kI_0, kI_w0, kI_1, kI_w1, kI_2, kI_w2, kI_3, kI_w3, kI_4, kI_w4, kI_5, kI_w5, kI_6, kI_w6, kI_7, kI_w7, kI_8, kI_w8, kI_9, kI_w9, kI_10, kI_w10, kI_11, kI_w11, kI_12, kI_w12, kI_13, kI_w13, kI_14, kI_w14, kI_15, kI_w15, kI_16, kI_w16, kI_17, kI_w17, kI_18, kI_w18, kI_19, kI_w19, kI_20, kI_w20, kI_21, kI_w21, kI_22, kI_w22, kI_23, kI_w23, g1.atT hc, g1.atW hc, g1.R0 (g1.V1 hc), z, e_maxl, mq_u2s, mq_u2k, ne_eq, Nat.reduceEqDiff, not_false_eq_true, ex_ite, exists_and_left, exists_const, exists_and_right, eL, kSu, List.foldl]
    · obtain ⟨k, hk, he⟩ : ∃ k, k < N 0 ∧ s 1 cur = nI k := by
        rcases hG.out hc with y | y
        · rw [y] at z; exact absurd (by decide) z
        · exact y
      have k1 : k < 2147483648 := by omega
      have n0 := nI_pos k1
      have eL : kLl s (g 9 7) (f + 1) cur = kLs s (g 9 7) cur :: kLl s (g 9 7) f k := by
        show (if s 1 cur < 0 then _ else _) = _
        rw [if_neg z, he, ix_nat k1]
      have hrk := (R cur hc).2 k hk he
      have I := cl_app hG R (post := post) f k (a + kLs s (g 9 7) cur) hk (by omega)
      have g97 : mj_u2 g 9 8 a 9 7 = g 9 7 := mq_u2k (by decide)
      have CL := fun post => c_loss (q := q) (g := mj_u2 g 9 8 a) (w := w) hG hc hk he (post := post)
      rw [g97] at CL
      simp only [vb_X5_appraise_62, mq_tag, mq_len, mq_i, mq_r, mq_l, mq_nx, mq_wi, mq_wr, mq_wl, true_and, and_true, and_false, false_and, and_self, ↓reduceIte, kT_0, kT_1, kT_2, kT_3, kT_4, kT_5, kT_6, kT_7, kT_8, kT_9, kT_10, kT_11, kT_12, kT_13, kT_14, kT_15, kT_16, kT_17, kT_18, kT_19, kT_20, kT_21, kT_22, kT_23, kL_2, kL_3, kL_5, kL_10, kL_11, kL_12, kL_14, kL_15, kL_17, kL_18, kL_19, kL_20, kL_21, kL_22, kL_23, kW_0_0, kW_0_1, kW_0_2, kW_0_3, kW_0_4, kW_0_5, kW_0_6, kW_0_7, kW_1_4, kW_1_5, kW_4_0, kW_4_1, kW_9_0, kW_9_1, kW_9_2, kW_13_0, kW_13_1, kW_16_0, kW_16_1, kW_16_2, kW_16_3, kW_16_4, kW_16_5, kW_1_1, kW_1_2, kW_4_4, kW_8_0, kW_8_1, kW_w1_1, kW_w1_2, kW_w4_4, kW_w8_0, kW_w8_1, kI_0, kI_w0, kI_1, kI_w1, kI_2, kI_w2, kI_3, kI_w3, kI_4, kI_w4, kI_5, kI_w5, kI_6, kI_w6, kI_7, kI_w7, kI_8, kI_w8, kI_9, kI_w9, kI_10, kI_w10, kI_11, kI_w11, kI_12, kI_w12, kI_13, kI_w13, kI_14, kI_w14, kI_15, kI_w15, kI_16, kI_w16, kI_17, kI_w17, kI_18, kI_w18, kI_19, kI_w19, kI_20, kI_w20, kI_21, kI_w21, kI_22, kI_w22, kI_23, kI_w23, g1.atT hc, g1.atW hc, he, kR_I k1, show (A k = 0) = False from g1.H0 hk, CL, mq_u2s, mq_u2o, ex_ite, exists_and_left, exists_const, exists_and_right]
      rw [I, eL]; rfl
/-- the class's appraisal -/
theorem c_app (hG : kG B A AA AT AN N c s t l i r u x) {rk : Nat → Nat} (R : ∀ h, h < N 0 → rk h < N 0 ∧ ∀ k, k < N 0 → s 1 h = nI k → rk k < rk h) {h : Nat} (hh : h < N 0) {post : Unit → mj_M → Prop}
    (hp : ∀ g' : Nat → Nat → Int64, g' 9 6 = kMa s (N 4) h → g' 9 7 = kEx s (N 4) h → g' 9 8 = kSu (kLl s (kEx s (N 4) h) (N 0) h) 0 → g' 9 9 = lmx 0 ((kMa s (N 4) h - kSu (kLl s (kEx s (N 4) h) (N 0) h) 0) / 2) → post () (kT B t, kL B l, kI B i c s, kW B r u, kI B q g' w, x)) :
    vc_X5_appraise (B + 9) (A h) (s 0 0) (kT B t, kL B l, kI B i c s, kW B r u, kI B q g w, x) post := by
  obtain ⟨g1, g2, g3, g4, g5, g6, g7, g8, g9, g10⟩ := id hG
  have e5 := g5.2.2.2.2.2.2.1
  simp only [vc_X5_appraise, mq_tag, mq_len, mq_i, mq_r, mq_l, mq_nx, mq_wi, mq_wr, mq_wl, true_and, and_true, and_false, false_and, and_self, ↓reduceIte, kT_0, kT_1, kT_2, kT_3, kT_4, kT_5, kT_6, kT_7, kT_8, kT_9, kT_10, kT_11, kT_12, kT_13, kT_14, kT_15, kT_16, kT_17, kT_18, kT_19, kT_20, kT_21, kT_22, kT_23, kL_2, kL_3, kL_5, kL_10, kL_11, kL_12, kL_14, kL_15, kL_17, kL_18, kL_19, kL_20, kL_21, kL_22, kL_23, kW_0_0, kW_0_1, kW_0_2, kW_0_3, kW_0_4, kW_0_5, kW_0_6, kW_0_7, kW_1_4, kW_1_5, kW_4_0, kW_4_1, kW_9_0, kW_9_1, kW_9_2, kW_13_0, kW_13_1, kW_16_0, kW_16_1, kW_16_2, kW_16_3, kW_16_4, kW_16_5, kW_1_1, kW_1_2, kW_4_4, kW_8_0, kW_8_1, kW_w1_1, kW_w1_2, kW_w4_4, kW_w8_0, kW_w8_1, kI_0, kI_w0, kI_1, kI_w1, kI_2, kI_w2, kI_3, kI_w3, kI_4, kI_w4, kI_5, kI_w5, kI_6, kI_w6, kI_7, kI_w7, kI_8, kI_w8, kI_9, kI_w9, kI_10, kI_w10, kI_11, kI_w11, kI_12, kI_w12, kI_13, kI_w13, kI_14, kI_w14, kI_15, kI_w15, kI_16, kI_w16, kI_17, kI_w17, kI_18, kI_w18, kI_19, kI_w19, kI_20, kI_w20, kI_21, kI_w21, kI_22, kI_w22, kI_23, kI_w23, g1.atT hh, g1.atI hh, g1.atW hh, c_now hG hh, c_years hG hh, c_with g5, c_val g5, e5]
  rw [cl_app hG R (N 0) h 0 hh (R h hh).1]
  refine hp _ ?_ ?_ ?_ ?_ <;> simp [mq_u2, kMa, kEx]
/-- the reference's losses -/
theorem ml_fpr {i2 c' : Nat → Nat → Int32} {t2 l2 u2 : Nat → Nat} {r2 : Nat → Nat → Nat} {q2 g2 : Nat → Nat → Int64} {x2 : Nat} (hG : kG B A AA AT AN N c s t l i r u x) {rk : Nat → Nat} (R : ∀ h, h < N 0 → rk h < N 0 ∧ ∀ k, k < N 0 → s 1 h = nI k → rk k < rk h) {h : Nat} (hh : h < N 0) {post : Unit → mj_M → Prop} : ∀ (f cur cnt : Nat) (w : Nat → Nat → Int64), cur < N 0 → rk cur < f → cnt + rk cur < 40 →
    (∀ w' : Nat → Nat → Int64, w' 0 46 = kSu (kLl s (kEx s (N 4) h) f cur) (w 0 46) → w' 0 47 = w 0 47 → w' 0 48 = kLe (w 0 47) (kSu (kLl s (kEx s (N 4) h) f cur) (w 0 46)) → (∀ j, j < cnt → w' 44 j = w 44 j) → (∀ j (hj : j < (kLl s (kEx s (N 4) h) f cur).length), w' 44 (cnt + j) = (kLl s (kEx s (N 4) h) f cur)[j]) → post () (kT B t2, kL B l2, kI B i2 c' (mj_u2 s 0 45 (nI (cnt + (kLl s (kEx s (N 4) h) f cur).length))), kW B r2 u2, kI B q2 g2 w', x2)) →
    ∃ fe, vb_X12_findPrice_61 post fe (B + 24) (nI h) (kWo s (N 4) (s 2 h) (kYl s h)) (nI cur) (s 1 cur) (kT B t2, kL B l2, kI B i2 c' (mj_u2 s 0 45 (nI cnt)), kW B r2 u2, kI B q2 g2 w, x2)
  | 0, cur, cnt, w, hc, hr, _, _ => by omega
  | f + 1, cur, cnt, w, hc, hr, hq, hp => by
    have h40 := hG.n40
    rw [ex_succ rfl]
    by_cases z : s 1 cur < 0
    · have eL : kLl s (kEx s (N 4) h) (f + 1) cur = [] := by unfold kLl; rw [if_pos z]
      rw [eL] at hp
      simp only [vb_X12_findPrice_61, mq_tag, mq_len, mq_i, mq_r, mq_l, mq_nx, mq_wi, mq_wr, mq_wl, true_and, and_true, and_false, false_and, and_self, ↓reduceIte, kT_24, kT_25, kT_26, kT_27, kT_28, kT_29, kT_30, kT_31, kT_32, kT_33, kT_34, kT_35, kT_36, kT_37, kT_38, kT_39, kT_40, kT_41, kT_42, kT_43, kT_44, kT_45, kT_46, kT_47, kT_48, kT_49, kT_50, kT_51, kT_52, kT_53, kT_54, kT_55, kT_56, kT_57, kT_58, kT_59, kT_60, kT_61, kL_25, kL_26, kL_27, kL_28, kL_29, kL_30, kL_31, kL_32, kL_33, kL_34, kL_35, kL_36, kL_37, kL_38, kL_39, kL_40, kL_41, kL_42, kL_43, kL_44, kL_45, kL_46, kL_47, kL_48, kL_49, kL_50, kL_51, kL_52, kL_53, kL_54, kL_55, kL_56, kL_57, kL_58, kL_59, kL_60, kL_61, kW_24_1, kW_24_2, kW_24_3, kW_24_4, kW_24_5, kW_24_6, kW_24_7, kW_24_8, kW_24_9, kW_24_10, kW_24_11, kW_24_12, kW_24_14, kW_24_15, kW_24_16, kW_24_17, kW_24_18, kW_24_19, kW_24_21, kW_24_22, kW_24_23, kW_24_25, kW_24_26, kW_24_27, kW_24_28, kW_24_29, kW_24_31, kW_24_32, kW_24_33, kW_24_34, kW_24_36, kW_24_37, kW_24_44, kW_24_49, kW_24_50, kW_24_51, kW_24_52, kI_24, kI_w24, kI_25, kI_w25, kI_26, kI_w26, kI_27, kI_w27, kI_28, kI_w28, kI_29, kI_w29, kI_30, kI_w30, kI_31, kI_w31, kI_32, kI_w32, kI_33, kI_w33, kI_34, kI_w34, kI_35, kI_w35, kI_36, kI_w36, kI_37, kI_w37, kI_38, kI_w38, kI_39, kI_w39, kI_40, kI_w40, kI_41, kI_w41, kI_42, kI_w42, kI_43, kI_w43, kI_44, kI_w44, kI_45, kI_w45, kI_46, kI_w46, kI_47, kI_w47, kI_48, kI_w48, kI_49, kI_w49, kI_50, kI_w50, kI_51, kI_w51, kI_52, kI_w52, kI_53, kI_w53, kI_54, kI_w54, kI_55, kI_w55, kI_56, kI_w56, kI_57, kI_w57, kI_58, kI_w58, kI_59, kI_w59, kI_60, kI_w60, kI_61, kI_w61, z, ix_cmp4, ex_ite, exists_and_left, exists_const, exists_and_right]
      by_cases y : w 0 47 ≤ w 0 46
      · simp only [y, ↓reduceIte]
        have := hp (mj_u2 w 0 48 0) (by simp [mq_u2, kSu]) (by simp [mq_u2]) (by simp [mq_u2, kSu, kLe, y]) (fun j hj => by simp [mq_u2]) (fun j hj => by simp at hj)
        exact this
      · simp only [y, ↓reduceIte]
        have := hp (mj_u2 w 0 48 ((w 0 47 - w 0 46) / 2)) (by simp [mq_u2, kSu]) (by simp [mq_u2]) (by simp [mq_u2, kSu, kLe, y]) (fun j hj => by simp [mq_u2]) (fun j hj => by simp at hj)
        exact this
    · obtain ⟨k, hk, he⟩ : ∃ k, k < N 0 ∧ s 1 cur = nI k := by
        rcases hG.out hc with y | y
        · rw [y] at z; exact absurd (by decide) z
        · exact y
      have k1 : k < 2147483648 := by omega
      have n0 := nI_pos k1
      have eL : kLl s (kEx s (N 4) h) (f + 1) cur = kLs s (kEx s (N 4) h) cur :: kLl s (kEx s (N 4) h) f k := by
        show (if s 1 cur < 0 then _ else _) = _
        rw [if_neg z, he, ix_nat k1]
      rw [eL] at hp
      have hrk := (R cur hc).2 k hk he
      have n1 : cnt < 2147483648 := by omega
      have I := fun w hp => ml_fpr (t2 := t2) (l2 := l2) (u2 := u2) (i2 := i2) (c' := c') (r2 := r2) (q2 := q2) (g2 := g2) (x2 := x2) hG R hh (post := post) f k (cnt + 1) w hk (by omega) (by omega) hp
      obtain ⟨p1, p2, p3, p4, p5, p6, p7, p8, p9, _⟩ := hG.R1 hc
      have xx : ∀ j, j ≠ 0 → mj_u2 s 0 45 (nI cnt) j = s j := fun j hj => mj_u2_ne _ hj
      have x0 : mj_u2 s 0 45 (nI cnt) 0 0 = s 0 0 := mq_u2k (by decide)
      have er : ∀ hh d, kRa (mj_u2 s 0 45 (nI cnt)) hh d = kRa s hh d := fun hh d => by
        unfold kRa kon; rw [kun_to (xx 4 (by decide)) (xx 5 (by decide)) (xx 6 (by decide)), xx 3 (by decide), xx 9 (by decide), xx 10 (by decide)]
      have ev' : ∀ m k' a, kVa (mj_u2 s 0 45 (nI cnt)) (s 2 h) m k' a = kVa s (s 2 h) m k' a := by
        intro m
        induction m with
        | zero => intro k' a; rfl
        | succ m ih => intro k' a; unfold kVa; rw [xx 32 (by decide), ih]
      have S : ∀ w' : Nat → Nat → Int64, w' = mj_u2 (mj_u2 w 44 cnt (kLs s (kEx s (N 4) h) cur)) 0 46 (w 0 46 + kLs s (kEx s (N 4) h) cur) → ∃ fe, vb_X12_findPrice_61 post fe (B + 24) (nI h) (kWo s (N 4) (s 2 h) (kYl s h)) (nI k) (s 1 k) (kT B t2, kL B l2, kI B i2 c' (mj_u2 s 0 45 (nI (cnt + 1))), kW B r2 u2, kI B q2 g2 w', x2) := by
        intro w' hw'
        have w46 : w' 0 46 = w 0 46 + kLs s (kEx s (N 4) h) cur := by rw [hw']; simp [mq_u2]
        have w47 : w' 0 47 = w 0 47 := by rw [hw']; simp [mq_u2]
        have w44 : ∀ j, w' 44 j = if j = cnt then kLs s (kEx s (N 4) h) cur else w 44 j := fun j => by rw [hw']; simp [mq_u2]
        refine I w' fun w2 a1 a2 a3 a4 a5 => ?_
        have := hp w2 (by rw [a1, w46]; rfl) (by rw [a2, w47]) (by rw [a3, w46, w47]; rfl) (fun j hj => by rw [a4 j (by omega), w44, if_neg (by omega)]) (fun j hj => by
          cases j with
          | zero => rw [Nat.add_zero, a4 cnt (by omega), w44, if_pos rfl]; rfl
          | succ j =>
            have := a5 j (by simpa using hj)
            rw [show cnt + (j + 1) = cnt + 1 + j by omega, this]; rfl)
        rw [List.length_cons, show cnt + ((kLl s (kEx s (N 4) h) f k).length + 1) = cnt + 1 + (kLl s (kEx s (N 4) h) f k).length by omega] at this
        exact this
      have h1 : h < 2147483648 := by omega
      have c1 : cur < 2147483648 := by omega
      simp only [vb_X12_findPrice_61, vb_X12_findPrice_127, mq_tag, mq_len, mq_i, mq_r, mq_l, mq_nx, mq_wi, mq_wr, mq_wl, true_and, and_true, and_false, false_and, and_self, ↓reduceIte, kT_24, kT_25, kT_26, kT_27, kT_28, kT_29, kT_30, kT_31, kT_32, kT_33, kT_34, kT_35, kT_36, kT_37, kT_38, kT_39, kT_40, kT_41, kT_42, kT_43, kT_44, kT_45, kT_46, kT_47, kT_48, kT_49, kT_50, kT_51, kT_52, kT_53, kT_54, kT_55, kT_56, kT_57, kT_58, kT_59, kT_60, kT_61, kL_25, kL_26, kL_27, kL_28, kL_29, kL_30, kL_31, kL_32, kL_33, kL_34, kL_35, kL_36, kL_37, kL_38, kL_39, kL_40, kL_41, kL_42, kL_43, kL_44, kL_45, kL_46, kL_47, kL_48, kL_49, kL_50, kL_51, kL_52, kL_53, kL_54, kL_55, kL_56, kL_57, kL_58, kL_59, kL_60, kL_61, kW_24_1, kW_24_2, kW_24_3, kW_24_4, kW_24_5, kW_24_6, kW_24_7, kW_24_8, kW_24_9, kW_24_10, kW_24_11, kW_24_12, kW_24_14, kW_24_15, kW_24_16, kW_24_17, kW_24_18, kW_24_19, kW_24_21, kW_24_22, kW_24_23, kW_24_25, kW_24_26, kW_24_27, kW_24_28, kW_24_29, kW_24_31, kW_24_32, kW_24_33, kW_24_34, kW_24_36, kW_24_37, kW_24_44, kW_24_49, kW_24_50, kW_24_51, kW_24_52, kI_24, kI_w24, kI_25, kI_w25, kI_26, kI_w26, kI_27, kI_w27, kI_28, kI_w28, kI_29, kI_w29, kI_30, kI_w30, kI_31, kI_w31, kI_32, kI_w32, kI_33, kI_w33, kI_34, kI_w34, kI_35, kI_w35, kI_36, kI_w36, kI_37, kI_w37, kI_38, kI_w38, kI_39, kI_w39, kI_40, kI_w40, kI_41, kI_w41, kI_42, kI_w42, kI_43, kI_w43, kI_44, kI_w44, kI_45, kI_w45, kI_46, kI_w46, kI_47, kI_w47, kI_48, kI_w48, kI_49, kI_w49, kI_50, kI_w50, kI_51, kI_w51, kI_52, kI_w52, kI_53, kI_w53, kI_54, kI_w54, kI_55, kI_w55, kI_56, kI_w56, kI_57, kI_w57, kI_58, kI_w58, kI_59, kI_w59, kI_60, kI_w60, kI_61, kI_w61, he, n0, m_rate (show cur < 40 by omega) (s := mj_u2 s 0 45 (nI cnt)) (by rw [xx 6 (by decide)]; exact p5.1) (by rw [xx 10 (by decide)]; exact p9.1) (by rw [xx 10 (by decide)]; exact p9.2), er, x0, xx 1 (by decide), ix_in k1, ix_nat k1, show k < 40 by omega, m_val, ev', mq_u2s, ix_in n1, ix_nat n1, show cnt < 40 by omega, mq_u2o, mq_u2n, mq_u2k, ne_eq, Nat.reduceEqDiff, not_false_eq_true, ix_in h1, ix_nat h1, show h < 40 by omega, xx 2 (by decide), nI_1, ex_ite, exists_and_left, exists_const, exists_and_right]
      have el : kLs s (kEx s (N 4) h) cur = kBl s cur + if s 1 k < 0 then kEx s (N 4) h else 0 := by unfold kLs; rw [he, ix_nat k1]
      by_cases y : s 1 k < 0
      · have y2 : (0 ≤ s 1 k) = False := eq_false (Int32.not_le.mpr y)
        simp only [y2, ↓reduceIte]
        rw [if_pos y] at el
        refine S _ ?_
        rw [el]; rfl
      · have y2 : (0 ≤ s 1 k) = True := eq_true (Int32.not_lt.mp y)
        simp only [y2, ↓reduceIte]
        rw [if_neg y] at el
        refine S _ ?_
        rw [el]; rfl
end

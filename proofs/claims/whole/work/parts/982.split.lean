/-! STAGE B: a lease is parted -/
/-- one that lies across -/
def kCro (s : Nat → Nat → Int32) (o f d : Int32) : Nat → Bool := fun h => kCh s o d h && decide (¬ s 2 h &&& f = 0 ∧ ¬ s 2 h &&& (f ^^^ (-1)) = 0)
section
variable {B x x2 n na nn : Nat} {A AA AT AN : Nat → Nat} {t l l2 u : Nat → Nat} {i c s e : Nat → Nat → Int32} {r r2 : Nat → Nat → Nat} {q g w : Nat → Nat → Int64}
theorem cl_csp (H : kCD B A AA AT AN n na nn e t l i r x) {k0 : Nat} (hk0 : k0 < n) {f : Int32} {post : Bool → mj_M → Prop} : ∀ m k, k + m = n → (∃ fe, vb_X4_canSplit_23 post fe (B + 1) (A k0) f (kP A n k) (kT B t, kL B l, kI B i c s, kW B r u, kI B q g w, x)) = post (!kAny (kCro e (nI k0) f (c 1 0)) m k) (kT B t, kL B l, kI B i c s, kW B r u, kI B q g w, x)
  | 0, k, hk => by
    rw [ex_succ rfl]
    simp only [vb_X4_canSplit_23, kP_ge (show n ≤ k by omega), ↓reduceIte, ex_ite, exists_and_left, exists_const, exists_and_right, kAny, Bool.not_false]
  | m + 1, k, hk => by
    have hk' : k < n := by omega
    have I := cl_csp H hk0 (f := f) (post := post) m (k + 1) (by omega)
    rw [ex_succ rfl]
    simp only [vb_X4_canSplit_23, vb_X4_canSplit_51, vb_X4_canSplit_52, kP_lt hk', mq_tag, mq_len, mq_i, mq_r, mq_l, mq_nx, mq_wi, mq_wr, mq_wl, true_and, and_true, and_false, false_and, and_self, ↓reduceIte, kT_0, kT_1, kT_2, kT_3, kT_4, kT_5, kT_6, kT_7, kT_8, kT_9, kT_10, kT_11, kT_12, kT_13, kT_14, kT_15, kT_16, kT_17, kT_18, kT_19, kT_20, kT_21, kT_22, kT_23, kL_2, kL_3, kL_5, kL_10, kL_11, kL_12, kL_14, kL_15, kL_17, kL_18, kL_19, kL_20, kL_21, kL_22, kL_23, kW_0_0, kW_0_1, kW_0_2, kW_0_3, kW_0_4, kW_0_5, kW_0_6, kW_0_7, kW_1_4, kW_1_5, kW_4_0, kW_4_1, kW_9_0, kW_9_1, kW_9_2, kW_13_0, kW_13_1, kW_16_0, kW_16_1, kW_16_2, kW_16_3, kW_16_4, kW_16_5, kW_1_1, kW_1_2, kW_4_4, kW_8_0, kW_8_1, kW_w1_1, kW_w1_2, kW_w4_4, kW_w8_0, kW_w8_1, kI_0, kI_w0, kI_1, kI_w1, kI_2, kI_w2, kI_3, kI_w3, kI_4, kI_w4, kI_5, kI_w5, kI_6, kI_w6, kI_7, kI_w7, kI_8, kI_w8, kI_9, kI_w9, kI_10, kI_w10, kI_11, kI_w11, kI_12, kI_w12, kI_13, kI_w13, kI_14, kI_w14, kI_15, kI_w15, kI_16, kI_w16, kI_17, kI_w17, kI_18, kI_w18, kI_19, kI_w19, kI_20, kI_w20, kI_21, kI_w21, kI_22, kI_w22, kI_23, kI_w23, H.atT hk', H.atI hk', H.atW hk', H.RH (H.V1 hk') hk0, c_until H hk', Bool.false_eq_true, ↓reduceIte, ex_ite, exists_and_left, exists_const, exists_and_right, I, kAny, kCro, kCh, ← i_nle (a := kun e k) (b := c 1 0)]
    by_cases h1 : e 2 k &&& f = 0 <;> by_cases h2 : e 2 k &&& (f ^^^ (-1)) = 0 <;> by_cases h3 : e 1 k = nI k0 <;> by_cases h4 : kun e k ≤ c 1 0 <;> simp only [h1, h2, h3, h4, true_or, or_true, false_or, or_false, not_true_eq_false, not_false_eq_true, true_and, and_true, false_and, and_false, and_self, decide_true, decide_false, ↓reduceIte, Bool.true_and, Bool.false_and, Bool.and_true, Bool.and_false, Bool.not_true, Bool.not_false, Bool.false_eq_true, Bool.true_or, Bool.or_true, Bool.false_or, Bool.or_false, reduceCtorEq, Bool.and_self, Bool.or_self, ne_eq]
theorem c_csp (H : kCD B A AA AT AN n na nn e t l i r x) (U : kU A AA AN n na nn u) {k0 : Nat} (hk0 : k0 < n) {f : Int32} {post : Bool → mj_M → Prop} : vc_X4_canSplit (B + 1) (A k0) f (kT B t, kL B l, kI B i c s, kW B r u, kI B q g w, x) post = post (decide (f &&& (e 2 k0 ^^^ (-1)) = 0 ∧ ¬ f = e 2 k0) && !kAny (kCro e (nI k0) f (c 1 0)) n 0) (kT B t, kL B l, kI B i c s, kW B r u, kI B q g w, x) := by
  simp only [vc_X4_canSplit, mq_tag, mq_len, mq_i, mq_r, mq_l, mq_nx, mq_wi, mq_wr, mq_wl, true_and, and_true, and_false, false_and, and_self, ↓reduceIte, kT_0, kT_1, kT_2, kT_3, kT_4, kT_5, kT_6, kT_7, kT_8, kT_9, kT_10, kT_11, kT_12, kT_13, kT_14, kT_15, kT_16, kT_17, kT_18, kT_19, kT_20, kT_21, kT_22, kT_23, kL_2, kL_3, kL_5, kL_10, kL_11, kL_12, kL_14, kL_15, kL_17, kL_18, kL_19, kL_20, kL_21, kL_22, kL_23, kW_0_0, kW_0_1, kW_0_2, kW_0_3, kW_0_4, kW_0_5, kW_0_6, kW_0_7, kW_1_4, kW_1_5, kW_4_0, kW_4_1, kW_9_0, kW_9_1, kW_9_2, kW_13_0, kW_13_1, kW_16_0, kW_16_1, kW_16_2, kW_16_3, kW_16_4, kW_16_5, kW_1_1, kW_1_2, kW_4_4, kW_8_0, kW_8_1, kW_w1_1, kW_w1_2, kW_w4_4, kW_w8_0, kW_w8_1, kI_0, kI_w0, kI_1, kI_w1, kI_2, kI_w2, kI_3, kI_w3, kI_4, kI_w4, kI_5, kI_w5, kI_6, kI_w6, kI_7, kI_w7, kI_8, kI_w8, kI_9, kI_w9, kI_10, kI_w10, kI_11, kI_w11, kI_12, kI_w12, kI_13, kI_w13, kI_14, kI_w14, kI_15, kI_w15, kI_16, kI_w16, kI_17, kI_w17, kI_18, kI_w18, kI_19, kI_w19, kI_20, kI_w20, kI_21, kI_w21, kI_22, kI_w22, kI_23, kI_w23, H.atT hk0, H.atI hk0, H.atW hk0, c_hasFloors H hk0, khs, U.1, cl_csp H hk0 n 0 (by omega)]
  rcases Classical.propComplete (f &&& (e 2 k0 ^^^ (-1)) = 0) with h1 | h1 <;> rcases Classical.propComplete (f = e 2 k0) with h2 | h2 <;> simp only [h1, h2, true_or, or_true, false_or, or_false, not_true_eq_false, not_false_eq_true, true_and, and_true, false_and, and_false, and_self, decide_true, decide_false, ↓reduceIte, Bool.true_and, Bool.false_and, Bool.and_true, Bool.and_false, Bool.not_true, Bool.not_false, Bool.false_eq_true, Bool.true_or, Bool.or_true, Bool.false_or, Bool.or_false, reduceCtorEq, Bool.and_self, Bool.or_self, ne_eq]
theorem cl_spl {x : Nat} (H : kCD B A AA AT AN n na nn e t l i r x) {y k0 : Nat} {f : Int32} (hy : B + 62 ≤ y) (ty : t y = 4) (f3 : i y 3 = f) (hk0 : k0 < n) {post : Int32 → mj_M → Prop} : ∀ m k (r2 : Nat → Nat → Nat), k + m = n → (∀ h, h < n → r2 (A h) 1 = kP A n (h + 1)) → (∀ h, k ≤ h → h < n → r2 (A h) 2 = kR A (e 1 h)) →
    (∃ fe, vb_X4_split_105 post fe (B + 1) (A k0) y (kP A n k) (kT B t, kL B l2, kI B i c s, kW B r2 u, kI B q g w, x2)) = vc_X4_add (B + 1) y (kT B t, kL B l2, kI B i c s, kW B (kMvr r2 A (fun h => kCh e (nI k0) (c 1 0) h && decide (e 2 h &&& (f ^^^ (-1)) = 0)) m k y) u, kI B q g w, x2) post
  | 0, k, r2, hk, h1, h2 => by
    rw [ex_succ rfl, kMvr_0]
    simp only [vb_X4_split_105, kP_ge (show n ≤ k by omega), ↓reduceIte, mq_tag, mq_len, mq_i, mq_r, mq_l, mq_nx, mq_wi, mq_wr, mq_wl, true_and, and_true, and_false, false_and, and_self, ↓reduceIte, kT_0, kT_1, kT_2, kT_3, kT_4, kT_5, kT_6, kT_7, kT_8, kT_9, kT_10, kT_11, kT_12, kT_13, kT_14, kT_15, kT_16, kT_17, kT_18, kT_19, kT_20, kT_21, kT_22, kT_23, kL_2, kL_3, kL_5, kL_10, kL_11, kL_12, kL_14, kL_15, kL_17, kL_18, kL_19, kL_20, kL_21, kL_22, kL_23, kW_0_0, kW_0_1, kW_0_2, kW_0_3, kW_0_4, kW_0_5, kW_0_6, kW_0_7, kW_1_4, kW_1_5, kW_4_0, kW_4_1, kW_9_0, kW_9_1, kW_9_2, kW_13_0, kW_13_1, kW_16_0, kW_16_1, kW_16_2, kW_16_3, kW_16_4, kW_16_5, kW_1_1, kW_1_2, kW_4_4, kW_8_0, kW_8_1, kW_w1_1, kW_w1_2, kW_w4_4, kW_w8_0, kW_w8_1, kI_0, kI_w0, kI_1, kI_w1, kI_2, kI_w2, kI_3, kI_w3, kI_4, kI_w4, kI_5, kI_w5, kI_6, kI_w6, kI_7, kI_w7, kI_8, kI_w8, kI_9, kI_w9, kI_10, kI_w10, kI_11, kI_w11, kI_12, kI_w12, kI_13, kI_w13, kI_14, kI_w14, kI_15, kI_w15, kI_16, kI_w16, kI_17, kI_w17, kI_18, kI_w18, kI_19, kI_w19, kI_20, kI_w20, kI_21, kI_w21, kI_22, kI_w22, kI_23, kI_w23, ex_ite, exists_and_left, exists_const, exists_and_right]
  | m + 1, k, r2, hk, h1, h2 => by
    have hk' : k < n := by omega
    have ty' : kT B t y = 4 := (kT_o hy).trans ty
    have f3' : kI B i c s y 3 = f := (kI_o hy).trans f3
    have e1 : kW B r2 u (A k) 2 = kR A (e 1 k) := (kW_o (H.AH hk')).trans (h2 k (Nat.le_refl _) hk')
    have e2 : kW B r2 u (A k) 1 = kP A n (k + 1) := (kW_o (H.AH hk')).trans (h1 k hk')
    have e4 : kW B (mj_u2 r2 (A k) 2 y) u (A k) 1 = kP A n (k + 1) := (kW_o (H.AH hk')).trans ((mq_u2k (by decide)).trans (h1 k hk'))
    have I := cl_spl H hy ty f3 hk0 (post := post) m (k + 1) r2 (by omega) h1 (fun h a b => h2 h (by omega) b)
    have I2 := cl_spl H hy ty f3 hk0 (post := post) m (k + 1) (mj_u2 r2 (A k) 2 y) (by omega) (fun h hh => by rw [mq_u2k (by decide)]; exact h1 h hh) (fun h a b => by rw [mq_u2n (fun z => by rw [H.inj b hk'] at z; omega)]; exact h2 h (by omega) b)
    rw [ex_succ rfl]
    simp only [vb_X4_split_105, vc_X3_hasFloors, kp_tf, kP_lt hk', mq_tag, mq_len, mq_i, mq_r, mq_l, mq_nx, mq_wi, mq_wr, mq_wl, true_and, and_true, and_false, false_and, and_self, ↓reduceIte, kT_0, kT_1, kT_2, kT_3, kT_4, kT_5, kT_6, kT_7, kT_8, kT_9, kT_10, kT_11, kT_12, kT_13, kT_14, kT_15, kT_16, kT_17, kT_18, kT_19, kT_20, kT_21, kT_22, kT_23, kL_2, kL_3, kL_5, kL_10, kL_11, kL_12, kL_14, kL_15, kL_17, kL_18, kL_19, kL_20, kL_21, kL_22, kL_23, kW_0_0, kW_0_1, kW_0_2, kW_0_3, kW_0_4, kW_0_5, kW_0_6, kW_0_7, kW_1_4, kW_1_5, kW_4_0, kW_4_1, kW_9_0, kW_9_1, kW_9_2, kW_13_0, kW_13_1, kW_16_0, kW_16_1, kW_16_2, kW_16_3, kW_16_4, kW_16_5, kW_1_1, kW_1_2, kW_4_4, kW_8_0, kW_8_1, kW_w1_1, kW_w1_2, kW_w4_4, kW_w8_0, kW_w8_1, kI_0, kI_w0, kI_1, kI_w1, kI_2, kI_w2, kI_3, kI_w3, kI_4, kI_w4, kI_5, kI_w5, kI_6, kI_w6, kI_7, kI_w7, kI_8, kI_w8, kI_9, kI_w9, kI_10, kI_w10, kI_11, kI_w11, kI_12, kI_w12, kI_13, kI_w13, kI_14, kI_w14, kI_15, kI_w15, kI_16, kI_w16, kI_17, kI_w17, kI_18, kI_w18, kI_19, kI_w19, kI_20, kI_w20, kI_21, kI_w21, kI_22, kI_w22, kI_23, kI_w23, H.atT hk', H.atI hk', ty', f3', e1, e2, e4, H.RH (H.V1 hk') hk0, c_until H hk', kW_wo (H.AH hk'), decide_eq_true_eq, ex_ite, exists_and_left, exists_const, exists_and_right]
    rw [I, I2]
    have hc : kCh e (nI k0) (c 1 0) k = (decide (e 1 k = nI k0) && decide (¬ kun e k ≤ c 1 0)) := by unfold kCh; congr 1; exact decide_eq_decide.mpr Int32.not_le.symm
    by_cases q1 : e 1 k = nI k0
    · by_cases q2 : kun e k ≤ c 1 0
      · rw [kMvr_f (by simp only [hc, q1, q2, true_or, or_true, false_or, or_false, not_true_eq_false, not_false_eq_true, true_and, and_true, false_and, and_false, and_self, decide_true, decide_false, ↓reduceIte, Bool.true_and, Bool.false_and, Bool.and_true, Bool.and_false, Bool.not_true, Bool.not_false, Bool.false_eq_true, Bool.true_or, Bool.or_true, Bool.false_or, Bool.or_false, reduceCtorEq, Bool.and_self, Bool.or_self, ne_eq])]; simp only [q1, q2, true_or, or_true, false_or, or_false, not_true_eq_false, not_false_eq_true, true_and, and_true, false_and, and_false, and_self, decide_true, decide_false, ↓reduceIte, Bool.true_and, Bool.false_and, Bool.and_true, Bool.and_false, Bool.not_true, Bool.not_false, Bool.false_eq_true, Bool.true_or, Bool.or_true, Bool.false_or, Bool.or_false, reduceCtorEq, Bool.and_self, Bool.or_self, ne_eq]
      · by_cases q3 : e 2 k &&& (f ^^^ (-1)) = 0
        · rw [kMvr_t (by simp only [hc, q1, q2, q3, true_or, or_true, false_or, or_false, not_true_eq_false, not_false_eq_true, true_and, and_true, false_and, and_false, and_self, decide_true, decide_false, ↓reduceIte, Bool.true_and, Bool.false_and, Bool.and_true, Bool.and_false, Bool.not_true, Bool.not_false, Bool.false_eq_true, Bool.true_or, Bool.or_true, Bool.false_or, Bool.or_false, reduceCtorEq, Bool.and_self, Bool.or_self, ne_eq])]; simp only [q1, q2, q3, true_or, or_true, false_or, or_false, not_true_eq_false, not_false_eq_true, true_and, and_true, false_and, and_false, and_self, decide_true, decide_false, ↓reduceIte, Bool.true_and, Bool.false_and, Bool.and_true, Bool.and_false, Bool.not_true, Bool.not_false, Bool.false_eq_true, Bool.true_or, Bool.or_true, Bool.false_or, Bool.or_false, reduceCtorEq, Bool.and_self, Bool.or_self, ne_eq]
        · rw [kMvr_f (by simp only [hc, q1, q2, q3, true_or, or_true, false_or, or_false, not_true_eq_false, not_false_eq_true, true_and, and_true, false_and, and_false, and_self, decide_true, decide_false, ↓reduceIte, Bool.true_and, Bool.false_and, Bool.and_true, Bool.and_false, Bool.not_true, Bool.not_false, Bool.false_eq_true, Bool.true_or, Bool.or_true, Bool.false_or, Bool.or_false, reduceCtorEq, Bool.and_self, Bool.or_self, ne_eq])]; simp only [q1, q2, q3, true_or, or_true, false_or, or_false, not_true_eq_false, not_false_eq_true, true_and, and_true, false_and, and_false, and_self, decide_true, decide_false, ↓reduceIte, Bool.true_and, Bool.false_and, Bool.and_true, Bool.and_false, Bool.not_true, Bool.not_false, Bool.false_eq_true, Bool.true_or, Bool.or_true, Bool.false_or, Bool.or_false, reduceCtorEq, Bool.and_self, Bool.or_self, ne_eq]
    · rw [kMvr_f (by simp only [hc, q1, true_or, or_true, false_or, or_false, not_true_eq_false, not_false_eq_true, true_and, and_true, false_and, and_false, and_self, decide_true, decide_false, ↓reduceIte, Bool.true_and, Bool.false_and, Bool.and_true, Bool.and_false, Bool.not_true, Bool.not_false, Bool.false_eq_true, Bool.true_or, Bool.or_true, Bool.false_or, Bool.or_false, reduceCtorEq, Bool.and_self, Bool.or_self, ne_eq])]; simp only [q1, true_or, or_true, false_or, or_false, not_true_eq_false, not_false_eq_true, true_and, and_true, false_and, and_false, and_self, decide_true, decide_false, ↓reduceIte, Bool.true_and, Bool.false_and, Bool.and_true, Bool.and_false, Bool.not_true, Bool.not_false, Bool.false_eq_true, Bool.true_or, Bool.or_true, Bool.false_or, Bool.or_false, reduceCtorEq, Bool.and_self, Bool.or_self, ne_eq]
theorem ml_csp {s : Nat → Nat → Int32} (hn : s 0 13 = nI n) (h40 : n ≤ 40) (hw : ∀ h, h < n → 0 ≤ s 6 h) {o f p : Int32} {post : Int32 → mj_M → Prop} {r : Nat → Nat → Nat} {x : Nat} : ∀ m k, k + m = n → (∃ fe, vb_X12_part_83 post fe (B + 24) o f p (nI k) (kT B t, kL B l, kI B i c s, kW B r u, kI B q g w, x)) = if kAny (kCro s o f (s 0 0)) m k = true then post (-5) (kT B t, kL B l, kI B i c s, kW B r u, kI B q g w, x) else ∃ fe, vb_X12_part_83 post fe (B + 24) o f p (nI n) (kT B t, kL B l, kI B i c s, kW B r u, kI B q g w, x)
  | 0, k, hk => by
    have kn : k = n := by omega
    subst kn
    simp only [kAny, Bool.false_eq_true, ↓reduceIte]
  | m + 1, k, hk => by
    have hk' : k < n := by omega
    have k1 : k < 2147483648 := by omega
    have I := ml_csp hn h40 hw (o := o) (f := f) (p := p) (post := post) (r := r) (x := x) m (k + 1) (by omega)
    generalize hQ : (∃ fe, vb_X12_part_83 post fe (B + 24) o f p (nI n) (kT B t, kL B l, kI B i c s, kW B r u, kI B q g w, x)) = Q at I ⊢
    rw [ex_succ rfl]
    simp only [vb_X12_part_83, vb_X12_part_122, vb_X12_part_123, mq_tag, mq_len, mq_i, mq_r, mq_l, mq_nx, mq_wi, mq_wr, mq_wl, true_and, and_true, and_false, false_and, and_self, ↓reduceIte, kT_24, kT_25, kT_26, kT_27, kT_28, kT_29, kT_30, kT_31, kT_32, kT_33, kT_34, kT_35, kT_36, kT_37, kT_38, kT_39, kT_40, kT_41, kT_42, kT_43, kT_44, kT_45, kT_46, kT_47, kT_48, kT_49, kT_50, kT_51, kT_52, kT_53, kT_54, kT_55, kT_56, kT_57, kT_58, kT_59, kT_60, kT_61, kL_25, kL_26, kL_27, kL_28, kL_29, kL_30, kL_31, kL_32, kL_33, kL_34, kL_35, kL_36, kL_37, kL_38, kL_39, kL_40, kL_41, kL_42, kL_43, kL_44, kL_45, kL_46, kL_47, kL_48, kL_49, kL_50, kL_51, kL_52, kL_53, kL_54, kL_55, kL_56, kL_57, kL_58, kL_59, kL_60, kL_61, kW_24_1, kW_24_2, kW_24_3, kW_24_4, kW_24_5, kW_24_6, kW_24_7, kW_24_8, kW_24_9, kW_24_10, kW_24_11, kW_24_12, kW_24_14, kW_24_15, kW_24_16, kW_24_17, kW_24_18, kW_24_19, kW_24_21, kW_24_22, kW_24_23, kW_24_25, kW_24_26, kW_24_27, kW_24_28, kW_24_29, kW_24_31, kW_24_32, kW_24_33, kW_24_34, kW_24_36, kW_24_37, kW_24_44, kW_24_49, kW_24_50, kW_24_51, kW_24_52, kI_24, kI_w24, kI_25, kI_w25, kI_26, kI_w26, kI_27, kI_w27, kI_28, kI_w28, kI_29, kI_w29, kI_30, kI_w30, kI_31, kI_w31, kI_32, kI_w32, kI_33, kI_w33, kI_34, kI_w34, kI_35, kI_w35, kI_36, kI_w36, kI_37, kI_w37, kI_38, kI_w38, kI_39, kI_w39, kI_40, kI_w40, kI_41, kI_w41, kI_42, kI_w42, kI_43, kI_w43, kI_44, kI_w44, kI_45, kI_w45, kI_46, kI_w46, kI_47, kI_w47, kI_48, kI_w48, kI_49, kI_w49, kI_50, kI_w50, kI_51, kI_w51, kI_52, kI_w52, kI_53, kI_w53, kI_54, kI_w54, kI_55, kI_w55, kI_56, kI_w56, kI_57, kI_w57, kI_58, kI_w58, kI_59, kI_w59, kI_60, kI_w60, kI_61, kI_w61, hn, ix_le (show n < 2147483648 by omega) k1, show ¬ n ≤ k by omega, ix_in k1, ix_nat k1, show k < 40 by omega, m_until (show k < 40 by omega) (hw k hk'), nI_1, Bool.false_eq_true, ↓reduceIte, ex_ite, exists_and_left, exists_const, exists_and_right, kAny, kCro, kCh, I, ← i_nle (a := kun s k) (b := s 0 0)]
    by_cases h1 : s 2 k &&& f = 0 <;> by_cases h2 : s 2 k &&& (f ^^^ (-1)) = 0 <;> by_cases h3 : s 1 k = o <;> by_cases h4 : kun s k ≤ s 0 0 <;> simp only [h1, h2, h3, h4, true_or, or_true, false_or, or_false, not_true_eq_false, not_false_eq_true, true_and, and_true, false_and, and_false, and_self, decide_true, decide_false, ↓reduceIte, Bool.true_and, Bool.false_and, Bool.and_true, Bool.and_false, Bool.not_true, Bool.not_false, Bool.false_eq_true, Bool.true_or, Bool.or_true, Bool.false_or, Bool.or_false, reduceCtorEq, Bool.and_self, Bool.or_self, ne_eq]
theorem ml_spl {n1 : Nat} (h40 : n1 < 40) {o f : Int32} {post : Int32 → mj_M → Prop} {r : Nat → Nat → Nat} {x : Nat} : ∀ m k (s : Nat → Nat → Int32), k + m = n1 → (∀ h, h < n1 → 0 ≤ s 6 h) → (∃ fe, vb_X12_part_270 post fe (B + 24) o f (nI n1) (nI k) (kT B t, kL B l, kI B i c s, kW B r u, kI B q g w, x)) = post (nI n1) (kT B t, kL B l, kI B i c (kMvc s (fun h => kCh s o (s 0 0) h && decide (¬ s 2 h &&& f = 0)) m k (nI n1)), kW B r u, kI B q g w, x)
  | 0, k, s, hk, hw => by
    rw [ex_succ rfl, kMvc_0]
    simp only [vb_X12_part_270, mq_tag, mq_len, mq_i, mq_r, mq_l, mq_nx, mq_wi, mq_wr, mq_wl, true_and, and_true, and_false, false_and, and_self, ↓reduceIte, kT_24, kT_25, kT_26, kT_27, kT_28, kT_29, kT_30, kT_31, kT_32, kT_33, kT_34, kT_35, kT_36, kT_37, kT_38, kT_39, kT_40, kT_41, kT_42, kT_43, kT_44, kT_45, kT_46, kT_47, kT_48, kT_49, kT_50, kT_51, kT_52, kT_53, kT_54, kT_55, kT_56, kT_57, kT_58, kT_59, kT_60, kT_61, kL_25, kL_26, kL_27, kL_28, kL_29, kL_30, kL_31, kL_32, kL_33, kL_34, kL_35, kL_36, kL_37, kL_38, kL_39, kL_40, kL_41, kL_42, kL_43, kL_44, kL_45, kL_46, kL_47, kL_48, kL_49, kL_50, kL_51, kL_52, kL_53, kL_54, kL_55, kL_56, kL_57, kL_58, kL_59, kL_60, kL_61, kW_24_1, kW_24_2, kW_24_3, kW_24_4, kW_24_5, kW_24_6, kW_24_7, kW_24_8, kW_24_9, kW_24_10, kW_24_11, kW_24_12, kW_24_14, kW_24_15, kW_24_16, kW_24_17, kW_24_18, kW_24_19, kW_24_21, kW_24_22, kW_24_23, kW_24_25, kW_24_26, kW_24_27, kW_24_28, kW_24_29, kW_24_31, kW_24_32, kW_24_33, kW_24_34, kW_24_36, kW_24_37, kW_24_44, kW_24_49, kW_24_50, kW_24_51, kW_24_52, kI_24, kI_w24, kI_25, kI_w25, kI_26, kI_w26, kI_27, kI_w27, kI_28, kI_w28, kI_29, kI_w29, kI_30, kI_w30, kI_31, kI_w31, kI_32, kI_w32, kI_33, kI_w33, kI_34, kI_w34, kI_35, kI_w35, kI_36, kI_w36, kI_37, kI_w37, kI_38, kI_w38, kI_39, kI_w39, kI_40, kI_w40, kI_41, kI_w41, kI_42, kI_w42, kI_43, kI_w43, kI_44, kI_w44, kI_45, kI_w45, kI_46, kI_w46, kI_47, kI_w47, kI_48, kI_w48, kI_49, kI_w49, kI_50, kI_w50, kI_51, kI_w51, kI_52, kI_w52, kI_53, kI_w53, kI_54, kI_w54, kI_55, kI_w55, kI_56, kI_w56, kI_57, kI_w57, kI_58, kI_w58, kI_59, kI_w59, kI_60, kI_w60, kI_61, kI_w61, ix_le (show n1 < 2147483648 by omega) (show k < 2147483648 by omega), show n1 ≤ k by omega, ex_ite, exists_and_left, exists_const, exists_and_right]
  | m + 1, k, s, hk, hw => by
    have hk' : k < n1 := by omega
    have k1 : k < 2147483648 := by omega
    have I := fun s' hw' => ml_spl h40 (o := o) (f := f) (post := post) (r := r) (x := x) m (k + 1) s' (by omega) hw'
    rw [ex_succ rfl]
    simp only [vb_X12_part_270, vb_X12_part_317, vb_X12_part_318, mq_tag, mq_len, mq_i, mq_r, mq_l, mq_nx, mq_wi, mq_wr, mq_wl, true_and, and_true, and_false, false_and, and_self, ↓reduceIte, kT_24, kT_25, kT_26, kT_27, kT_28, kT_29, kT_30, kT_31, kT_32, kT_33, kT_34, kT_35, kT_36, kT_37, kT_38, kT_39, kT_40, kT_41, kT_42, kT_43, kT_44, kT_45, kT_46, kT_47, kT_48, kT_49, kT_50, kT_51, kT_52, kT_53, kT_54, kT_55, kT_56, kT_57, kT_58, kT_59, kT_60, kT_61, kL_25, kL_26, kL_27, kL_28, kL_29, kL_30, kL_31, kL_32, kL_33, kL_34, kL_35, kL_36, kL_37, kL_38, kL_39, kL_40, kL_41, kL_42, kL_43, kL_44, kL_45, kL_46, kL_47, kL_48, kL_49, kL_50, kL_51, kL_52, kL_53, kL_54, kL_55, kL_56, kL_57, kL_58, kL_59, kL_60, kL_61, kW_24_1, kW_24_2, kW_24_3, kW_24_4, kW_24_5, kW_24_6, kW_24_7, kW_24_8, kW_24_9, kW_24_10, kW_24_11, kW_24_12, kW_24_14, kW_24_15, kW_24_16, kW_24_17, kW_24_18, kW_24_19, kW_24_21, kW_24_22, kW_24_23, kW_24_25, kW_24_26, kW_24_27, kW_24_28, kW_24_29, kW_24_31, kW_24_32, kW_24_33, kW_24_34, kW_24_36, kW_24_37, kW_24_44, kW_24_49, kW_24_50, kW_24_51, kW_24_52, kI_24, kI_w24, kI_25, kI_w25, kI_26, kI_w26, kI_27, kI_w27, kI_28, kI_w28, kI_29, kI_w29, kI_30, kI_w30, kI_31, kI_w31, kI_32, kI_w32, kI_33, kI_w33, kI_34, kI_w34, kI_35, kI_w35, kI_36, kI_w36, kI_37, kI_w37, kI_38, kI_w38, kI_39, kI_w39, kI_40, kI_w40, kI_41, kI_w41, kI_42, kI_w42, kI_43, kI_w43, kI_44, kI_w44, kI_45, kI_w45, kI_46, kI_w46, kI_47, kI_w47, kI_48, kI_w48, kI_49, kI_w49, kI_50, kI_w50, kI_51, kI_w51, kI_52, kI_w52, kI_53, kI_w53, kI_54, kI_w54, kI_55, kI_w55, kI_56, kI_w56, kI_57, kI_w57, kI_58, kI_w58, kI_59, kI_w59, kI_60, kI_w60, kI_61, kI_w61, ix_le (show n1 < 2147483648 by omega) k1, show ¬ n1 ≤ k by omega, ix_in k1, ix_nat k1, show k < 40 by omega, m_until (show k < 40 by omega) (hw k hk'), nI_1, Bool.false_eq_true, ↓reduceIte, ex_ite, exists_and_left, exists_const, exists_and_right]
    have W : ∀ v, ∀ h, h < n1 → 0 ≤ mj_u2 s 1 k v 6 h := fun v h hh => by rw [mq_u2n (by decide)]; exact hw h hh
    rw [I _ (W _), I _ (W _)]
    have eS : mj_u2 s 1 k (s 1 k) = s := by funext j h; unfold mj_u2; split <;> simp_all
    have e0 : mj_u2 s 1 k (nI n1) 0 0 = s 0 0 := mq_u2n (by decide)
    have e2 : mj_u2 s 1 k (nI n1) 2 = s 2 := mj_u2_ne _ (by decide)
    have hc : kCh s o (s 0 0) k = (decide (s 1 k = o) && decide (¬ kun s k ≤ s 0 0)) := by unfold kCh; congr 1; exact decide_eq_decide.mpr Int32.not_le.symm
    have F : (kCh s o (s 0 0) k && decide (¬ s 2 k &&& f = 0)) = false → post (nI n1) (kT B t, kL B l, kI B i c (kMvc (mj_u2 s 1 k (s 1 k)) (fun h => kCh (mj_u2 s 1 k (s 1 k)) o (mj_u2 s 1 k (s 1 k) 0 0) h && decide (¬ mj_u2 s 1 k (s 1 k) 2 h &&& f = 0)) m (k + 1) (nI n1)), kW B r u, kI B q g w, x) = post (nI n1) (kT B t, kL B l, kI B i c (kMvc s (fun h => kCh s o (s 0 0) h && decide (¬ s 2 h &&& f = 0)) (m + 1) k (nI n1)), kW B r u, kI B q g w, x) := fun h3 => by
      rw [kMvc_f (m := m) (k := k) h3, eS]
    by_cases q1 : s 1 k = o
    · by_cases q2 : kun s k ≤ s 0 0
      · simp only [q1, q2, ↓reduceIte]
        rw [← F (by simp only [hc, q1, q2, true_or, or_true, false_or, or_false, not_true_eq_false, not_false_eq_true, true_and, and_true, false_and, and_false, and_self, decide_true, decide_false, ↓reduceIte, Bool.true_and, Bool.false_and, Bool.and_true, Bool.and_false, Bool.not_true, Bool.not_false, Bool.false_eq_true, Bool.true_or, Bool.or_true, Bool.false_or, Bool.or_false, reduceCtorEq, Bool.and_self, Bool.or_self, ne_eq])]
        simp only [q1]
      · by_cases q3 : s 2 k &&& f = 0
        · simp only [q1, q2, q3, ↓reduceIte]
          rw [← F (by simp only [hc, q1, q2, q3, true_or, or_true, false_or, or_false, not_true_eq_false, not_false_eq_true, true_and, and_true, false_and, and_false, and_self, decide_true, decide_false, ↓reduceIte, Bool.true_and, Bool.false_and, Bool.and_true, Bool.and_false, Bool.not_true, Bool.not_false, Bool.false_eq_true, Bool.true_or, Bool.or_true, Bool.false_or, Bool.or_false, reduceCtorEq, Bool.and_self, Bool.or_self, ne_eq])]
          simp only [q1]
        · simp only [q1, q2, q3, ↓reduceIte]
          rw [kMvc_t (m := m) (k := k) (cond' := fun h => kCh (mj_u2 s 1 k (nI n1)) o (mj_u2 s 1 k (nI n1) 0 0) h && decide (¬ mj_u2 s 1 k (nI n1) 2 h &&& f = 0)) (by simp only [hc, q1, q2, q3, true_or, or_true, false_or, or_false, not_true_eq_false, not_false_eq_true, true_and, and_true, false_and, and_false, and_self, decide_true, decide_false, ↓reduceIte, Bool.true_and, Bool.false_and, Bool.and_true, Bool.and_false, Bool.not_true, Bool.not_false, Bool.false_eq_true, Bool.true_or, Bool.or_true, Bool.false_or, Bool.or_false, reduceCtorEq, Bool.and_self, Bool.or_self, ne_eq]) (fun h hh => by rw [e0, e2]; unfold kCh; rw [kun_1, mq_u2k (by omega)])]
    · simp only [q1, ↓reduceIte]
      rw [← F (by simp only [hc, q1, true_or, or_true, false_or, or_false, not_true_eq_false, not_false_eq_true, true_and, and_true, false_and, and_false, and_self, decide_true, decide_false, ↓reduceIte, Bool.true_and, Bool.false_and, Bool.and_true, Bool.and_false, Bool.not_true, Bool.not_false, Bool.false_eq_true, Bool.true_or, Bool.or_true, Bool.false_or, Bool.or_false, reduceCtorEq, Bool.and_self, Bool.or_self, ne_eq])]
theorem m_csp {s : Nat → Nat → Int32} (hn : s 0 13 = nI n) (h40 : n ≤ 40) (hw : ∀ h, h < n → 0 ≤ s 6 h) {o f p : Int32} {post : Int32 → mj_M → Prop} {r : Nat → Nat → Nat} {x : Nat} : (∃ fe, vb_X12_part_83 post fe (B + 24) o f p 0 (kT B t, kL B l, kI B i c s, kW B r u, kI B q g w, x)) = if kAny (kCro s o f (s 0 0)) n 0 = true then post (-5) (kT B t, kL B l, kI B i c s, kW B r u, kI B q g w, x) else ∃ fe, vb_X12_part_83 post fe (B + 24) o f p (nI n) (kT B t, kL B l, kI B i c s, kW B r u, kI B q g w, x) := by
  have L := ml_csp (B := B) (t := t) (l := l) (u := u) (i := i) (c := c) (q := q) (g := g) (w := w) (r := r) (x := x) hn h40 hw (o := o) (f := f) (p := p) (post := post) n 0 (by omega)
  rw [nI_0] at L; exact L
theorem m_spl {n1 : Nat} (h40 : n1 < 40) {s : Nat → Nat → Int32} (hw : ∀ h, h < n1 → 0 ≤ s 6 h) {o f : Int32} {post : Int32 → mj_M → Prop} {r : Nat → Nat → Nat} {x : Nat} : (∃ fe, vb_X12_part_270 post fe (B + 24) o f (nI n1) 0 (kT B t, kL B l, kI B i c s, kW B r u, kI B q g w, x)) = post (nI n1) (kT B t, kL B l, kI B i c (kMvc s (fun h => kCh s o (s 0 0) h && decide (¬ s 2 h &&& f = 0)) n1 0 (nI n1)), kW B r u, kI B q g w, x) := by
  have L := ml_spl (B := B) (t := t) (l := l) (u := u) (i := i) (c := c) (q := q) (g := g) (w := w) (r := r) (x := x) h40 (o := o) (f := f) (post := post) n1 0 s (by omega) hw
  rw [nI_0] at L; exact L
end
/-! the rows behind it -/
def kSp (s : Nat → Nat → Int32) (n k : Nat) (o f a b p d sh db am fl : Int32) : Nat → Nat → Int32 := mj_u2 (mj_u2 (mj_u2 (mj_u2 (kAdd s n o f a b p d) 9 n sh) 10 n db) 9 k am) 2 k fl
section
variable {s : Nat → Nat → Int32} {n k : Nat} {o f a b p d sh db am fl : Int32}
theorem kSp_lt {j h : Nat} (hj : 1 ≤ j) (hh : h < n) : kSp s n k o f a b p d sh db am fl j h = mj_u2 (mj_u2 s 9 k am) 2 k fl j h := by
  have e : mj_u2 (mj_u2 (kAdd s n o f a b p d) 9 n sh) 10 n db j h = s j h := by
    rw [mq_u2k (by omega), mq_u2k (by omega), kAdd_lt hj hh]
  unfold kSp
  simp only [mq_u2] at e ⊢
  by_cases z : h = k
  · subst z
    by_cases j2 : j = 2
    · subst j2; simp
    · by_cases j9 : j = 9
      · subst j9; simp
      · simp only [j2, j9, false_and, ↓reduceIte] at e ⊢; exact e
  · simp only [z, and_false, ↓reduceIte]; exact e
theorem kSp_hi {j : Nat} (hj : 13 ≤ j) : kSp s n k o f a b p d sh db am fl j = s j := by
  unfold kSp
  rw [mj_u2_ne _ (by omega), mj_u2_ne _ (by omega), mj_u2_ne _ (by omega), mj_u2_ne _ (by omega), kAdd_hi hj]
theorem kSp_row {j : Nat} (h2 : j ≠ 2) (h9 : j ≠ 9) (h10 : j ≠ 10) : kSp s n k o f a b p d sh db am fl j = kAdd s n o f a b p d j := by
  unfold kSp
  rw [mj_u2_ne _ (by omega), mj_u2_ne _ (by omega), mj_u2_ne _ (by omega), mj_u2_ne _ (by omega)]
theorem kSp_n (hk : k < n) : kSp s n k o f a b p d sh db am fl 1 n = o ∧ kSp s n k o f a b p d sh db am fl 2 n = f ∧ kSp s n k o f a b p d sh db am fl 3 n = a ∧ kSp s n k o f a b p d sh db am fl 4 n = b ∧ kSp s n k o f a b p d sh db am fl 5 n = 0 ∧ kSp s n k o f a b p d sh db am fl 6 n = 0 ∧ kSp s n k o f a b p d sh db am fl 7 n = p ∧ kSp s n k o f a b p d sh db am fl 8 n = d ∧ kSp s n k o f a b p d sh db am fl 9 n = sh ∧ kSp s n k o f a b p d sh db am fl 10 n = db ∧ kSp s n k o f a b p d sh db am fl 11 n = -6 ∧ kSp s n k o f a b p d sh db am fl 12 n = -6 := by
  obtain ⟨n1, n2, n3, n4, n5, n6, n7, n8, n9, n10, n11, n12⟩ := @kAdd_n s n o f a b p d
  have nk : n ≠ k := by omega
  refine ⟨?_, ?_, ?_, ?_, ?_, ?_, ?_, ?_, ?_, ?_, ?_, ?_⟩
  · rw [kSp_row (by decide) (by decide) (by decide)]; exact n1
  · unfold kSp; rw [mq_u2k nk, mq_u2k nk, mq_u2n (by decide), mq_u2n (by decide)]; exact n2
  · rw [kSp_row (by decide) (by decide) (by decide)]; exact n3
  · rw [kSp_row (by decide) (by decide) (by decide)]; exact n4
  · rw [kSp_row (by decide) (by decide) (by decide)]; exact n5
  · rw [kSp_row (by decide) (by decide) (by decide)]; exact n6
  · rw [kSp_row (by decide) (by decide) (by decide)]; exact n7
  · rw [kSp_row (by decide) (by decide) (by decide)]; exact n8
  · unfold kSp; rw [mq_u2k nk, mq_u2k nk, mq_u2n (by decide), mq_u2s]
  · unfold kSp; rw [mq_u2k nk, mq_u2k nk, mq_u2s]
  · rw [kSp_row (by decide) (by decide) (by decide)]; exact n11
  · rw [kSp_row (by decide) (by decide) (by decide)]; exact n12
end
theorem kHo.fr2 {s s' : Nat → Nat → Int32} {n : Nat} (h : kHo s n) (b0 : s' 0 0 = s 0 0) (b : ∀ j, 1 ≤ j → j ≤ 12 → (j = 1 ∨ (3 ≤ j ∧ j ≤ 6) ∨ j = 12) → s' j = s j) (hr : ∀ h, h < n → (1 ≤ s' 2 h ∧ s' 2 h ≤ 4095) ∧ (0 ≤ s' 7 h ∧ s' 7 h ≤ 9) ∧ (0 ≤ s' 8 h ∧ s' 8 h ≤ 73000) ∧ (0 ≤ s' 9 h ∧ s' 9 h ≤ 100000) ∧ (0 ≤ s' 10 h ∧ s' 10 h ≤ 100) ∧ (s' 11 h = -6 ∨ (0 ≤ s' 11 h ∧ s' 11 h ≤ 73000))) : kHo s' n := by
  obtain ⟨a1, a2, a3, a4⟩ := h
  have e1 := b 1 (by decide) (by decide) (by decide)
  have e3 := b 3 (by decide) (by decide) (by decide)
  have e4 := b 4 (by decide) (by decide) (by decide)
  have e5 := b 5 (by decide) (by decide) (by decide)
  have e6 := b 6 (by decide) (by decide) (by decide)
  have e12 := b 12 (by decide) (by decide) (by decide)
  refine ⟨by rw [b0]; exact a1, fun h hh => ?_, by rw [e1]; exact a3, ?_⟩
  · obtain ⟨q1, q2, q3, q4, q5, q6, q7, q8, q9, q10, q11⟩ := a2 h hh
    obtain ⟨r0, r1, r2, r3, r4, r5⟩ := hr h hh
    unfold kR1
    rw [e1, e3, e4, e5, e6, e12]
    exact ⟨q1, r0, q3, q4, q5, r1, r2, r3, r4, r5, q11⟩
  · unfold kR2 at a4 ⊢
    rw [b0, e1, e3, e4, e5, e6, e12, kun_to e4 e5 e6]
    exact a4

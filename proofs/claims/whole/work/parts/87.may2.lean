/-! STAGE B: who may buy, how many more -/
def kMo (Fb : Int32 → Bool) (v : Int32) : Nat → Nat → Int32 → Int32 → Int32
  | 0, _, best, _ => best
  | m + 1, k, best, few => if few ≤ kOn (nI k) then kMo Fb v m (k + 1) best few else if nI k &&& v = 0 then (if Fb (v ||| nI k) = true then kMo Fb v m (k + 1) (nI k) (kOn (nI k)) else kMo Fb v m (k + 1) best few) else kMo Fb v m (k + 1) best few
set_option maxRecDepth 100000 in
theorem kOn_10 : ∀ n : Fin 1024, kOn (nI n.val) ≤ 10 := by decide +kernel
def kG1 (s : Nat → Nat → Int32) (na n k : Nat) (v : Int32) : Bool := kBu (kCt (kGq (kJo s na n k) (fun _ => true)) 12 0) (kCt (kGq (kJo s na n k) (kQ v)) 12 0) (kOn (s 2 k))
section
variable {B : Nat} {A AA AT AN N t l u : Nat → Nat} {i c s s1 : Nat → Nat → Int32} {r : Nat → Nat → Nat} {q g w : Nat → Nat → Int64} {x : Nat}
theorem ml_jo {t2 l2 u2 : Nat → Nat} {i2 c' : Nat → Nat → Int32} {r2 : Nat → Nat → Nat} {x2 : Nat} (hG : kG B A AA AT AN N c s t l i r u x) {k : Nat} (hk : k < N 0) {v : Int32} {l3 : Bool} {post : Int32 → mj_M → Prop} : ∀ (m f : Nat) (acc : Int32) (s1 : Nat → Nat → Int32), f + m = 12 → rF s s1 →
    (∀ s', rF s s' → post (kJb (kGq (kJo s (N 1) (N 0) k) (fun p => !l3 || kQ v p)) m f acc) (kT B t2, kL B l2, kI B i2 c' s', kW B r2 u2, kI B q g w, x2)) →
    vb_X12_joinOf_6 post (m + 1) (B + 24) (nI k) v l3 acc (nI f) (kT B t2, kL B l2, kI B i2 c' s1, kW B r2 u2, kI B q g w, x2)
  | 0, f, acc, s1, hf, hF, hp => by
    have f12 : f = 12 := by omega
    subst f12
    simp only [vb_X12_joinOf_6, show (nI 12) = 12 by decide, Int32.le_refl, ↓reduceIte]
    exact hp s1 hF
  | m + 1, f, acc, s1, hf, hF, hp => by
    have h40 := hG.n40
    have hG1 := hG.rf (fun _ _ => rfl) hF
    have f1 : f < 2147483648 := by omega
    have k1 : k < 2147483648 := by omega
    have k40 : k < 40 := by omega
    have xx : ∀ j, 1 ≤ j → j ≤ 15 → s1 j = s j := fun j a b => hF.1 j (by omega) (by omega) (by omega) (by omega)
    have x1 := xx 1 (by decide) (by decide)
    have x2' := xx 2 (by decide) (by decide)
    have y0 : s1 0 0 = s 0 0 := hF.2 0 (by decide)
    have I := fun acc s2 h2 hp => ml_jo (t2 := t2) (l2 := l2) (u2 := u2) (i2 := i2) (c' := c') (r2 := r2) (x2 := x2) hG hk (v := v) (l3 := l3) (post := post) m (f + 1) acc s2 (by omega) h2 hp
    unfold kJb at hp
    unfold vb_X12_joinOf_6
    simp only [vb_X12_joinOf_70, vb_X12_joinOf_71, vb_X12_joinOf_99, mq_tag, mq_len, mq_i, mq_r, mq_l, mq_nx, mq_wi, mq_wr, mq_wl, true_and, and_true, and_false, false_and, and_self, ↓reduceIte, kT_24, kT_25, kT_26, kT_27, kT_28, kT_29, kT_30, kT_31, kT_32, kT_33, kT_34, kT_35, kT_36, kT_37, kT_38, kT_39, kT_40, kT_41, kT_42, kT_43, kT_44, kT_45, kT_46, kT_47, kT_48, kT_49, kT_50, kT_51, kT_52, kT_53, kT_54, kT_55, kT_56, kT_57, kT_58, kT_59, kT_60, kT_61, kL_25, kL_26, kL_27, kL_28, kL_29, kL_30, kL_31, kL_32, kL_33, kL_34, kL_35, kL_36, kL_37, kL_38, kL_39, kL_40, kL_41, kL_42, kL_43, kL_44, kL_45, kL_46, kL_47, kL_48, kL_49, kL_50, kL_51, kL_52, kL_53, kL_54, kL_55, kL_56, kL_57, kL_58, kL_59, kL_60, kL_61, kW_24_1, kW_24_2, kW_24_3, kW_24_4, kW_24_5, kW_24_6, kW_24_7, kW_24_8, kW_24_9, kW_24_10, kW_24_11, kW_24_12, kW_24_14, kW_24_15, kW_24_16, kW_24_17, kW_24_18, kW_24_19, kW_24_21, kW_24_22, kW_24_23, kW_24_25, kW_24_26, kW_24_27, kW_24_28, kW_24_29, kW_24_31, kW_24_32, kW_24_33, kW_24_34, kW_24_36, kW_24_37, kW_24_44, kW_24_49, kW_24_50, kW_24_51, kW_24_52, kI_24, kI_w24, kI_25, kI_w25, kI_26, kI_w26, kI_27, kI_w27, kI_28, kI_w28, kI_29, kI_w29, kI_30, kI_w30, kI_31, kI_w31, kI_32, kI_w32, kI_33, kI_w33, kI_34, kI_w34, kI_35, kI_w35, kI_36, kI_w36, kI_37, kI_w37, kI_38, kI_w38, kI_39, kI_w39, kI_40, kI_w40, kI_41, kI_w41, kI_42, kI_w42, kI_43, kI_w43, kI_44, kI_w44, kI_45, kI_w45, kI_46, kI_w46, kI_47, kI_w47, kI_48, kI_w48, kI_49, kI_w49, kI_50, kI_w50, kI_51, kI_w51, kI_52, kI_w52, kI_53, kI_w53, kI_54, kI_w54, kI_55, kI_w55, kI_56, kI_w56, kI_57, kI_w57, kI_58, kI_w58, kI_59, kI_w59, kI_60, kI_w60, kI_61, kI_w61, show (12 : Int32) = nI 12 by decide, ix_le (show 12 < 2147483648 by decide) f1, show ¬ 12 ≤ f by omega, ix_in k1, ix_nat k1, k40, x1, x2', m_last hG1, hF.lo, y0, nI_1, Bool.false_eq_true, Int32.or_zero]
    have e0 : kGq (kJo s (N 1) (N 0) k) (fun p => !l3 || kQ v p) f = match kJo s (N 1) (N 0) k f with | none => false | some p => !l3 || kQ v p := rfl
    have ef : khf s k (nI f) = decide (((s 2 k >>> (nI f &&& 31)) &&& 1) = 1) := rfl
    by_cases hf1 : ((s 2 k >>> (nI f &&& 31)) &&& 1) = 1
    · simp only [hf1, ↓reduceIte]
      cases hy : kLo s (N 0) (nI f) (s 0 0) with
      | none =>
        have hj : kJo s (N 1) (N 0) k f = none := by unfold kJo; rw [ef, if_pos (decide_eq_true hf1), hy]
        rw [e0, hj] at hp
        simp only [show kFn none = -1 from rfl, show ((-1 : Int32) < 0) = True from eq_true (by decide), ↓reduceIte, Bool.false_eq_true] at hp ⊢
        exact I acc s1 hF hp
      | some y =>
        have hyl := kLo_lt hy
        have y1 : y < 2147483648 := by omega
        simp only [show kFn (some y) = nI y from rfl, ix_neg y1, ↓reduceIte, ix_in y1, ix_nat y1, show y < 40 by omega, true_and]
        by_cases hl : s 1 y < 0
        · have hj : kJo s (N 1) (N 0) k f = none := by unfold kJo; rw [ef, if_pos (decide_eq_true hf1), hy]; simp only; rw [if_pos hl]
          rw [e0, hj] at hp
          simp only [hl, ↓reduceIte, Bool.false_eq_true] at hp ⊢
          exact I acc s1 hF hp
        · simp only [hl, ↓reduceIte]
          refine m_right hG hF hyl hG.2.2.2.2.2.2.2.1.1 fun s' h3 => ?_
          by_cases z : kRi s (N 1) y 3 (s 0 0) = 1
          · obtain ⟨p1, p2, p3, p4, p5, p6, _⟩ := hG.R1 hyl
            obtain ⟨p, hp9, hpe⟩ := r_of (n := 9) (by decide) (by decide) p6
            have x7 : s' 7 y = nI p := by rw [h3.1 7 (by decide) (by decide) (by decide) (by decide)]; exact hpe
            have hj : kJo s (N 1) (N 0) k f = some p := by
              unfold kJo; rw [ef, if_pos (decide_eq_true hf1), hy]; simp only; rw [if_neg hl, if_pos z, hpe, ix_nat (by omega)]
            rw [e0, hj] at hp
            simp only [kQ] at hp
            simp only [z, ↓reduceIte, mq_tag, mq_len, mq_i, mq_r, mq_l, mq_nx, mq_wi, mq_wr, mq_wl, true_and, and_true, and_false, false_and, and_self, ↓reduceIte, kT_24, kT_25, kT_26, kT_27, kT_28, kT_29, kT_30, kT_31, kT_32, kT_33, kT_34, kT_35, kT_36, kT_37, kT_38, kT_39, kT_40, kT_41, kT_42, kT_43, kT_44, kT_45, kT_46, kT_47, kT_48, kT_49, kT_50, kT_51, kT_52, kT_53, kT_54, kT_55, kT_56, kT_57, kT_58, kT_59, kT_60, kT_61, kL_25, kL_26, kL_27, kL_28, kL_29, kL_30, kL_31, kL_32, kL_33, kL_34, kL_35, kL_36, kL_37, kL_38, kL_39, kL_40, kL_41, kL_42, kL_43, kL_44, kL_45, kL_46, kL_47, kL_48, kL_49, kL_50, kL_51, kL_52, kL_53, kL_54, kL_55, kL_56, kL_57, kL_58, kL_59, kL_60, kL_61, kW_24_1, kW_24_2, kW_24_3, kW_24_4, kW_24_5, kW_24_6, kW_24_7, kW_24_8, kW_24_9, kW_24_10, kW_24_11, kW_24_12, kW_24_14, kW_24_15, kW_24_16, kW_24_17, kW_24_18, kW_24_19, kW_24_21, kW_24_22, kW_24_23, kW_24_25, kW_24_26, kW_24_27, kW_24_28, kW_24_29, kW_24_31, kW_24_32, kW_24_33, kW_24_34, kW_24_36, kW_24_37, kW_24_44, kW_24_49, kW_24_50, kW_24_51, kW_24_52, kI_24, kI_w24, kI_25, kI_w25, kI_26, kI_w26, kI_27, kI_w27, kI_28, kI_w28, kI_29, kI_w29, kI_30, kI_w30, kI_31, kI_w31, kI_32, kI_w32, kI_33, kI_w33, kI_34, kI_w34, kI_35, kI_w35, kI_36, kI_w36, kI_37, kI_w37, kI_38, kI_w38, kI_39, kI_w39, kI_40, kI_w40, kI_41, kI_w41, kI_42, kI_w42, kI_43, kI_w43, kI_44, kI_w44, kI_45, kI_w45, kI_46, kI_w46, kI_47, kI_w47, kI_48, kI_w48, kI_49, kI_w49, kI_50, kI_w50, kI_51, kI_w51, kI_52, kI_w52, kI_53, kI_w53, kI_54, kI_w54, kI_55, kI_w55, kI_56, kI_w56, kI_57, kI_w57, kI_58, kI_w58, kI_59, kI_w59, kI_60, kI_w60, kI_61, kI_w61, ix_in y1, ix_nat y1, show y < 40 by omega, x7]
            rcases Bool.eq_false_or_eq_true l3 with z3 | z3 <;> rcases Classical.propComplete ((v >>> (nI p &&& 31)) &&& 1 = 1) with z4 | z4 <;> simp only [z3, z4, true_or, or_true, false_or, or_false, not_true_eq_false, not_false_eq_true, true_and, and_true, false_and, and_false, and_self, decide_true, decide_false, ↓reduceIte, Bool.true_and, Bool.false_and, Bool.and_true, Bool.and_false, Bool.not_true, Bool.not_false, Bool.false_eq_true, Bool.true_or, Bool.or_true, Bool.false_or, Bool.or_false, reduceCtorEq, Bool.and_self, Bool.or_self, ne_eq] at hp I ⊢ <;> exact I _ _ h3 hp
          · have hj : kJo s (N 1) (N 0) k f = none := by unfold kJo; rw [ef, if_pos (decide_eq_true hf1), hy]; simp only; rw [if_neg hl, if_neg z]
            rw [e0, hj] at hp
            simp only [z, ↓reduceIte, Bool.false_eq_true] at hp ⊢
            exact I acc s' h3 hp
    · have hj : kJo s (N 1) (N 0) k f = none := by unfold kJo; rw [ef, if_neg (by rw [decide_eq_false hf1]; decide)]
      rw [e0, hj] at hp
      simp only [hf1, ↓reduceIte, Bool.false_eq_true] at hp ⊢
      exact I acc s1 hF hp
theorem m_buy {t2 l2 u2 : Nat → Nat} {i2 c' : Nat → Nat → Int32} {r2 : Nat → Nat → Nat} {x2 : Nat} (hG : kG B A AA AT AN N c s t l i r u x) {k : Nat} (hk : k < N 0) {v : Int32} (hF : rF s s1) {post : Bool → mj_M → Prop}
    (hp : ∀ s', rF s s' → post (kG1 s (N 1) (N 0) k v) (kT B t2, kL B l2, kI B i2 c' s', kW B r2 u2, kI B q g w, x2)) :
    vc_X12_mayBuy (B + 24) (nI k) v (kT B t2, kL B l2, kI B i2 c' s1, kW B r2 u2, kI B q g w, x2) post := by
  have h40 := hG.n40
  have k1 : k < 2147483648 := by omega
  have x2' : s1 2 = s 2 := hF.1 2 (by decide) (by decide) (by decide) (by decide)
  have Q1 : (fun p => !false || kQ 0 p) = fun _ => true := by funext p; rfl
  have Q2 : (fun p => !true || kQ v p) = kQ v := by funext p; simp
  unfold kG1 kBu at hp
  simp only [vc_X12_mayBuy, vc_X12_joinOf, mq_tag, mq_len, mq_i, mq_r, mq_l, mq_nx, mq_wi, mq_wr, mq_wl, true_and, and_true, and_false, false_and, and_self, ↓reduceIte, kT_24, kT_25, kT_26, kT_27, kT_28, kT_29, kT_30, kT_31, kT_32, kT_33, kT_34, kT_35, kT_36, kT_37, kT_38, kT_39, kT_40, kT_41, kT_42, kT_43, kT_44, kT_45, kT_46, kT_47, kT_48, kT_49, kT_50, kT_51, kT_52, kT_53, kT_54, kT_55, kT_56, kT_57, kT_58, kT_59, kT_60, kT_61, kL_25, kL_26, kL_27, kL_28, kL_29, kL_30, kL_31, kL_32, kL_33, kL_34, kL_35, kL_36, kL_37, kL_38, kL_39, kL_40, kL_41, kL_42, kL_43, kL_44, kL_45, kL_46, kL_47, kL_48, kL_49, kL_50, kL_51, kL_52, kL_53, kL_54, kL_55, kL_56, kL_57, kL_58, kL_59, kL_60, kL_61, kW_24_1, kW_24_2, kW_24_3, kW_24_4, kW_24_5, kW_24_6, kW_24_7, kW_24_8, kW_24_9, kW_24_10, kW_24_11, kW_24_12, kW_24_14, kW_24_15, kW_24_16, kW_24_17, kW_24_18, kW_24_19, kW_24_21, kW_24_22, kW_24_23, kW_24_25, kW_24_26, kW_24_27, kW_24_28, kW_24_29, kW_24_31, kW_24_32, kW_24_33, kW_24_34, kW_24_36, kW_24_37, kW_24_44, kW_24_49, kW_24_50, kW_24_51, kW_24_52, kI_24, kI_w24, kI_25, kI_w25, kI_26, kI_w26, kI_27, kI_w27, kI_28, kI_w28, kI_29, kI_w29, kI_30, kI_w30, kI_31, kI_w31, kI_32, kI_w32, kI_33, kI_w33, kI_34, kI_w34, kI_35, kI_w35, kI_36, kI_w36, kI_37, kI_w37, kI_38, kI_w38, kI_39, kI_w39, kI_40, kI_w40, kI_41, kI_w41, kI_42, kI_w42, kI_43, kI_w43, kI_44, kI_w44, kI_45, kI_w45, kI_46, kI_w46, kI_47, kI_w47, kI_48, kI_w48, kI_49, kI_w49, kI_50, kI_w50, kI_51, kI_w51, kI_52, kI_w52, kI_53, kI_w53, kI_54, kI_w54, kI_55, kI_w55, kI_56, kI_w56, kI_57, kI_w57, kI_58, kI_w58, kI_59, kI_w59, kI_60, kI_w60, kI_61, kI_w61, ix_in k1, ix_nat k1, show k < 40 by omega, x2', m_ones]
  refine ⟨13, ?_⟩
  have J1 := fun post => ml_jo (q := q) (g := g) (w := w) (t2 := t2) (l2 := l2) (u2 := u2) (i2 := i2) (c' := c') (r2 := r2) (x2 := x2) hG hk (v := 0) (l3 := false) (post := post) 12 0 0 s1 (by omega) hF
  rw [nI_0, Q1] at J1
  refine J1 _ fun s' h3 => ?_
  rw [kJb_ones]
  by_cases z1 : 3 * nI (kCt (kGq (kJo s (N 1) (N 0) k) (fun _ => true)) 12 0) < 2 * kOn (s 2 k)
  · simp only [z1, ↓reduceIte] at hp ⊢
    exact hp s' h3
  · simp only [z1, ↓reduceIte] at hp ⊢
    refine ⟨kT_24, 13, ?_⟩
    have J2 := fun post => ml_jo (q := q) (g := g) (w := w) (t2 := t2) (l2 := l2) (u2 := u2) (i2 := i2) (c' := c') (r2 := r2) (x2 := x2) hG hk (v := v) (l3 := true) (post := post) 12 0 0 s' (by omega) h3
    rw [nI_0, Q2] at J2
    refine J2 _ fun s2 h4 => ?_
    rw [kJb_ones]
    by_cases z2 : 2 * nI (kCt (kGq (kJo s (N 1) (N 0) k) (kQ v)) 12 0) < kOn (s 2 k)
    · simp only [z2, ↓reduceIte] at hp ⊢
      exact hp s2 h4
    · simp only [z2, ↓reduceIte] at hp ⊢
      exact hp s2 h4
theorem c_buy (hG : kG B A AA AT AN N c s t l i r u x) {k : Nat} (hk : k < N 0) (hc : ∀ p, p < 10 → c 23 p = nI (kCt (fun f' => decide (kJo s (N 1) (N 0) k f' = some p)) 12 0)) {v : Int32} {post : Bool → mj_M → Prop} : vc_X11_mayBuy B (A k) v (kT B t, kL B l, kI B i c s, kW B r u, kI B q g w, x) post = post (kG1 s (N 1) (N 0) k v) (kT B t, kL B l, kI B i c s, kW B r u, kI B q g w, x) := by
  have L := cl_buy (q := q) (g := g) (w := w) (u := u) hG.1 hk (hG.R1 hk).2.1 hc (v := v) (post := post) 10 0 0 0 (by omega)
  have S := fun Q => kSm_ct (G := kJo s (N 1) (N 0) k) (Q := Q) (fun f p h => kJo_p hG h) 12 0
  have S1 := S (fun _ => true)
  simp only [↓reduceIte] at S1
  rw [nI_0, Nat.zero_add, Nat.zero_add, S1, S (kQ v)] at L
  simp only [vc_X11_mayBuy]; exact L
theorem c_joined {k : Nat} (hG : kG B A AA AT AN N c s t l i r u x) (hk : k < N 0) {post : Unit → mj_M → Prop}
    (hp : ∀ c' g', (∀ j, j ≠ 7 → j ≠ 23 → c' j = c j) → (∀ p, p < 10 → c' 23 p = nI (kCt (fun f' => decide (kJo s (N 1) (N 0) k f' = some p)) 12 0)) → post () (kT B t, kL B l, kI B i c' s, kW B r u, kI B q g' w, x)) :
    vc_X11_countJoined B (A k) (kT B t, kL B l, kI B i c s, kW B r u, kI B q g w, x) post := by
  have e10 : Int32.ofNat 10 = 10 := by decide
  have hF : ∀ j, j ≠ 23 → kFil c 0 j = c j := fun j hj => by funext p; unfold kFil; rw [if_neg (fun z => hj z.1)]
  have hG' : kG B A AA AT AN N (kFil c 0) s t l i r u x := hG.scr (fun j _ _ j23 => hF j j23) (fun _ _ _ _ _ _ => rfl) (fun _ _ _ => rfl)
  have L := fun post => cl_fil (B := B) (t := t) (l := l) (u := u) (i := i) (s := s) (r := r) (q := q) (g := g) (w := w) (x := x) (post := post) 10 0 c (by omega)
  rw [nI_0] at L
  simp only [vc_X11_countJoined, vc_J7_fill_53178, mq_tag, mq_len, mq_i, mq_r, mq_l, mq_nx, mq_wi, mq_wr, mq_wl, true_and, and_true, and_false, false_and, and_self, ↓reduceIte, kT_0, kT_1, kT_2, kT_3, kT_4, kT_5, kT_6, kT_7, kT_8, kT_9, kT_10, kT_11, kT_12, kT_13, kT_14, kT_15, kT_16, kT_17, kT_18, kT_19, kT_20, kT_21, kT_22, kT_23, kL_2, kL_3, kL_5, kL_10, kL_11, kL_12, kL_14, kL_15, kL_17, kL_18, kL_19, kL_20, kL_21, kL_22, kL_23, kW_0_0, kW_0_1, kW_0_2, kW_0_3, kW_0_4, kW_0_5, kW_0_6, kW_0_7, kW_1_4, kW_1_5, kW_4_0, kW_4_1, kW_9_0, kW_9_1, kW_9_2, kW_13_0, kW_13_1, kW_16_0, kW_16_1, kW_16_2, kW_16_3, kW_16_4, kW_16_5, kW_1_1, kW_1_2, kW_4_4, kW_8_0, kW_8_1, kW_w1_1, kW_w1_2, kW_w4_4, kW_w8_0, kW_w8_1, kI_0, kI_w0, kI_1, kI_w1, kI_2, kI_w2, kI_3, kI_w3, kI_4, kI_w4, kI_5, kI_w5, kI_6, kI_w6, kI_7, kI_w7, kI_8, kI_w8, kI_9, kI_w9, kI_10, kI_w10, kI_11, kI_w11, kI_12, kI_w12, kI_13, kI_w13, kI_14, kI_w14, kI_15, kI_w15, kI_16, kI_w16, kI_17, kI_w17, kI_18, kI_w18, kI_19, kI_w19, kI_20, kI_w20, kI_21, kI_w21, kI_22, kI_w22, kI_23, kI_w23, e10, L, c_force hG'.1 hG'.2.1, hG'.hd]
  refine ⟨13, ?_⟩
  have R := cl_cnt (q := q) (w := w) hk (post := post) 12 0 (kFil c 0) g (by omega) hG' (fun p hp => by unfold kFil; rw [if_pos (by omega)]; rfl) (fun c' g' h1 h2 => hp c' g' (fun j j7 j23 => (h1 j j7 j23).trans (hF j j23)) h2)
  rw [nI_0] at R; exact R
theorem cl_more (hG : kG B A AA AT AN N c s t l i r u x) {k : Nat} (hk : k < N 0) (hc : ∀ p, p < 10 → c 23 p = nI (kCt (fun f' => decide (kJo s (N 1) (N 0) k f' = some p)) 12 0)) {v : Int32} {post : Int32 → mj_M → Prop} : ∀ (m f : Nat) (best few : Int32), f + m = 1024 → (∃ fe, vb_X11_more_41 post fe B v (A k) best few (nI f) (kT B t, kL B l, kI B i c s, kW B r u, kI B q g w, x)) = post (kMo (kG1 s (N 1) (N 0) k) v m f best few) (kT B t, kL B l, kI B i c s, kW B r u, kI B q g w, x)
  | 0, f, best, few, hf => by
    rw [ex_succ rfl]
    simp only [vb_X11_more_41, show (1024 : Int32) = nI 1024 by decide, ix_le (show 1024 < 2147483648 by decide) (show f < 2147483648 by omega), show 1024 ≤ f by omega, ↓reduceIte, ex_ite, exists_and_left, exists_const, exists_and_right, kMo]
  | m + 1, f, best, few, hf => by
    have f1 : f < 2147483648 := by omega
    have bc : kBc (nI f) = kOn (nI f) := kBc_eq ⟨nI_pos' f1, by rw [show (4095 : Int32) = nI 4095 by decide, ix_le f1 (by decide)]; omega⟩
    have I := fun best few => cl_more hG hk hc (v := v) (post := post) m (f + 1) best few (by omega)
    rw [ex_succ rfl]
    simp only [vb_X11_more_41, mq_tag, mq_len, mq_i, mq_r, mq_l, mq_nx, mq_wi, mq_wr, mq_wl, true_and, and_true, and_false, false_and, and_self, ↓reduceIte, kT_0, kT_1, kT_2, kT_3, kT_4, kT_5, kT_6, kT_7, kT_8, kT_9, kT_10, kT_11, kT_12, kT_13, kT_14, kT_15, kT_16, kT_17, kT_18, kT_19, kT_20, kT_21, kT_22, kT_23, kL_2, kL_3, kL_5, kL_10, kL_11, kL_12, kL_14, kL_15, kL_17, kL_18, kL_19, kL_20, kL_21, kL_22, kL_23, kW_0_0, kW_0_1, kW_0_2, kW_0_3, kW_0_4, kW_0_5, kW_0_6, kW_0_7, kW_1_4, kW_1_5, kW_4_0, kW_4_1, kW_9_0, kW_9_1, kW_9_2, kW_13_0, kW_13_1, kW_16_0, kW_16_1, kW_16_2, kW_16_3, kW_16_4, kW_16_5, kW_1_1, kW_1_2, kW_4_4, kW_8_0, kW_8_1, kW_w1_1, kW_w1_2, kW_w4_4, kW_w8_0, kW_w8_1, kI_0, kI_w0, kI_1, kI_w1, kI_2, kI_w2, kI_3, kI_w3, kI_4, kI_w4, kI_5, kI_w5, kI_6, kI_w6, kI_7, kI_w7, kI_8, kI_w8, kI_9, kI_w9, kI_10, kI_w10, kI_11, kI_w11, kI_12, kI_w12, kI_13, kI_w13, kI_14, kI_w14, kI_15, kI_w15, kI_16, kI_w16, kI_17, kI_w17, kI_18, kI_w18, kI_19, kI_w19, kI_20, kI_w20, kI_21, kI_w21, kI_22, kI_w22, kI_23, kI_w23, show (1024 : Int32) = nI 1024 by decide, ix_le (show 1024 < 2147483648 by decide) f1, show ¬ 1024 ≤ f by omega, c_bits, bc, c_buy hG hk hc, nI_1, ex_ite, exists_and_left, exists_const, exists_and_right, I, kMo]
    split
    · rfl
    · split
      · split <;> rfl
      · rfl
theorem ml_more {t2 l2 u2 : Nat → Nat} {i2 c' : Nat → Nat → Int32} {r2 : Nat → Nat → Nat} {x2 : Nat} (hG : kG B A AA AT AN N c s t l i r u x) {k : Nat} (hk : k < N 0) {v : Int32} {post : Int32 → mj_M → Prop} : ∀ (m f : Nat) (best few : Int32) (s1 : Nat → Nat → Int32), f + m = 1024 → ((best = -6 ∧ few = 11) ∨ ∃ j, j < 1024 ∧ best = nI j ∧ few = kOn (nI j)) → rF s s1 →
    (∀ s', rF s s' → post (kMo (kG1 s (N 1) (N 0) k) v m f best few) (kT B t2, kL B l2, kI B i2 c' s', kW B r2 u2, kI B q g w, x2)) →
    vb_X12_more_20 post (m + 1) (B + 24) (nI k) v best (nI f) (kT B t2, kL B l2, kI B i2 c' s1, kW B r2 u2, kI B q g w, x2)
  | 0, f, best, few, s1, hf, hb, hF, hp => by
    simp only [vb_X12_more_20, show (1024 : Int32) = nI 1024 by decide, ix_le (show 1024 < 2147483648 by decide) (show f < 2147483648 by omega), show 1024 ≤ f by omega, ↓reduceIte]
    exact hp s1 hF
  | m + 1, f, best, few, s1, hf, hb, hF, hp => by
    have f1 : f < 2147483648 := by omega
    have I := fun best few s2 hb h2 hp => ml_more (t2 := t2) (l2 := l2) (u2 := u2) (i2 := i2) (c' := c') (r2 := r2) (x2 := x2) hG hk (v := v) (post := post) m (f + 1) best few s2 (by omega) hb h2 hp
    unfold kMo at hp
    unfold vb_X12_more_20
    simp only [vb_X12_more_46, vb_X12_more_51, show (1024 : Int32) = nI 1024 by decide, ix_le (show 1024 < 2147483648 by decide) f1, show ¬ 1024 ≤ f by omega, ↓reduceIte, m_ones, nI_1, Bool.false_eq_true]
    have T : ¬ few ≤ kOn (nI f) → (if nI f &&& v = 0 then kT B t2 (B + 24) = 13 ∧ vc_X12_mayBuy (B + 24) (nI k) (v ||| nI f) (kT B t2, kL B l2, kI B i2 c' s1, kW B r2 u2, kI B q g w, x2) (fun r4 M5 => if r4 = true then vb_X12_more_20 post (m + 1) (B + 24) (nI k) v (nI f) (nI (f + 1)) M5 else vb_X12_more_20 post (m + 1) (B + 24) (nI k) v best (nI (f + 1)) M5) else vb_X12_more_20 post (m + 1) (B + 24) (nI k) v best (nI (f + 1)) (kT B t2, kL B l2, kI B i2 c' s1, kW B r2 u2, kI B q g w, x2)) := by
      intro z
      rw [if_neg z] at hp
      by_cases y : nI f &&& v = 0
      · rw [if_pos y] at hp ⊢
        refine ⟨kT_24, m_buy hG hk hF fun s' h3 => ?_⟩
        rcases Bool.eq_false_or_eq_true (kG1 s (N 1) (N 0) k (v ||| nI f)) with w1 | w1
        · simp only [w1, ↓reduceIte] at hp ⊢
          exact I _ _ s' (.inr ⟨f, by omega, rfl, rfl⟩) h3 hp
        · simp only [w1, Bool.false_eq_true, ↓reduceIte] at hp ⊢
          exact I _ _ s' hb h3 hp
      · rw [if_neg y] at hp ⊢
        exact I _ _ s1 hb hF hp
    rcases hb with ⟨hb, hf2⟩ | ⟨j, hj, hb, hf2⟩
    · have z : ¬ few ≤ kOn (nI f) := by
        have := kOn_10 ⟨f, by omega⟩
        simp only at this
        rw [hf2]; intro y
        rw [i_le] at this y
        have e10 : (10 : Int32).toInt = 10 := by decide
        have e11 : (11 : Int32).toInt = 11 := by decide
        omega
      have bn : (best < 0) = True := by rw [hb]; exact eq_true (by decide)
      simp only [bn, ↓reduceIte]
      exact T z
    · have bn : (best < 0) = False := by rw [hb]; exact ix_neg (by omega)
      simp only [bn, ↓reduceIte]
      by_cases z : few ≤ kOn (nI f)
      · have z' : kOn best ≤ kOn (nI f) := by rw [hb, ← hf2]; exact z
        rw [if_pos z] at hp
        rw [if_pos z']
        have := I best few s1 (.inr ⟨j, hj, hb, hf2⟩) hF hp
        split <;> exact this
      · have z' : ¬ kOn best ≤ kOn (nI f) := by rw [hb, ← hf2]; exact z
        rw [if_neg z']
        exact T z
end
section
variable {B : Nat} {M : mj_M} {K : Int32 → Int32 → mj_M → Prop}
theorem T_may (h : kJ B M) (a b : Int32) (hK : ∀ v M', kJ B M' → K v v M') : vc_X11_may B a b M (fun v M1 => mj_tag M1 (B + 24) = 13 ∧ vc_X12_may (B + 24) a b M1 (fun v' M2 => K v v' M2)) := by
  obtain ⟨A, AA, AT, AN, N, t, l, u, i, c, s, r, q, g, w, x, rfl, hG⟩ := h
  obtain ⟨g1, g2, g3, g4, g5, g6, g7, g8, g9, g10⟩ := id hG
  have h40 := hG.n40
  by_cases hv : 0 ≤ a ∧ a < nI (N 0)
  · obtain ⟨k, hk, rfl⟩ := ix_ofl (by omega) hv.1 hv.2
    have A0 : (A k = 0) = False := g1.H0 hk
    have k1 : k < 2147483648 := by omega
    by_cases hl : s 1 k < 0
    · by_cases hb : 0 ≤ b ∧ b ≤ 1023
      · simp only [vc_X11_may, mq_tag, mq_len, mq_i, mq_r, mq_l, mq_nx, mq_wi, mq_wr, mq_wl, true_and, and_true, and_false, false_and, and_self, ↓reduceIte, kT_0, kT_1, kT_2, kT_3, kT_4, kT_5, kT_6, kT_7, kT_8, kT_9, kT_10, kT_11, kT_12, kT_13, kT_14, kT_15, kT_16, kT_17, kT_18, kT_19, kT_20, kT_21, kT_22, kT_23, kL_2, kL_3, kL_5, kL_10, kL_11, kL_12, kL_14, kL_15, kL_17, kL_18, kL_19, kL_20, kL_21, kL_22, kL_23, kW_0_0, kW_0_1, kW_0_2, kW_0_3, kW_0_4, kW_0_5, kW_0_6, kW_0_7, kW_1_4, kW_1_5, kW_4_0, kW_4_1, kW_9_0, kW_9_1, kW_9_2, kW_13_0, kW_13_1, kW_16_0, kW_16_1, kW_16_2, kW_16_3, kW_16_4, kW_16_5, kW_1_1, kW_1_2, kW_4_4, kW_8_0, kW_8_1, kW_w1_1, kW_w1_2, kW_w4_4, kW_w8_0, kW_w8_1, kI_0, kI_w0, kI_1, kI_w1, kI_2, kI_w2, kI_3, kI_w3, kI_4, kI_w4, kI_5, kI_w5, kI_6, kI_w6, kI_7, kI_w7, kI_8, kI_w8, kI_9, kI_w9, kI_10, kI_w10, kI_11, kI_w11, kI_12, kI_w12, kI_13, kI_w13, kI_14, kI_w14, kI_15, kI_w15, kI_16, kI_w16, kI_17, kI_w17, kI_18, kI_w18, kI_19, kI_w19, kI_20, kI_w20, kI_21, kI_w21, kI_22, kI_w22, kI_23, kI_w23, c_findW g1 g2 hk, hl, A0, c_isPersons, hb, decide_true]
        refine c_joined hG hk fun c' g' h1 h2 => ?_
        have hG' : kG B A AA AT AN N c' s t l i r u x := hG.scr (fun j _ j7 j23 => h1 j j7 j23) (fun _ _ _ _ _ _ => rfl) (fun _ _ _ => rfl)
        simp only [mq_tag, mq_len, mq_i, mq_r, mq_l, mq_nx, mq_wi, mq_wr, mq_wl, true_and, and_true, and_false, false_and, and_self, ↓reduceIte, kT_0, kT_1, kT_2, kT_3, kT_4, kT_5, kT_6, kT_7, kT_8, kT_9, kT_10, kT_11, kT_12, kT_13, kT_14, kT_15, kT_16, kT_17, kT_18, kT_19, kT_20, kT_21, kT_22, kT_23, kL_2, kL_3, kL_5, kL_10, kL_11, kL_12, kL_14, kL_15, kL_17, kL_18, kL_19, kL_20, kL_21, kL_22, kL_23, kW_0_0, kW_0_1, kW_0_2, kW_0_3, kW_0_4, kW_0_5, kW_0_6, kW_0_7, kW_1_4, kW_1_5, kW_4_0, kW_4_1, kW_9_0, kW_9_1, kW_9_2, kW_13_0, kW_13_1, kW_16_0, kW_16_1, kW_16_2, kW_16_3, kW_16_4, kW_16_5, kW_1_1, kW_1_2, kW_4_4, kW_8_0, kW_8_1, kW_w1_1, kW_w1_2, kW_w4_4, kW_w8_0, kW_w8_1, kI_0, kI_w0, kI_1, kI_w1, kI_2, kI_w2, kI_3, kI_w3, kI_4, kI_w4, kI_5, kI_w5, kI_6, kI_w6, kI_7, kI_w7, kI_8, kI_w8, kI_9, kI_w9, kI_10, kI_w10, kI_11, kI_w11, kI_12, kI_w12, kI_13, kI_w13, kI_14, kI_w14, kI_15, kI_w15, kI_16, kI_w16, kI_17, kI_w17, kI_18, kI_w18, kI_19, kI_w19, kI_20, kI_w20, kI_21, kI_w21, kI_22, kI_w22, kI_23, kI_w23, c_buy hG' hk h2]
        have D : ∀ post : Int32 → mj_M → Prop, (∀ s', rF s s' → post (if kG1 s (N 1) (N 0) k b = true then 1 else 0) (kT B t, kL B l, kI B i c' s', kW B r u, kI B q g' w, x)) → vc_X12_may (B + 24) (nI k) b (kT B t, kL B l, kI B i c' s, kW B r u, kI B q g' w, x) post := by
          intro post hp
          simp only [vc_X12_may, vc_X12_whyNotWhole, mq_tag, mq_len, mq_i, mq_r, mq_l, mq_nx, mq_wi, mq_wr, mq_wl, true_and, and_true, and_false, false_and, and_self, ↓reduceIte, kT_24, kT_25, kT_26, kT_27, kT_28, kT_29, kT_30, kT_31, kT_32, kT_33, kT_34, kT_35, kT_36, kT_37, kT_38, kT_39, kT_40, kT_41, kT_42, kT_43, kT_44, kT_45, kT_46, kT_47, kT_48, kT_49, kT_50, kT_51, kT_52, kT_53, kT_54, kT_55, kT_56, kT_57, kT_58, kT_59, kT_60, kT_61, kL_25, kL_26, kL_27, kL_28, kL_29, kL_30, kL_31, kL_32, kL_33, kL_34, kL_35, kL_36, kL_37, kL_38, kL_39, kL_40, kL_41, kL_42, kL_43, kL_44, kL_45, kL_46, kL_47, kL_48, kL_49, kL_50, kL_51, kL_52, kL_53, kL_54, kL_55, kL_56, kL_57, kL_58, kL_59, kL_60, kL_61, kW_24_1, kW_24_2, kW_24_3, kW_24_4, kW_24_5, kW_24_6, kW_24_7, kW_24_8, kW_24_9, kW_24_10, kW_24_11, kW_24_12, kW_24_14, kW_24_15, kW_24_16, kW_24_17, kW_24_18, kW_24_19, kW_24_21, kW_24_22, kW_24_23, kW_24_25, kW_24_26, kW_24_27, kW_24_28, kW_24_29, kW_24_31, kW_24_32, kW_24_33, kW_24_34, kW_24_36, kW_24_37, kW_24_44, kW_24_49, kW_24_50, kW_24_51, kW_24_52, kI_24, kI_w24, kI_25, kI_w25, kI_26, kI_w26, kI_27, kI_w27, kI_28, kI_w28, kI_29, kI_w29, kI_30, kI_w30, kI_31, kI_w31, kI_32, kI_w32, kI_33, kI_w33, kI_34, kI_w34, kI_35, kI_w35, kI_36, kI_w36, kI_37, kI_w37, kI_38, kI_w38, kI_39, kI_w39, kI_40, kI_w40, kI_41, kI_w41, kI_42, kI_w42, kI_43, kI_w43, kI_44, kI_w44, kI_45, kI_w45, kI_46, kI_w46, kI_47, kI_w47, kI_48, kI_w48, kI_49, kI_w49, kI_50, kI_w50, kI_51, kI_w51, kI_52, kI_w52, kI_53, kI_w53, kI_54, kI_w54, kI_55, kI_w55, kI_56, kI_w56, kI_57, kI_w57, kI_58, kI_w58, kI_59, kI_w59, kI_60, kI_w60, kI_61, kI_w61, m_isHolding hG.hn h40, hv, decide_true, and_self, ix_in k1, ix_nat k1, show k < 40 by omega, hl, m_in1023, hb, Int32.le_refl]
          refine m_buy hG' hk (rF.refl s) fun s' h3 => ?_
          have := hp s' h3
          rcases Bool.eq_false_or_eq_true (kG1 s (N 1) (N 0) k b) with z | z <;> simp only [z, Bool.false_eq_true, ↓reduceIte] at this ⊢ <;> exact this
        rcases Bool.eq_false_or_eq_true (kG1 s (N 1) (N 0) k b) with z | z
        · simp only [z, ↓reduceIte] at D ⊢
          exact ⟨kT_24, D _ fun s' h3 => hK _ _ (kJ.mk (hG'.rf (fun _ _ => rfl) h3))⟩
        · simp only [z, Bool.false_eq_true, ↓reduceIte] at D ⊢
          exact ⟨kT_24, D _ fun s' h3 => hK _ _ (kJ.mk (hG'.rf (fun _ _ => rfl) h3))⟩
      · simp only [vc_X11_may, vc_X12_may, vc_X12_whyNotWhole, mq_tag, mq_len, mq_i, mq_r, mq_l, mq_nx, mq_wi, mq_wr, mq_wl, true_and, and_true, and_false, false_and, and_self, ↓reduceIte, kT_0, kT_1, kT_2, kT_3, kT_4, kT_5, kT_6, kT_7, kT_8, kT_9, kT_10, kT_11, kT_12, kT_13, kT_14, kT_15, kT_16, kT_17, kT_18, kT_19, kT_20, kT_21, kT_22, kT_23, kL_2, kL_3, kL_5, kL_10, kL_11, kL_12, kL_14, kL_15, kL_17, kL_18, kL_19, kL_20, kL_21, kL_22, kL_23, kW_0_0, kW_0_1, kW_0_2, kW_0_3, kW_0_4, kW_0_5, kW_0_6, kW_0_7, kW_1_4, kW_1_5, kW_4_0, kW_4_1, kW_9_0, kW_9_1, kW_9_2, kW_13_0, kW_13_1, kW_16_0, kW_16_1, kW_16_2, kW_16_3, kW_16_4, kW_16_5, kW_1_1, kW_1_2, kW_4_4, kW_8_0, kW_8_1, kW_w1_1, kW_w1_2, kW_w4_4, kW_w8_0, kW_w8_1, kI_0, kI_w0, kI_1, kI_w1, kI_2, kI_w2, kI_3, kI_w3, kI_4, kI_w4, kI_5, kI_w5, kI_6, kI_w6, kI_7, kI_w7, kI_8, kI_w8, kI_9, kI_w9, kI_10, kI_w10, kI_11, kI_w11, kI_12, kI_w12, kI_13, kI_w13, kI_14, kI_w14, kI_15, kI_w15, kI_16, kI_w16, kI_17, kI_w17, kI_18, kI_w18, kI_19, kI_w19, kI_20, kI_w20, kI_21, kI_w21, kI_22, kI_w22, kI_23, kI_w23, kT_24, kT_25, kT_26, kT_27, kT_28, kT_29, kT_30, kT_31, kT_32, kT_33, kT_34, kT_35, kT_36, kT_37, kT_38, kT_39, kT_40, kT_41, kT_42, kT_43, kT_44, kT_45, kT_46, kT_47, kT_48, kT_49, kT_50, kT_51, kT_52, kT_53, kT_54, kT_55, kT_56, kT_57, kT_58, kT_59, kT_60, kT_61, kL_25, kL_26, kL_27, kL_28, kL_29, kL_30, kL_31, kL_32, kL_33, kL_34, kL_35, kL_36, kL_37, kL_38, kL_39, kL_40, kL_41, kL_42, kL_43, kL_44, kL_45, kL_46, kL_47, kL_48, kL_49, kL_50, kL_51, kL_52, kL_53, kL_54, kL_55, kL_56, kL_57, kL_58, kL_59, kL_60, kL_61, kW_24_1, kW_24_2, kW_24_3, kW_24_4, kW_24_5, kW_24_6, kW_24_7, kW_24_8, kW_24_9, kW_24_10, kW_24_11, kW_24_12, kW_24_14, kW_24_15, kW_24_16, kW_24_17, kW_24_18, kW_24_19, kW_24_21, kW_24_22, kW_24_23, kW_24_25, kW_24_26, kW_24_27, kW_24_28, kW_24_29, kW_24_31, kW_24_32, kW_24_33, kW_24_34, kW_24_36, kW_24_37, kW_24_44, kW_24_49, kW_24_50, kW_24_51, kW_24_52, kI_24, kI_w24, kI_25, kI_w25, kI_26, kI_w26, kI_27, kI_w27, kI_28, kI_w28, kI_29, kI_w29, kI_30, kI_w30, kI_31, kI_w31, kI_32, kI_w32, kI_33, kI_w33, kI_34, kI_w34, kI_35, kI_w35, kI_36, kI_w36, kI_37, kI_w37, kI_38, kI_w38, kI_39, kI_w39, kI_40, kI_w40, kI_41, kI_w41, kI_42, kI_w42, kI_43, kI_w43, kI_44, kI_w44, kI_45, kI_w45, kI_46, kI_w46, kI_47, kI_w47, kI_48, kI_w48, kI_49, kI_w49, kI_50, kI_w50, kI_51, kI_w51, kI_52, kI_w52, kI_53, kI_w53, kI_54, kI_w54, kI_55, kI_w55, kI_56, kI_w56, kI_57, kI_w57, kI_58, kI_w58, kI_59, kI_w59, kI_60, kI_w60, kI_61, kI_w61, c_findW g1 g2 hk, hl, A0, c_isPersons, hb, m_isHolding hG.hn h40, hv, ix_in k1, ix_nat k1, show k < 40 by omega, m_in1023, true_or, or_true, false_or, or_false, not_true_eq_false, not_false_eq_true, true_and, and_true, false_and, and_false, and_self, decide_true, decide_false, ↓reduceIte, Bool.true_and, Bool.false_and, Bool.and_true, Bool.and_false, Bool.not_true, Bool.not_false, Bool.false_eq_true, Bool.true_or, Bool.or_true, Bool.false_or, Bool.or_false, reduceCtorEq, Bool.and_self, Bool.or_self, ne_eq]
        simp only [show ((0 : Int32) ≤ -2) = False from eq_false (by decide), ↓reduceIte]
        exact hK _ _ (kJ.mk hG)
    · simp only [vc_X11_may, vc_X12_may, vc_X12_whyNotWhole, mq_tag, mq_len, mq_i, mq_r, mq_l, mq_nx, mq_wi, mq_wr, mq_wl, true_and, and_true, and_false, false_and, and_self, ↓reduceIte, kT_0, kT_1, kT_2, kT_3, kT_4, kT_5, kT_6, kT_7, kT_8, kT_9, kT_10, kT_11, kT_12, kT_13, kT_14, kT_15, kT_16, kT_17, kT_18, kT_19, kT_20, kT_21, kT_22, kT_23, kL_2, kL_3, kL_5, kL_10, kL_11, kL_12, kL_14, kL_15, kL_17, kL_18, kL_19, kL_20, kL_21, kL_22, kL_23, kW_0_0, kW_0_1, kW_0_2, kW_0_3, kW_0_4, kW_0_5, kW_0_6, kW_0_7, kW_1_4, kW_1_5, kW_4_0, kW_4_1, kW_9_0, kW_9_1, kW_9_2, kW_13_0, kW_13_1, kW_16_0, kW_16_1, kW_16_2, kW_16_3, kW_16_4, kW_16_5, kW_1_1, kW_1_2, kW_4_4, kW_8_0, kW_8_1, kW_w1_1, kW_w1_2, kW_w4_4, kW_w8_0, kW_w8_1, kI_0, kI_w0, kI_1, kI_w1, kI_2, kI_w2, kI_3, kI_w3, kI_4, kI_w4, kI_5, kI_w5, kI_6, kI_w6, kI_7, kI_w7, kI_8, kI_w8, kI_9, kI_w9, kI_10, kI_w10, kI_11, kI_w11, kI_12, kI_w12, kI_13, kI_w13, kI_14, kI_w14, kI_15, kI_w15, kI_16, kI_w16, kI_17, kI_w17, kI_18, kI_w18, kI_19, kI_w19, kI_20, kI_w20, kI_21, kI_w21, kI_22, kI_w22, kI_23, kI_w23, kT_24, kT_25, kT_26, kT_27, kT_28, kT_29, kT_30, kT_31, kT_32, kT_33, kT_34, kT_35, kT_36, kT_37, kT_38, kT_39, kT_40, kT_41, kT_42, kT_43, kT_44, kT_45, kT_46, kT_47, kT_48, kT_49, kT_50, kT_51, kT_52, kT_53, kT_54, kT_55, kT_56, kT_57, kT_58, kT_59, kT_60, kT_61, kL_25, kL_26, kL_27, kL_28, kL_29, kL_30, kL_31, kL_32, kL_33, kL_34, kL_35, kL_36, kL_37, kL_38, kL_39, kL_40, kL_41, kL_42, kL_43, kL_44, kL_45, kL_46, kL_47, kL_48, kL_49, kL_50, kL_51, kL_52, kL_53, kL_54, kL_55, kL_56, kL_57, kL_58, kL_59, kL_60, kL_61, kW_24_1, kW_24_2, kW_24_3, kW_24_4, kW_24_5, kW_24_6, kW_24_7, kW_24_8, kW_24_9, kW_24_10, kW_24_11, kW_24_12, kW_24_14, kW_24_15, kW_24_16, kW_24_17, kW_24_18, kW_24_19, kW_24_21, kW_24_22, kW_24_23, kW_24_25, kW_24_26, kW_24_27, kW_24_28, kW_24_29, kW_24_31, kW_24_32, kW_24_33, kW_24_34, kW_24_36, kW_24_37, kW_24_44, kW_24_49, kW_24_50, kW_24_51, kW_24_52, kI_24, kI_w24, kI_25, kI_w25, kI_26, kI_w26, kI_27, kI_w27, kI_28, kI_w28, kI_29, kI_w29, kI_30, kI_w30, kI_31, kI_w31, kI_32, kI_w32, kI_33, kI_w33, kI_34, kI_w34, kI_35, kI_w35, kI_36, kI_w36, kI_37, kI_w37, kI_38, kI_w38, kI_39, kI_w39, kI_40, kI_w40, kI_41, kI_w41, kI_42, kI_w42, kI_43, kI_w43, kI_44, kI_w44, kI_45, kI_w45, kI_46, kI_w46, kI_47, kI_w47, kI_48, kI_w48, kI_49, kI_w49, kI_50, kI_w50, kI_51, kI_w51, kI_52, kI_w52, kI_53, kI_w53, kI_54, kI_w54, kI_55, kI_w55, kI_56, kI_w56, kI_57, kI_w57, kI_58, kI_w58, kI_59, kI_w59, kI_60, kI_w60, kI_61, kI_w61, c_findW g1 g2 hk, hl, m_isHolding hG.hn h40, hv, ix_in k1, ix_nat k1, show k < 40 by omega, true_or, or_true, false_or, or_false, not_true_eq_false, not_false_eq_true, true_and, and_true, false_and, and_false, and_self, decide_true, decide_false, ↓reduceIte, Bool.true_and, Bool.false_and, Bool.and_true, Bool.and_false, Bool.not_true, Bool.not_false, Bool.false_eq_true, Bool.true_or, Bool.or_true, Bool.false_or, Bool.or_false, reduceCtorEq, Bool.and_self, Bool.or_self, ne_eq]
      simp only [show ((0 : Int32) ≤ -1) = False from eq_false (by decide), ↓reduceIte]
      exact hK _ _ (kJ.mk hG)
  · simp only [vc_X11_may, vc_X12_may, vc_X12_whyNotWhole, mq_tag, mq_len, mq_i, mq_r, mq_l, mq_nx, mq_wi, mq_wr, mq_wl, true_and, and_true, and_false, false_and, and_self, ↓reduceIte, kT_0, kT_1, kT_2, kT_3, kT_4, kT_5, kT_6, kT_7, kT_8, kT_9, kT_10, kT_11, kT_12, kT_13, kT_14, kT_15, kT_16, kT_17, kT_18, kT_19, kT_20, kT_21, kT_22, kT_23, kL_2, kL_3, kL_5, kL_10, kL_11, kL_12, kL_14, kL_15, kL_17, kL_18, kL_19, kL_20, kL_21, kL_22, kL_23, kW_0_0, kW_0_1, kW_0_2, kW_0_3, kW_0_4, kW_0_5, kW_0_6, kW_0_7, kW_1_4, kW_1_5, kW_4_0, kW_4_1, kW_9_0, kW_9_1, kW_9_2, kW_13_0, kW_13_1, kW_16_0, kW_16_1, kW_16_2, kW_16_3, kW_16_4, kW_16_5, kW_1_1, kW_1_2, kW_4_4, kW_8_0, kW_8_1, kW_w1_1, kW_w1_2, kW_w4_4, kW_w8_0, kW_w8_1, kI_0, kI_w0, kI_1, kI_w1, kI_2, kI_w2, kI_3, kI_w3, kI_4, kI_w4, kI_5, kI_w5, kI_6, kI_w6, kI_7, kI_w7, kI_8, kI_w8, kI_9, kI_w9, kI_10, kI_w10, kI_11, kI_w11, kI_12, kI_w12, kI_13, kI_w13, kI_14, kI_w14, kI_15, kI_w15, kI_16, kI_w16, kI_17, kI_w17, kI_18, kI_w18, kI_19, kI_w19, kI_20, kI_w20, kI_21, kI_w21, kI_22, kI_w22, kI_23, kI_w23, kT_24, kT_25, kT_26, kT_27, kT_28, kT_29, kT_30, kT_31, kT_32, kT_33, kT_34, kT_35, kT_36, kT_37, kT_38, kT_39, kT_40, kT_41, kT_42, kT_43, kT_44, kT_45, kT_46, kT_47, kT_48, kT_49, kT_50, kT_51, kT_52, kT_53, kT_54, kT_55, kT_56, kT_57, kT_58, kT_59, kT_60, kT_61, kL_25, kL_26, kL_27, kL_28, kL_29, kL_30, kL_31, kL_32, kL_33, kL_34, kL_35, kL_36, kL_37, kL_38, kL_39, kL_40, kL_41, kL_42, kL_43, kL_44, kL_45, kL_46, kL_47, kL_48, kL_49, kL_50, kL_51, kL_52, kL_53, kL_54, kL_55, kL_56, kL_57, kL_58, kL_59, kL_60, kL_61, kW_24_1, kW_24_2, kW_24_3, kW_24_4, kW_24_5, kW_24_6, kW_24_7, kW_24_8, kW_24_9, kW_24_10, kW_24_11, kW_24_12, kW_24_14, kW_24_15, kW_24_16, kW_24_17, kW_24_18, kW_24_19, kW_24_21, kW_24_22, kW_24_23, kW_24_25, kW_24_26, kW_24_27, kW_24_28, kW_24_29, kW_24_31, kW_24_32, kW_24_33, kW_24_34, kW_24_36, kW_24_37, kW_24_44, kW_24_49, kW_24_50, kW_24_51, kW_24_52, kI_24, kI_w24, kI_25, kI_w25, kI_26, kI_w26, kI_27, kI_w27, kI_28, kI_w28, kI_29, kI_w29, kI_30, kI_w30, kI_31, kI_w31, kI_32, kI_w32, kI_33, kI_w33, kI_34, kI_w34, kI_35, kI_w35, kI_36, kI_w36, kI_37, kI_w37, kI_38, kI_w38, kI_39, kI_w39, kI_40, kI_w40, kI_41, kI_w41, kI_42, kI_w42, kI_43, kI_w43, kI_44, kI_w44, kI_45, kI_w45, kI_46, kI_w46, kI_47, kI_w47, kI_48, kI_w48, kI_49, kI_w49, kI_50, kI_w50, kI_51, kI_w51, kI_52, kI_w52, kI_53, kI_w53, kI_54, kI_w54, kI_55, kI_w55, kI_56, kI_w56, kI_57, kI_w57, kI_58, kI_w58, kI_59, kI_w59, kI_60, kI_w60, kI_61, kI_w61, c_findW_no g1 g2 hv, m_isHolding hG.hn h40, hv, true_or, or_true, false_or, or_false, not_true_eq_false, not_false_eq_true, true_and, and_true, false_and, and_false, and_self, decide_true, decide_false, ↓reduceIte, Bool.true_and, Bool.false_and, Bool.and_true, Bool.and_false, Bool.not_true, Bool.not_false, Bool.false_eq_true, Bool.true_or, Bool.or_true, Bool.false_or, Bool.or_false, reduceCtorEq, Bool.and_self, Bool.or_self, ne_eq]
    simp only [show ((0 : Int32) ≤ -1) = False from eq_false (by decide), ↓reduceIte]
    exact hK _ _ (kJ.mk hG)
theorem T_more (h : kJ B M) (a b : Int32) (hK : ∀ v M', kJ B M' → K v v M') : vc_X11_more B a b M (fun v M1 => mj_tag M1 (B + 24) = 13 ∧ vc_X12_more (B + 24) a b M1 (fun v' M2 => K v v' M2)) := by
  obtain ⟨A, AA, AT, AN, N, t, l, u, i, c, s, r, q, g, w, x, rfl, hG⟩ := h
  obtain ⟨g1, g2, g3, g4, g5, g6, g7, g8, g9, g10⟩ := id hG
  have h40 := hG.n40
  by_cases hv : 0 ≤ a ∧ a < nI (N 0)
  · obtain ⟨k, hk, rfl⟩ := ix_ofl (by omega) hv.1 hv.2
    have A0 : (A k = 0) = False := g1.H0 hk
    have k1 : k < 2147483648 := by omega
    by_cases hl : s 1 k < 0
    · by_cases hb : 0 ≤ b ∧ b ≤ 1023
      · simp only [vc_X11_more, mq_tag, mq_len, mq_i, mq_r, mq_l, mq_nx, mq_wi, mq_wr, mq_wl, true_and, and_true, and_false, false_and, and_self, ↓reduceIte, kT_0, kT_1, kT_2, kT_3, kT_4, kT_5, kT_6, kT_7, kT_8, kT_9, kT_10, kT_11, kT_12, kT_13, kT_14, kT_15, kT_16, kT_17, kT_18, kT_19, kT_20, kT_21, kT_22, kT_23, kL_2, kL_3, kL_5, kL_10, kL_11, kL_12, kL_14, kL_15, kL_17, kL_18, kL_19, kL_20, kL_21, kL_22, kL_23, kW_0_0, kW_0_1, kW_0_2, kW_0_3, kW_0_4, kW_0_5, kW_0_6, kW_0_7, kW_1_4, kW_1_5, kW_4_0, kW_4_1, kW_9_0, kW_9_1, kW_9_2, kW_13_0, kW_13_1, kW_16_0, kW_16_1, kW_16_2, kW_16_3, kW_16_4, kW_16_5, kW_1_1, kW_1_2, kW_4_4, kW_8_0, kW_8_1, kW_w1_1, kW_w1_2, kW_w4_4, kW_w8_0, kW_w8_1, kI_0, kI_w0, kI_1, kI_w1, kI_2, kI_w2, kI_3, kI_w3, kI_4, kI_w4, kI_5, kI_w5, kI_6, kI_w6, kI_7, kI_w7, kI_8, kI_w8, kI_9, kI_w9, kI_10, kI_w10, kI_11, kI_w11, kI_12, kI_w12, kI_13, kI_w13, kI_14, kI_w14, kI_15, kI_w15, kI_16, kI_w16, kI_17, kI_w17, kI_18, kI_w18, kI_19, kI_w19, kI_20, kI_w20, kI_21, kI_w21, kI_22, kI_w22, kI_23, kI_w23, c_findW g1 g2 hk, hl, A0, c_isPersons, hb, decide_true]
        refine c_joined hG hk fun c' g' h1 h2 => ?_
        have hG' : kG B A AA AT AN N c' s t l i r u x := hG.scr (fun j _ j7 j23 => h1 j j7 j23) (fun _ _ _ _ _ _ => rfl) (fun _ _ _ => rfl)
        have L := fun post => cl_more (q := q) (g := g') (w := w) hG' hk h2 (v := b) (post := post) 1024 0 (-6) 11 (by omega)
        rw [nI_0] at L
        rw [L]
        refine ⟨kT_24, ?_⟩
        simp only [vc_X12_more, vc_X12_whyNotWhole, mq_tag, mq_len, mq_i, mq_r, mq_l, mq_nx, mq_wi, mq_wr, mq_wl, true_and, and_true, and_false, false_and, and_self, ↓reduceIte, kT_24, kT_25, kT_26, kT_27, kT_28, kT_29, kT_30, kT_31, kT_32, kT_33, kT_34, kT_35, kT_36, kT_37, kT_38, kT_39, kT_40, kT_41, kT_42, kT_43, kT_44, kT_45, kT_46, kT_47, kT_48, kT_49, kT_50, kT_51, kT_52, kT_53, kT_54, kT_55, kT_56, kT_57, kT_58, kT_59, kT_60, kT_61, kL_25, kL_26, kL_27, kL_28, kL_29, kL_30, kL_31, kL_32, kL_33, kL_34, kL_35, kL_36, kL_37, kL_38, kL_39, kL_40, kL_41, kL_42, kL_43, kL_44, kL_45, kL_46, kL_47, kL_48, kL_49, kL_50, kL_51, kL_52, kL_53, kL_54, kL_55, kL_56, kL_57, kL_58, kL_59, kL_60, kL_61, kW_24_1, kW_24_2, kW_24_3, kW_24_4, kW_24_5, kW_24_6, kW_24_7, kW_24_8, kW_24_9, kW_24_10, kW_24_11, kW_24_12, kW_24_14, kW_24_15, kW_24_16, kW_24_17, kW_24_18, kW_24_19, kW_24_21, kW_24_22, kW_24_23, kW_24_25, kW_24_26, kW_24_27, kW_24_28, kW_24_29, kW_24_31, kW_24_32, kW_24_33, kW_24_34, kW_24_36, kW_24_37, kW_24_44, kW_24_49, kW_24_50, kW_24_51, kW_24_52, kI_24, kI_w24, kI_25, kI_w25, kI_26, kI_w26, kI_27, kI_w27, kI_28, kI_w28, kI_29, kI_w29, kI_30, kI_w30, kI_31, kI_w31, kI_32, kI_w32, kI_33, kI_w33, kI_34, kI_w34, kI_35, kI_w35, kI_36, kI_w36, kI_37, kI_w37, kI_38, kI_w38, kI_39, kI_w39, kI_40, kI_w40, kI_41, kI_w41, kI_42, kI_w42, kI_43, kI_w43, kI_44, kI_w44, kI_45, kI_w45, kI_46, kI_w46, kI_47, kI_w47, kI_48, kI_w48, kI_49, kI_w49, kI_50, kI_w50, kI_51, kI_w51, kI_52, kI_w52, kI_53, kI_w53, kI_54, kI_w54, kI_55, kI_w55, kI_56, kI_w56, kI_57, kI_w57, kI_58, kI_w58, kI_59, kI_w59, kI_60, kI_w60, kI_61, kI_w61, m_isHolding hG.hn h40, hv, decide_true, and_self, ix_in k1, ix_nat k1, show k < 40 by omega, hl, m_in1023, hb, Int32.le_refl]
        have R := fun post => ml_more (q := q) (g := g') (w := w) (t2 := t) (l2 := l) (u2 := u) (i2 := i) (c' := c') (r2 := r) (x2 := x) hG' hk (v := b) (post := post) 1024 0 (-6) 11 s (by omega) (.inl ⟨rfl, rfl⟩) (rF.refl s)
        rw [nI_0] at R
        exact ⟨1025, R _ fun s' h3 => hK _ _ (kJ.mk (hG'.rf (fun _ _ => rfl) h3))⟩
      · simp only [vc_X11_more, vc_X12_more, vc_X12_whyNotWhole, mq_tag, mq_len, mq_i, mq_r, mq_l, mq_nx, mq_wi, mq_wr, mq_wl, true_and, and_true, and_false, false_and, and_self, ↓reduceIte, kT_0, kT_1, kT_2, kT_3, kT_4, kT_5, kT_6, kT_7, kT_8, kT_9, kT_10, kT_11, kT_12, kT_13, kT_14, kT_15, kT_16, kT_17, kT_18, kT_19, kT_20, kT_21, kT_22, kT_23, kL_2, kL_3, kL_5, kL_10, kL_11, kL_12, kL_14, kL_15, kL_17, kL_18, kL_19, kL_20, kL_21, kL_22, kL_23, kW_0_0, kW_0_1, kW_0_2, kW_0_3, kW_0_4, kW_0_5, kW_0_6, kW_0_7, kW_1_4, kW_1_5, kW_4_0, kW_4_1, kW_9_0, kW_9_1, kW_9_2, kW_13_0, kW_13_1, kW_16_0, kW_16_1, kW_16_2, kW_16_3, kW_16_4, kW_16_5, kW_1_1, kW_1_2, kW_4_4, kW_8_0, kW_8_1, kW_w1_1, kW_w1_2, kW_w4_4, kW_w8_0, kW_w8_1, kI_0, kI_w0, kI_1, kI_w1, kI_2, kI_w2, kI_3, kI_w3, kI_4, kI_w4, kI_5, kI_w5, kI_6, kI_w6, kI_7, kI_w7, kI_8, kI_w8, kI_9, kI_w9, kI_10, kI_w10, kI_11, kI_w11, kI_12, kI_w12, kI_13, kI_w13, kI_14, kI_w14, kI_15, kI_w15, kI_16, kI_w16, kI_17, kI_w17, kI_18, kI_w18, kI_19, kI_w19, kI_20, kI_w20, kI_21, kI_w21, kI_22, kI_w22, kI_23, kI_w23, kT_24, kT_25, kT_26, kT_27, kT_28, kT_29, kT_30, kT_31, kT_32, kT_33, kT_34, kT_35, kT_36, kT_37, kT_38, kT_39, kT_40, kT_41, kT_42, kT_43, kT_44, kT_45, kT_46, kT_47, kT_48, kT_49, kT_50, kT_51, kT_52, kT_53, kT_54, kT_55, kT_56, kT_57, kT_58, kT_59, kT_60, kT_61, kL_25, kL_26, kL_27, kL_28, kL_29, kL_30, kL_31, kL_32, kL_33, kL_34, kL_35, kL_36, kL_37, kL_38, kL_39, kL_40, kL_41, kL_42, kL_43, kL_44, kL_45, kL_46, kL_47, kL_48, kL_49, kL_50, kL_51, kL_52, kL_53, kL_54, kL_55, kL_56, kL_57, kL_58, kL_59, kL_60, kL_61, kW_24_1, kW_24_2, kW_24_3, kW_24_4, kW_24_5, kW_24_6, kW_24_7, kW_24_8, kW_24_9, kW_24_10, kW_24_11, kW_24_12, kW_24_14, kW_24_15, kW_24_16, kW_24_17, kW_24_18, kW_24_19, kW_24_21, kW_24_22, kW_24_23, kW_24_25, kW_24_26, kW_24_27, kW_24_28, kW_24_29, kW_24_31, kW_24_32, kW_24_33, kW_24_34, kW_24_36, kW_24_37, kW_24_44, kW_24_49, kW_24_50, kW_24_51, kW_24_52, kI_24, kI_w24, kI_25, kI_w25, kI_26, kI_w26, kI_27, kI_w27, kI_28, kI_w28, kI_29, kI_w29, kI_30, kI_w30, kI_31, kI_w31, kI_32, kI_w32, kI_33, kI_w33, kI_34, kI_w34, kI_35, kI_w35, kI_36, kI_w36, kI_37, kI_w37, kI_38, kI_w38, kI_39, kI_w39, kI_40, kI_w40, kI_41, kI_w41, kI_42, kI_w42, kI_43, kI_w43, kI_44, kI_w44, kI_45, kI_w45, kI_46, kI_w46, kI_47, kI_w47, kI_48, kI_w48, kI_49, kI_w49, kI_50, kI_w50, kI_51, kI_w51, kI_52, kI_w52, kI_53, kI_w53, kI_54, kI_w54, kI_55, kI_w55, kI_56, kI_w56, kI_57, kI_w57, kI_58, kI_w58, kI_59, kI_w59, kI_60, kI_w60, kI_61, kI_w61, c_findW g1 g2 hk, hl, A0, c_isPersons, hb, m_isHolding hG.hn h40, hv, ix_in k1, ix_nat k1, show k < 40 by omega, m_in1023, true_or, or_true, false_or, or_false, not_true_eq_false, not_false_eq_true, true_and, and_true, false_and, and_false, and_self, decide_true, decide_false, ↓reduceIte, Bool.true_and, Bool.false_and, Bool.and_true, Bool.and_false, Bool.not_true, Bool.not_false, Bool.false_eq_true, Bool.true_or, Bool.or_true, Bool.false_or, Bool.or_false, reduceCtorEq, Bool.and_self, Bool.or_self, ne_eq]
        simp only [show ((0 : Int32) ≤ -2) = False from eq_false (by decide), ↓reduceIte]
        exact hK _ _ (kJ.mk hG)
    · simp only [vc_X11_more, vc_X12_more, vc_X12_whyNotWhole, mq_tag, mq_len, mq_i, mq_r, mq_l, mq_nx, mq_wi, mq_wr, mq_wl, true_and, and_true, and_false, false_and, and_self, ↓reduceIte, kT_0, kT_1, kT_2, kT_3, kT_4, kT_5, kT_6, kT_7, kT_8, kT_9, kT_10, kT_11, kT_12, kT_13, kT_14, kT_15, kT_16, kT_17, kT_18, kT_19, kT_20, kT_21, kT_22, kT_23, kL_2, kL_3, kL_5, kL_10, kL_11, kL_12, kL_14, kL_15, kL_17, kL_18, kL_19, kL_20, kL_21, kL_22, kL_23, kW_0_0, kW_0_1, kW_0_2, kW_0_3, kW_0_4, kW_0_5, kW_0_6, kW_0_7, kW_1_4, kW_1_5, kW_4_0, kW_4_1, kW_9_0, kW_9_1, kW_9_2, kW_13_0, kW_13_1, kW_16_0, kW_16_1, kW_16_2, kW_16_3, kW_16_4, kW_16_5, kW_1_1, kW_1_2, kW_4_4, kW_8_0, kW_8_1, kW_w1_1, kW_w1_2, kW_w4_4, kW_w8_0, kW_w8_1, kI_0, kI_w0, kI_1, kI_w1, kI_2, kI_w2, kI_3, kI_w3, kI_4, kI_w4, kI_5, kI_w5, kI_6, kI_w6, kI_7, kI_w7, kI_8, kI_w8, kI_9, kI_w9, kI_10, kI_w10, kI_11, kI_w11, kI_12, kI_w12, kI_13, kI_w13, kI_14, kI_w14, kI_15, kI_w15, kI_16, kI_w16, kI_17, kI_w17, kI_18, kI_w18, kI_19, kI_w19, kI_20, kI_w20, kI_21, kI_w21, kI_22, kI_w22, kI_23, kI_w23, kT_24, kT_25, kT_26, kT_27, kT_28, kT_29, kT_30, kT_31, kT_32, kT_33, kT_34, kT_35, kT_36, kT_37, kT_38, kT_39, kT_40, kT_41, kT_42, kT_43, kT_44, kT_45, kT_46, kT_47, kT_48, kT_49, kT_50, kT_51, kT_52, kT_53, kT_54, kT_55, kT_56, kT_57, kT_58, kT_59, kT_60, kT_61, kL_25, kL_26, kL_27, kL_28, kL_29, kL_30, kL_31, kL_32, kL_33, kL_34, kL_35, kL_36, kL_37, kL_38, kL_39, kL_40, kL_41, kL_42, kL_43, kL_44, kL_45, kL_46, kL_47, kL_48, kL_49, kL_50, kL_51, kL_52, kL_53, kL_54, kL_55, kL_56, kL_57, kL_58, kL_59, kL_60, kL_61, kW_24_1, kW_24_2, kW_24_3, kW_24_4, kW_24_5, kW_24_6, kW_24_7, kW_24_8, kW_24_9, kW_24_10, kW_24_11, kW_24_12, kW_24_14, kW_24_15, kW_24_16, kW_24_17, kW_24_18, kW_24_19, kW_24_21, kW_24_22, kW_24_23, kW_24_25, kW_24_26, kW_24_27, kW_24_28, kW_24_29, kW_24_31, kW_24_32, kW_24_33, kW_24_34, kW_24_36, kW_24_37, kW_24_44, kW_24_49, kW_24_50, kW_24_51, kW_24_52, kI_24, kI_w24, kI_25, kI_w25, kI_26, kI_w26, kI_27, kI_w27, kI_28, kI_w28, kI_29, kI_w29, kI_30, kI_w30, kI_31, kI_w31, kI_32, kI_w32, kI_33, kI_w33, kI_34, kI_w34, kI_35, kI_w35, kI_36, kI_w36, kI_37, kI_w37, kI_38, kI_w38, kI_39, kI_w39, kI_40, kI_w40, kI_41, kI_w41, kI_42, kI_w42, kI_43, kI_w43, kI_44, kI_w44, kI_45, kI_w45, kI_46, kI_w46, kI_47, kI_w47, kI_48, kI_w48, kI_49, kI_w49, kI_50, kI_w50, kI_51, kI_w51, kI_52, kI_w52, kI_53, kI_w53, kI_54, kI_w54, kI_55, kI_w55, kI_56, kI_w56, kI_57, kI_w57, kI_58, kI_w58, kI_59, kI_w59, kI_60, kI_w60, kI_61, kI_w61, c_findW g1 g2 hk, hl, m_isHolding hG.hn h40, hv, ix_in k1, ix_nat k1, show k < 40 by omega, true_or, or_true, false_or, or_false, not_true_eq_false, not_false_eq_true, true_and, and_true, false_and, and_false, and_self, decide_true, decide_false, ↓reduceIte, Bool.true_and, Bool.false_and, Bool.and_true, Bool.and_false, Bool.not_true, Bool.not_false, Bool.false_eq_true, Bool.true_or, Bool.or_true, Bool.false_or, Bool.or_false, reduceCtorEq, Bool.and_self, Bool.or_self, ne_eq]
      simp only [show ((0 : Int32) ≤ -1) = False from eq_false (by decide), ↓reduceIte]
      exact hK _ _ (kJ.mk hG)
  · simp only [vc_X11_more, vc_X12_more, vc_X12_whyNotWhole, mq_tag, mq_len, mq_i, mq_r, mq_l, mq_nx, mq_wi, mq_wr, mq_wl, true_and, and_true, and_false, false_and, and_self, ↓reduceIte, kT_0, kT_1, kT_2, kT_3, kT_4, kT_5, kT_6, kT_7, kT_8, kT_9, kT_10, kT_11, kT_12, kT_13, kT_14, kT_15, kT_16, kT_17, kT_18, kT_19, kT_20, kT_21, kT_22, kT_23, kL_2, kL_3, kL_5, kL_10, kL_11, kL_12, kL_14, kL_15, kL_17, kL_18, kL_19, kL_20, kL_21, kL_22, kL_23, kW_0_0, kW_0_1, kW_0_2, kW_0_3, kW_0_4, kW_0_5, kW_0_6, kW_0_7, kW_1_4, kW_1_5, kW_4_0, kW_4_1, kW_9_0, kW_9_1, kW_9_2, kW_13_0, kW_13_1, kW_16_0, kW_16_1, kW_16_2, kW_16_3, kW_16_4, kW_16_5, kW_1_1, kW_1_2, kW_4_4, kW_8_0, kW_8_1, kW_w1_1, kW_w1_2, kW_w4_4, kW_w8_0, kW_w8_1, kI_0, kI_w0, kI_1, kI_w1, kI_2, kI_w2, kI_3, kI_w3, kI_4, kI_w4, kI_5, kI_w5, kI_6, kI_w6, kI_7, kI_w7, kI_8, kI_w8, kI_9, kI_w9, kI_10, kI_w10, kI_11, kI_w11, kI_12, kI_w12, kI_13, kI_w13, kI_14, kI_w14, kI_15, kI_w15, kI_16, kI_w16, kI_17, kI_w17, kI_18, kI_w18, kI_19, kI_w19, kI_20, kI_w20, kI_21, kI_w21, kI_22, kI_w22, kI_23, kI_w23, kT_24, kT_25, kT_26, kT_27, kT_28, kT_29, kT_30, kT_31, kT_32, kT_33, kT_34, kT_35, kT_36, kT_37, kT_38, kT_39, kT_40, kT_41, kT_42, kT_43, kT_44, kT_45, kT_46, kT_47, kT_48, kT_49, kT_50, kT_51, kT_52, kT_53, kT_54, kT_55, kT_56, kT_57, kT_58, kT_59, kT_60, kT_61, kL_25, kL_26, kL_27, kL_28, kL_29, kL_30, kL_31, kL_32, kL_33, kL_34, kL_35, kL_36, kL_37, kL_38, kL_39, kL_40, kL_41, kL_42, kL_43, kL_44, kL_45, kL_46, kL_47, kL_48, kL_49, kL_50, kL_51, kL_52, kL_53, kL_54, kL_55, kL_56, kL_57, kL_58, kL_59, kL_60, kL_61, kW_24_1, kW_24_2, kW_24_3, kW_24_4, kW_24_5, kW_24_6, kW_24_7, kW_24_8, kW_24_9, kW_24_10, kW_24_11, kW_24_12, kW_24_14, kW_24_15, kW_24_16, kW_24_17, kW_24_18, kW_24_19, kW_24_21, kW_24_22, kW_24_23, kW_24_25, kW_24_26, kW_24_27, kW_24_28, kW_24_29, kW_24_31, kW_24_32, kW_24_33, kW_24_34, kW_24_36, kW_24_37, kW_24_44, kW_24_49, kW_24_50, kW_24_51, kW_24_52, kI_24, kI_w24, kI_25, kI_w25, kI_26, kI_w26, kI_27, kI_w27, kI_28, kI_w28, kI_29, kI_w29, kI_30, kI_w30, kI_31, kI_w31, kI_32, kI_w32, kI_33, kI_w33, kI_34, kI_w34, kI_35, kI_w35, kI_36, kI_w36, kI_37, kI_w37, kI_38, kI_w38, kI_39, kI_w39, kI_40, kI_w40, kI_41, kI_w41, kI_42, kI_w42, kI_43, kI_w43, kI_44, kI_w44, kI_45, kI_w45, kI_46, kI_w46, kI_47, kI_w47, kI_48, kI_w48, kI_49, kI_w49, kI_50, kI_w50, kI_51, kI_w51, kI_52, kI_w52, kI_53, kI_w53, kI_54, kI_w54, kI_55, kI_w55, kI_56, kI_w56, kI_57, kI_w57, kI_58, kI_w58, kI_59, kI_w59, kI_60, kI_w60, kI_61, kI_w61, c_findW_no g1 g2 hv, m_isHolding hG.hn h40, hv, true_or, or_true, false_or, or_false, not_true_eq_false, not_false_eq_true, true_and, and_true, false_and, and_false, and_self, decide_true, decide_false, ↓reduceIte, Bool.true_and, Bool.false_and, Bool.and_true, Bool.and_false, Bool.not_true, Bool.not_false, Bool.false_eq_true, Bool.true_or, Bool.or_true, Bool.false_or, Bool.or_false, reduceCtorEq, Bool.and_self, Bool.or_self, ne_eq]
    simp only [show ((0 : Int32) ≤ -1) = False from eq_false (by decide), ↓reduceIte]
    exact hK _ _ (kJ.mk hG)
end

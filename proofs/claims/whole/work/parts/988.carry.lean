/-! STAGE B: carry -/
theorem kxCl_o {d : Int32} : ∀ (f k : Nat) (s : Nat → Nat → Int32) {j : Nat}, j ≠ 5 → j ≠ 6 → kxCl d f k s j = s j
  | 0, _, _, _, _, _ => rfl
  | f + 1, k, s, j, h5, h6 => by
    unfold kxCl
    split
    · rfl
    · rw [kxCl_o f _ _ h5 h6, mj_u2_ne _ h5, mj_u2_ne _ h6]
theorem imn_le {a b : Int32} : imn a b ≤ a := by
  unfold imn
  split
  · rename_i h; exact Int32.le_of_lt h
  · exact Int32.le_refl _
section
variable {B : Nat} {A AA AT AN N t l u : Nat → Nat} {i c s : Nat → Nat → Int32} {r : Nat → Nat → Nat} {q g w : Nat → Nat → Int64} {x : Nat}
theorem c_longer (hG : kG B A AA AT AN N c s t l i r u x) {hg ko : Nat} (hgn : hg < N 0) {rk : Nat → Nat} (R : ∀ h, h < N 0 → rk h < N 0 ∧ ∀ k, k < N 0 → s 1 h = nI k → rk k < rk h) {post : Unit → mj_M → Prop} (hp : ∀ i', kCD B A AA AT AN (N 0) (N 1) (N 2) (mj_u2 (kxLr (imn 73000 (s 4 hg + 32850)) (N 0) hg s) 9 hg 0) t l i' r x → post () (kT B t, kL B l, kI B i' c s, kW B r u, kI B q g w, x)) : vc_X4_lengthen (B + 1) (A hg) (kT B t, kL B l, kI B i c s, kW B r u, kI B q g w, x) post := by
  have g1 := hG.1
  simp only [vc_X4_lengthen, vc_X4_lengthened, mq_tag, mq_len, mq_i, mq_r, mq_l, mq_nx, mq_wi, mq_wr, mq_wl, true_and, and_true, and_false, false_and, and_self, ↓reduceIte, kT_0, kT_1, kT_2, kT_3, kT_4, kT_5, kT_6, kT_7, kT_8, kT_9, kT_10, kT_11, kT_12, kT_13, kT_14, kT_15, kT_16, kT_17, kT_18, kT_19, kT_20, kT_21, kT_22, kT_23, kL_2, kL_3, kL_5, kL_10, kL_11, kL_12, kL_14, kL_15, kL_17, kL_18, kL_19, kL_20, kL_21, kL_22, kL_23, kW_0_0, kW_0_1, kW_0_2, kW_0_3, kW_0_4, kW_0_5, kW_0_6, kW_0_7, kW_1_4, kW_1_5, kW_4_0, kW_4_1, kW_9_0, kW_9_1, kW_9_2, kW_13_0, kW_13_1, kW_16_0, kW_16_1, kW_16_2, kW_16_3, kW_16_4, kW_16_5, kW_1_1, kW_1_2, kW_4_4, kW_8_0, kW_8_1, kW_w1_1, kW_w1_2, kW_w4_4, kW_w8_0, kW_w8_1, kI_0, kI_w0, kI_1, kI_w1, kI_2, kI_w2, kI_3, kI_w3, kI_4, kI_w4, kI_5, kI_w5, kI_6, kI_w6, kI_7, kI_w7, kI_8, kI_w8, kI_9, kI_w9, kI_10, kI_w10, kI_11, kI_w11, kI_12, kI_w12, kI_13, kI_w13, kI_14, kI_w14, kI_15, kI_w15, kI_16, kI_w16, kI_17, kI_w17, kI_18, kI_w18, kI_19, kI_w19, kI_20, kI_w20, kI_21, kI_w21, kI_22, kI_w22, kI_23, kI_w23, g1.atT hgn, g1.atI hgn, e_min]
  exact cl_lng hgn (N 0) hg s i g1 R hgn (R hg hgn).1 fun i' H => hp _ (H.wi hgn (j := 9) (by decide) 0)
theorem c_canLonger (hG : kG B A AA AT AN N c s t l i r u x) {hg : Nat} (hgn : hg < N 0) {rk : Nat → Nat} (R : ∀ h, h < N 0 → rk h < N 0 ∧ ∀ k, k < N 0 → s 1 h = nI k → rk k < rk h) {post : Bool → mj_M → Prop} : vc_X4_canLengthen (B + 1) (A hg) (kT B t, kL B l, kI B i c s, kW B r u, kI B q g w, x) post = post (kxLo s (N 0) (imn 73000 (s 4 hg + 32850)) (N 0) hg) (kT B t, kL B l, kI B i c s, kW B r u, kI B q g w, x) := by
  have g1 := hG.1
  simp only [vc_X4_canLengthen, vc_X4_lengthened, mq_tag, mq_len, mq_i, mq_r, mq_l, mq_nx, mq_wi, mq_wr, mq_wl, true_and, and_true, and_false, false_and, and_self, ↓reduceIte, kT_0, kT_1, kT_2, kT_3, kT_4, kT_5, kT_6, kT_7, kT_8, kT_9, kT_10, kT_11, kT_12, kT_13, kT_14, kT_15, kT_16, kT_17, kT_18, kT_19, kT_20, kT_21, kT_22, kT_23, kL_2, kL_3, kL_5, kL_10, kL_11, kL_12, kL_14, kL_15, kL_17, kL_18, kL_19, kL_20, kL_21, kL_22, kL_23, kW_0_0, kW_0_1, kW_0_2, kW_0_3, kW_0_4, kW_0_5, kW_0_6, kW_0_7, kW_1_4, kW_1_5, kW_4_0, kW_4_1, kW_9_0, kW_9_1, kW_9_2, kW_13_0, kW_13_1, kW_16_0, kW_16_1, kW_16_2, kW_16_3, kW_16_4, kW_16_5, kW_1_1, kW_1_2, kW_4_4, kW_8_0, kW_8_1, kW_w1_1, kW_w1_2, kW_w4_4, kW_w8_0, kW_w8_1, kI_0, kI_w0, kI_1, kI_w1, kI_2, kI_w2, kI_3, kI_w3, kI_4, kI_w4, kI_5, kI_w5, kI_6, kI_w6, kI_7, kI_w7, kI_8, kI_w8, kI_9, kI_w9, kI_10, kI_w10, kI_11, kI_w11, kI_12, kI_w12, kI_13, kI_w13, kI_14, kI_w14, kI_15, kI_w15, kI_16, kI_w16, kI_17, kI_w17, kI_18, kI_w18, kI_19, kI_w19, kI_20, kI_w20, kI_21, kI_w21, kI_22, kI_w22, kI_23, kI_w23, g1.atT hgn, g1.atI hgn, e_min, cl_clen g1 hG.2.1 R (N 0) hg hgn (R hg hgn).1]
theorem m_longer (hG : kG B A AA AT AN N c s t l i r u x) {hg : Nat} (hgn : hg < N 0) (hon : kon s hg (s 0 0) = true) {rk : Nat → Nat} (R : ∀ h, h < N 0 → rk h < N 0 ∧ ∀ k, k < N 0 → s 1 h = nI k → rk k < rk h) {t2 l2 u2 : Nat → Nat} {i2 c2 : Nat → Nat → Int32} {r2 : Nat → Nat → Nat} {x2 : Nat} {post : Bool → mj_M → Prop} : vc_X12_longer (B + 24) (nI hg) (kT B t2, kL B l2, kI B i2 c2 s, kW B r2 u2, kI B q g w, x2) post = if kxLo s (N 0) (imn 73000 (s 4 hg + 32850)) (N 0) hg = true then post true (kT B t2, kL B l2, kI B i2 c2 (mj_u2 (kxLr (imn 73000 (s 4 hg + 32850)) (N 0) hg s) 9 hg 0), kW B r2 u2, kI B q g w, x2) else post false (kT B t2, kL B l2, kI B i2 c2 s, kW B r2 u2, kI B q g w, x2) := by
  have h40 := hG.n40
  have g8 := hG.2.2.2.2.2.2.2.1
  have h1 : hg < 2147483648 := by omega
  have CL := fun post => ml_clen (B := B) (t := t2) (l := l2) (u := u2) (i := i2) (c := c2) (r := r2) (q := q) (g := g) (w := w) (x := x2) g8 hG.hn h40 R (th := imn 73000 (s 4 hg + 32850)) (post := post) (N 0) hg true hgn (R hg hgn).1 hon
  have LL := fun post => ml_lng (B := B) (t := t2) (l := l2) (u := u2) (i := i2) (c := c2) (r := r2) (q := q) (g := g) (w := w) (x := x2) h40 (th := imn 73000 (s 4 hg + 32850)) hgn (Q := fun y => kon s y (s 0 0) = true) (post := post) (N 0) hg s (fun h hh => hG.out hh) R (fun h k hh hk qh z => g8.onup hh hk z qh) hgn (R hg hgn).1 hon
  simp only [vc_X12_longer, vc_X12_canLonger, mq_tag, mq_len, mq_i, mq_r, mq_l, mq_nx, mq_wi, mq_wr, mq_wl, true_and, and_true, and_false, false_and, and_self, ↓reduceIte, kT_24, kT_25, kT_26, kT_27, kT_28, kT_29, kT_30, kT_31, kT_32, kT_33, kT_34, kT_35, kT_36, kT_37, kT_38, kT_39, kT_40, kT_41, kT_42, kT_43, kT_44, kT_45, kT_46, kT_47, kT_48, kT_49, kT_50, kT_51, kT_52, kT_53, kT_54, kT_55, kT_56, kT_57, kT_58, kT_59, kT_60, kT_61, kL_25, kL_26, kL_27, kL_28, kL_29, kL_30, kL_31, kL_32, kL_33, kL_34, kL_35, kL_36, kL_37, kL_38, kL_39, kL_40, kL_41, kL_42, kL_43, kL_44, kL_45, kL_46, kL_47, kL_48, kL_49, kL_50, kL_51, kL_52, kL_53, kL_54, kL_55, kL_56, kL_57, kL_58, kL_59, kL_60, kL_61, kW_24_1, kW_24_2, kW_24_3, kW_24_4, kW_24_5, kW_24_6, kW_24_7, kW_24_8, kW_24_9, kW_24_10, kW_24_11, kW_24_12, kW_24_14, kW_24_15, kW_24_16, kW_24_17, kW_24_18, kW_24_19, kW_24_21, kW_24_22, kW_24_23, kW_24_25, kW_24_26, kW_24_27, kW_24_28, kW_24_29, kW_24_31, kW_24_32, kW_24_33, kW_24_34, kW_24_36, kW_24_37, kW_24_44, kW_24_49, kW_24_50, kW_24_51, kW_24_52, kI_24, kI_w24, kI_25, kI_w25, kI_26, kI_w26, kI_27, kI_w27, kI_28, kI_w28, kI_29, kI_w29, kI_30, kI_w30, kI_31, kI_w31, kI_32, kI_w32, kI_33, kI_w33, kI_34, kI_w34, kI_35, kI_w35, kI_36, kI_w36, kI_37, kI_w37, kI_38, kI_w38, kI_39, kI_w39, kI_40, kI_w40, kI_41, kI_w41, kI_42, kI_w42, kI_43, kI_w43, kI_44, kI_w44, kI_45, kI_w45, kI_46, kI_w46, kI_47, kI_w47, kI_48, kI_w48, kI_49, kI_w49, kI_50, kI_w50, kI_51, kI_w51, kI_52, kI_w52, kI_53, kI_w53, kI_54, kI_w54, kI_55, kI_w55, kI_56, kI_w56, kI_57, kI_w57, kI_58, kI_w58, kI_59, kI_w59, kI_60, kI_w60, kI_61, kI_w61, ix_in h1, ix_nat h1, show hg < 40 by omega, m_lesser, CL, LL, Bool.true_and]
theorem lng_kG (hG : kG B A AA AT AN N c s t l i r u x) {hg ko : Nat} (hgn : hg < N 0) (hko : ko < N 0) (ho : s 1 hg = nI ko) (hon : kon s hg (s 0 0) = true) {rk : Nat → Nat} (R : ∀ h, h < N 0 → rk h < N 0 ∧ ∀ k, k < N 0 → s 1 h = nI k → rk k < rk h) {th : Int32} (hth : th ≤ 73000) {i' : Nat → Nat → Int32} (H : kCD B A AA AT AN (N 0) (N 1) (N 2) (mj_u2 (kxLr th (N 0) hg s) 9 hg 0) t l i' r x) : kG B A AA AT AN N c (mj_u2 (kxLr th (N 0) hg s) 9 hg 0) t l i' r u x := by
  obtain ⟨g1, g2, g3, g4, g5, g6, g7, g8, g9, g10⟩ := id hG
  have h40 := hG.n40
  have o : ∀ j, j ≠ 4 → j ≠ 9 → mj_u2 (kxLr th (N 0) hg s) 9 hg 0 j = s j := fun j h4 h9 => by rw [mj_u2_ne _ h9, kxLr_o _ _ _ h4]
  refine ⟨H, g2, g3.to ?_ ?_ ?_ ?_ ?_ ?_ ?_ ?_, g4.to ?_ ?_ ?_ ?_ ?_ ?_ ?_ ?_, g5.to ?_ ?_ ?_ ?_ ?_ ?_ ?_ ?_ ?_ ?_, g6.to ?_ ?_ ?_ ?_ ?_ ?_, g7.to ?_ ?_ ?_ ?_ ?_ ?_ ?_ ?_ ?_ ?_ ?_ ?_ ?_, ?c8, g9.to ?_ ?_, g10.to ?_ ?_⟩
  case c8 =>
    refine g8.lng (C := fun y => kCn s (N 0) hg y) h40 (by rw [o 0 (by decide) (by decide)]) (fun j a b h4 h9 => o j h4 h9) (fun y => ?_) (fun y hy => ?_) hth (fun y hy hc => ?_)
    · rw [mj_u2_ne _ (by decide)]
      exact kxLr_4 h40 (N 0) hg s hgn (fun h hh => hG.out hh) R y
    · by_cases e : y = hg
      · rw [e, mq_u2s]; decide
      · rw [mq_u2k e, kxLr_o _ _ _ (by decide)]; exact (hG.R1 hy).2.2.2.2.2.2.2.1
    · obtain ⟨c1, c2, c3⟩ := kCn_r h40 (fun h hh => hG.out hh) R (N 0) hg y hgn hc
      have qy := kCn_q h40 (fun h hh => hG.out hh) (Q := fun y => kon s y (s 0 0) = true) (fun h k hh hk qh z => (g8.onup hh hk z qh).2) (N 0) hg y hgn hon hc
      rcases hG.out hy with z | ⟨p, hp, z⟩
      · rw [z] at c3; exact absurd c3 (by decide)
      · obtain ⟨v1, v2, v3, v4, _⟩ := g8.up hy hp z qy
        refine ⟨v1, p, hp, z, v4, ?_⟩
        rcases hG.out hp with w | ⟨p2, hp2, w⟩
        · exact .inr w
        · left
          exact kCn_up h40 (fun h hh => hG.out hh) R (N 0) hg y p hgn hp (R hg hgn).1 hc z (by rw [w]; exact nI_pos' (by omega))
  all_goals first
    | (rw [o _ (by decide) (by decide)]; done) | (exact o _ (by decide) (by decide)) | (intros; rw [o _ (by decide) (by decide)]; done)
    | (intros; rw [o 17 (by decide) (by decide), o 18 (by decide) (by decide), o 19 (by decide) (by decide)]; exact ⟨rfl, rfl, rfl⟩)
    | (intro j j1 j2; rw [o j (by omega) (by omega)]; done)
    | (intro h _; rw [o 1 (by decide) (by decide)]; exact id)
    | rfl
end

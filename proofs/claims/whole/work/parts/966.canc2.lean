/-! STAGE B: whether a set of lines can be, the class's way (2) -/
section
variable {B x p : Nat} {t l u : Nat → Nat} {i c s : Nat → Nat → Int32} {r : Nat → Nat → Nat} {q g w : Nat → Nat → Int64}
theorem cl_canBe (g7 : kC5 c s p) {mask : Int32} {S : Nat → Bool} (hm : kMk mask S) (hS : ∀ j, S j = true → j < p) {post : Bool → mj_M → Prop} : ∀ (m k : Nat), k + m = p → post (!kAny (fun k => S k && kAny (fun j => S j && rCl s k j) p 0) m k && !kAny (rRest s p p S) p 0) (kT B t, kL B l, kI B i c s, kW B r u, kI B q g w, x) → ∃ fe, vb_X9_canBe_2 post fe (B + 16) mask (nI k) (kT B t, kL B l, kI B i c s, kW B r u, kI B q g w, x)
  | 0, k, hk, hp => by
    have kp : k = p := by omega
    subst kp
    refine ex_imp ⟨0, ?_⟩
    simp only [vb_X9_canBe_2, vc_X9_hasRing, mq_tag, mq_len, mq_i, mq_r, mq_l, mq_nx, mq_wi, mq_wr, mq_wl, true_and, and_true, and_false, false_and, and_self, ↓reduceIte, kT_0, kT_1, kT_2, kT_3, kT_4, kT_5, kT_6, kT_7, kT_8, kT_9, kT_10, kT_11, kT_12, kT_13, kT_14, kT_15, kT_16, kT_17, kT_18, kT_19, kT_20, kT_21, kT_22, kT_23, kL_2, kL_3, kL_5, kL_10, kL_11, kL_12, kL_14, kL_15, kL_17, kL_18, kL_19, kL_20, kL_21, kL_22, kL_23, kW_0_0, kW_0_1, kW_0_2, kW_0_3, kW_0_4, kW_0_5, kW_0_6, kW_0_7, kW_1_4, kW_1_5, kW_4_0, kW_4_1, kW_9_0, kW_9_1, kW_9_2, kW_13_0, kW_13_1, kW_16_0, kW_16_1, kW_16_2, kW_16_3, kW_16_4, kW_16_5, kW_1_1, kW_1_2, kW_4_4, kW_8_0, kW_8_1, kW_w1_1, kW_w1_2, kW_w4_4, kW_w8_0, kW_w8_1, kI_0, kI_w0, kI_1, kI_w1, kI_2, kI_w2, kI_3, kI_w3, kI_4, kI_w4, kI_5, kI_w5, kI_6, kI_w6, kI_7, kI_w7, kI_8, kI_w8, kI_9, kI_w9, kI_10, kI_w10, kI_11, kI_w11, kI_12, kI_w12, kI_13, kI_w13, kI_14, kI_w14, kI_15, kI_w15, kI_16, kI_w16, kI_17, kI_w17, kI_18, kI_w18, kI_19, kI_w19, kI_20, kI_w20, kI_21, kI_w21, kI_22, kI_w22, kI_23, kI_w23, g7.2.1, Int32.le_refl]
    have R := cl_ring (B := B) (t := t) (l := l) (u := u) (i := i) (r := r) (q := q) (g := g) (w := w) (x := x) g7 (post := fun r3 M4 => if r3 = true then post false M4 else post true M4) k 0 mask S (by omega) hm hS (by
      rcases Bool.eq_false_or_eq_true (kAny (rRest s k k S) k 0) with y | y <;> rw [y] at hp ⊢
      · rw [if_pos rfl]; simpa [kAny] using hp
      · rw [if_neg (by decide)]; simpa [kAny] using hp)
    rw [nI_0] at R
    exact ⟨k + 1, R⟩
  | m + 1, k, hk, hp => by
    obtain ⟨p12, q1, q2, q3, q4, q5, q6⟩ := id g7
    have k1 : k < 2147483648 := by omega
    have I := cl_canBe g7 hm hS (post := post) m (k + 1) (by omega)
    have z21 := kMk_z ((kMk_p p12).mp (q4 k (by omega))) hm
    have e21 : kAny (fun j => (decide (j < p) && (decide (k < p) && rCl s k j)) && S j) 12 0 = kAny (fun j => S j && rCl s k j) p 0 := by
      rw [← kAny_12 p12]
      congr 1; funext j
      have : decide (k < p) = true := decide_eq_true (by omega)
      rw [this, Bool.true_and, Bool.and_assoc, Bool.and_comm (rCl s k j)]
    rw [e21] at z21
    have ek : kAny (fun k => S k && kAny (fun j => S j && rCl s k j) p 0) (m + 1) k = ((S k && kAny (fun j => S j && rCl s k j) p 0) || kAny (fun k => S k && kAny (fun j => S j && rCl s k j) p 0) m (k + 1)) := rfl
    rw [ek] at hp
    rw [ex_succ rfl]
    simp only [vb_X9_canBe_2, mq_tag, mq_len, mq_i, mq_r, mq_l, mq_nx, mq_wi, mq_wr, mq_wl, true_and, and_true, and_false, false_and, and_self, ↓reduceIte, kT_0, kT_1, kT_2, kT_3, kT_4, kT_5, kT_6, kT_7, kT_8, kT_9, kT_10, kT_11, kT_12, kT_13, kT_14, kT_15, kT_16, kT_17, kT_18, kT_19, kT_20, kT_21, kT_22, kT_23, kL_2, kL_3, kL_5, kL_10, kL_11, kL_12, kL_14, kL_15, kL_17, kL_18, kL_19, kL_20, kL_21, kL_22, kL_23, kW_0_0, kW_0_1, kW_0_2, kW_0_3, kW_0_4, kW_0_5, kW_0_6, kW_0_7, kW_1_4, kW_1_5, kW_4_0, kW_4_1, kW_9_0, kW_9_1, kW_9_2, kW_13_0, kW_13_1, kW_16_0, kW_16_1, kW_16_2, kW_16_3, kW_16_4, kW_16_5, kW_1_1, kW_1_2, kW_4_4, kW_8_0, kW_8_1, kW_w1_1, kW_w1_2, kW_w4_4, kW_w8_0, kW_w8_1, kI_0, kI_w0, kI_1, kI_w1, kI_2, kI_w2, kI_3, kI_w3, kI_4, kI_w4, kI_5, kI_w5, kI_6, kI_w6, kI_7, kI_w7, kI_8, kI_w8, kI_9, kI_w9, kI_10, kI_w10, kI_11, kI_w11, kI_12, kI_w12, kI_13, kI_w13, kI_14, kI_w14, kI_15, kI_w15, kI_16, kI_w16, kI_17, kI_w17, kI_18, kI_w18, kI_19, kI_w19, kI_20, kI_w20, kI_21, kI_w21, kI_22, kI_w22, kI_23, kI_w23, q1, ix_le (show p < 2147483648 by omega) k1, show ¬ p ≤ k by omega, kMk_b hm (show k < 12 by omega), ix_in k1, ix_nat k1, show k < 12 by omega, z21, nI_1, ex_ite, exists_and_left, exists_const, exists_and_right]
    rcases Bool.eq_false_or_eq_true (S k) with z1 | z1
    · rcases Bool.eq_false_or_eq_true (kAny (fun j => S j && rCl s k j) p 0) with z2 | z2
      · simp only [z1, z2, Bool.true_eq_false, ↓reduceIte, Bool.and_self, Bool.true_or, Bool.not_true, Bool.false_and] at hp ⊢
        exact hp
      · simp only [z1, z2, ↓reduceIte, Bool.and_false, Bool.false_or] at hp ⊢
        exact I hp
    · simp only [z1, Bool.false_eq_true, ↓reduceIte, Bool.false_and, Bool.false_or] at hp ⊢
      exact I hp
theorem c_canBe (g7 : kC5 c s p) {mask : Int32} {S : Nat → Bool} (hm : kMk mask S) (hS : ∀ j, S j = true → j < p) {post : Bool → mj_M → Prop} (hp : post (rCan s p S) (kT B t, kL B l, kI B i c s, kW B r u, kI B q g w, x)) : vc_X9_canBe (B + 16) mask (kT B t, kL B l, kI B i c s, kW B r u, kI B q g w, x) post := by
  have R := cl_canBe (B := B) (t := t) (l := l) (u := u) (i := i) (r := r) (q := q) (g := g) (w := w) (x := x) g7 hm hS (post := post) p 0 (by omega) hp
  rw [nI_0] at R
  simp only [vc_X9_canBe]; exact R
end

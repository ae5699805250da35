/-! STAGE B: whether a set of lines can be, the class's way -/
theorem kAny_12 {F : Nat → Bool} {p : Nat} (hp : p ≤ 12) : kAny (fun j => decide (j < p) && F j) 12 0 = kAny F p 0 := by
  rw [Bool.eq_iff_iff, kAny_iff, kAny_iff]
  constructor
  · rintro ⟨h, h1, h2, h3⟩
    simp only [Bool.and_eq_true, decide_eq_true_eq] at h3
    exact ⟨h, h1, by omega, h3.2⟩
  · rintro ⟨h, h1, h2, h3⟩
    exact ⟨h, h1, by omega, by simp only [Bool.and_eq_true, decide_eq_true_eq]; exact ⟨by omega, h3⟩⟩
theorem rRest_0 {s : Nat → Nat → Int32} {p : Nat} : ∀ (f : Nat) (S : Nat → Bool), (∀ j, S j = false) → ∀ j, rRest s p f S j = false
  | 0, _, h => h
  | f + 1, S, h => rRest_0 f (rKeep s p S) fun j => by unfold rKeep; rw [h j]; simp
section
variable {B x p : Nat} {t l u : Nat → Nat} {i c s : Nat → Nat → Int32} {r : Nat → Nat → Nat} {q g w : Nat → Nat → Int64}
theorem cl_ri (g7 : kC5 c s p) {mask : Int32} {S : Nat → Bool} (hm : kMk mask S) {st : Int32} {K : Nat → Int32 → Int32 → mj_M → Prop} {post : Bool → mj_M → Prop} : ∀ (m k : Nat) (acc : Int32), k + m = p → kMk acc (fun i => decide (i < k) && rKeep s p S i) → (∀ acc', kMk acc' (rKeep s p S) → K (B + 16) acc' (st + 1) (kT B t, kL B l, kI B i c s, kW B r u, kI B q g w, x)) → ∃ fe, vb_X9_hasRing_22 K post fe (B + 16) mask st acc (nI k) (kT B t, kL B l, kI B i c s, kW B r u, kI B q g w, x)
  | 0, k, acc, hk, ha, hK => by
    have p12 := g7.1
    have kp : k = p := by omega
    subst kp
    refine ex_imp ⟨0, ?_⟩
    simp only [vb_X9_hasRing_22, mq_tag, mq_len, mq_i, mq_r, mq_l, mq_nx, mq_wi, mq_wr, mq_wl, true_and, and_true, and_false, false_and, and_self, ↓reduceIte, kT_0, kT_1, kT_2, kT_3, kT_4, kT_5, kT_6, kT_7, kT_8, kT_9, kT_10, kT_11, kT_12, kT_13, kT_14, kT_15, kT_16, kT_17, kT_18, kT_19, kT_20, kT_21, kT_22, kT_23, kL_2, kL_3, kL_5, kL_10, kL_11, kL_12, kL_14, kL_15, kL_17, kL_18, kL_19, kL_20, kL_21, kL_22, kL_23, kW_0_0, kW_0_1, kW_0_2, kW_0_3, kW_0_4, kW_0_5, kW_0_6, kW_0_7, kW_1_4, kW_1_5, kW_4_0, kW_4_1, kW_9_0, kW_9_1, kW_9_2, kW_13_0, kW_13_1, kW_16_0, kW_16_1, kW_16_2, kW_16_3, kW_16_4, kW_16_5, kW_1_1, kW_1_2, kW_4_4, kW_8_0, kW_8_1, kW_w1_1, kW_w1_2, kW_w4_4, kW_w8_0, kW_w8_1, kI_0, kI_w0, kI_1, kI_w1, kI_2, kI_w2, kI_3, kI_w3, kI_4, kI_w4, kI_5, kI_w5, kI_6, kI_w6, kI_7, kI_w7, kI_8, kI_w8, kI_9, kI_w9, kI_10, kI_w10, kI_11, kI_w11, kI_12, kI_w12, kI_13, kI_w13, kI_14, kI_w14, kI_15, kI_w15, kI_16, kI_w16, kI_17, kI_w17, kI_18, kI_w18, kI_19, kI_w19, kI_20, kI_w20, kI_21, kI_w21, kI_22, kI_w22, kI_23, kI_w23, g7.2.1, Int32.le_refl]
    refine hK acc (ha.to fun i _ => ?_)
    unfold rKeep
    by_cases z : i < k <;> simp [z]
  | m + 1, k, acc, hk, ha, hK => by
    obtain ⟨p12, q1, q2, q3, q4, q5, q6⟩ := id g7
    have k1 : k < 2147483648 := by omega
    have I := fun acc ha => cl_ri g7 hm (st := st) (K := K) (post := post) m (k + 1) acc (by omega) ha hK
    have z22 := kMk_z ((kMk_p p12).mp (q5 k (by omega))) hm
    have e22 : kAny (fun j => (decide (j < p) && (decide (k < p) && rUp s k j)) && S j) 12 0 = kAny (fun j => S j && rUp s k j) p 0 := by
      rw [← kAny_12 p12]
      congr 1; funext j
      have : decide (k < p) = true := decide_eq_true (by omega)
      rw [this, Bool.true_and, Bool.and_assoc, Bool.and_comm (rUp s k j)]
    rw [e22] at z22
    rw [ex_succ rfl]
    simp only [vb_X9_hasRing_22, mq_tag, mq_len, mq_i, mq_r, mq_l, mq_nx, mq_wi, mq_wr, mq_wl, true_and, and_true, and_false, false_and, and_self, ↓reduceIte, kT_0, kT_1, kT_2, kT_3, kT_4, kT_5, kT_6, kT_7, kT_8, kT_9, kT_10, kT_11, kT_12, kT_13, kT_14, kT_15, kT_16, kT_17, kT_18, kT_19, kT_20, kT_21, kT_22, kT_23, kL_2, kL_3, kL_5, kL_10, kL_11, kL_12, kL_14, kL_15, kL_17, kL_18, kL_19, kL_20, kL_21, kL_22, kL_23, kW_0_0, kW_0_1, kW_0_2, kW_0_3, kW_0_4, kW_0_5, kW_0_6, kW_0_7, kW_1_4, kW_1_5, kW_4_0, kW_4_1, kW_9_0, kW_9_1, kW_9_2, kW_13_0, kW_13_1, kW_16_0, kW_16_1, kW_16_2, kW_16_3, kW_16_4, kW_16_5, kW_1_1, kW_1_2, kW_4_4, kW_8_0, kW_8_1, kW_w1_1, kW_w1_2, kW_w4_4, kW_w8_0, kW_w8_1, kI_0, kI_w0, kI_1, kI_w1, kI_2, kI_w2, kI_3, kI_w3, kI_4, kI_w4, kI_5, kI_w5, kI_6, kI_w6, kI_7, kI_w7, kI_8, kI_w8, kI_9, kI_w9, kI_10, kI_w10, kI_11, kI_w11, kI_12, kI_w12, kI_13, kI_w13, kI_14, kI_w14, kI_15, kI_w15, kI_16, kI_w16, kI_17, kI_w17, kI_18, kI_w18, kI_19, kI_w19, kI_20, kI_w20, kI_21, kI_w21, kI_22, kI_w22, kI_23, kI_w23, q1, ix_le (show p < 2147483648 by omega) k1, show ¬ p ≤ k by omega, kMk_b hm (show k < 12 by omega), ix_in k1, ix_nat k1, show k < 12 by omega, z22, nI_1, ex_ite, exists_and_left, exists_const, exists_and_right]
    have kk : decide (k < p) = true := decide_eq_true (by omega)
    have nx : ∀ b : Bool, b = rKeep s p S k → ∀ i, (decide (i < k + 1) && rKeep s p S i) = ((decide (i < k) && rKeep s p S i) || (b && decide (i = k))) := by
      intro b hb i
      by_cases z : i = k
      · subst z; simp [hb]
      · by_cases y : i < k
        · have : i < k + 1 := by omega
          simp [y, z, this]
        · have : ¬ i < k + 1 := by omega
          simp [y, z, this]
    rcases Bool.eq_false_or_eq_true (S k) with z1 | z1
    · rcases Bool.eq_false_or_eq_true (kAny (fun j => S j && rUp s k j) p 0) with z2 | z2
      · have hb : true = rKeep s p S k := by unfold rKeep; rw [kk, z1, z2]; rfl
        simp only [z1, z2, Bool.true_eq_false, ↓reduceIte]
        exact I _ ((ha.or (show k < 12 by omega)).to fun i _ => by rw [nx true hb i, Bool.true_and])
      · have hb : false = rKeep s p S k := by unfold rKeep; rw [z2]; simp
        simp only [z1, z2, ↓reduceIte]
        exact I _ (ha.to fun i _ => by rw [nx false hb i]; simp)
    · have hb : false = rKeep s p S k := by unfold rKeep; rw [z1]; simp
      simp only [z1, Bool.false_eq_true, ↓reduceIte]
      exact I _ (ha.to fun i _ => by rw [nx false hb i]; simp)
theorem cl_ring (g7 : kC5 c s p) {post : Bool → mj_M → Prop} : ∀ (m st : Nat) (mask : Int32) (S : Nat → Bool), st + m = p → kMk mask S → (∀ j, S j = true → j < p) → post (kAny (rRest s p m S) p 0) (kT B t, kL B l, kI B i c s, kW B r u, kI B q g w, x) → vb_X9_hasRing_4 post (m + 1) (B + 16) mask (nI st) (kT B t, kL B l, kI B i c s, kW B r u, kI B q g w, x)
  | 0, st, mask, S, hs, hm, hS, hp => by
    have p12 := g7.1
    have sp : st = p := by omega
    subst sp
    have e : kAny S 12 0 = kAny S st 0 := by
      rw [← kAny_12 p12]; congr 1; funext j
      cases y : S j with
      | false => simp
      | true => have := hS j y; simp [this]
    have z := kMk_0 hm
    rw [e] at z
    simp only [vb_X9_hasRing_4, vb_X9_hasRing_77, mq_tag, mq_len, mq_i, mq_r, mq_l, mq_nx, mq_wi, mq_wr, mq_wl, true_and, and_true, and_false, false_and, and_self, ↓reduceIte, kT_0, kT_1, kT_2, kT_3, kT_4, kT_5, kT_6, kT_7, kT_8, kT_9, kT_10, kT_11, kT_12, kT_13, kT_14, kT_15, kT_16, kT_17, kT_18, kT_19, kT_20, kT_21, kT_22, kT_23, kL_2, kL_3, kL_5, kL_10, kL_11, kL_12, kL_14, kL_15, kL_17, kL_18, kL_19, kL_20, kL_21, kL_22, kL_23, kW_0_0, kW_0_1, kW_0_2, kW_0_3, kW_0_4, kW_0_5, kW_0_6, kW_0_7, kW_1_4, kW_1_5, kW_4_0, kW_4_1, kW_9_0, kW_9_1, kW_9_2, kW_13_0, kW_13_1, kW_16_0, kW_16_1, kW_16_2, kW_16_3, kW_16_4, kW_16_5, kW_1_1, kW_1_2, kW_4_4, kW_8_0, kW_8_1, kW_w1_1, kW_w1_2, kW_w4_4, kW_w8_0, kW_w8_1, kI_0, kI_w0, kI_1, kI_w1, kI_2, kI_w2, kI_3, kI_w3, kI_4, kI_w4, kI_5, kI_w5, kI_6, kI_w6, kI_7, kI_w7, kI_8, kI_w8, kI_9, kI_w9, kI_10, kI_w10, kI_11, kI_w11, kI_12, kI_w12, kI_13, kI_w13, kI_14, kI_w14, kI_15, kI_w15, kI_16, kI_w16, kI_17, kI_w17, kI_18, kI_w18, kI_19, kI_w19, kI_20, kI_w20, kI_21, kI_w21, kI_22, kI_w22, kI_23, kI_w23, g7.2.1, Int32.le_refl, z]
    show if kAny S st 0 = false then _ else _
    have hp' : post (kAny S st 0) (kT B t, kL B l, kI B i c s, kW B r u, kI B q g w, x) := hp
    rcases Bool.eq_false_or_eq_true (kAny S st 0) with y | y <;> rw [y] at hp' ⊢
    · rw [if_neg (by decide)]; exact hp'
    · rw [if_pos rfl]; exact hp'
  | m + 1, st, mask, S, hs, hm, hS, hp => by
    have p12 := g7.1
    have s1 : st < 2147483648 := by omega
    have z := kMk_0 hm
    have I := fun mask' hm' => cl_ring g7 (post := post) m (st + 1) mask' (rKeep s p S) (by omega) hm' (fun j hj => by
      unfold rKeep at hj; simp only [Bool.and_eq_true, decide_eq_true_eq] at hj; exact hj.1.1) hp
    unfold vb_X9_hasRing_4
    simp only [vb_X9_hasRing_77, mq_tag, mq_len, mq_i, mq_r, mq_l, mq_nx, mq_wi, mq_wr, mq_wl, true_and, and_true, and_false, false_and, and_self, ↓reduceIte, kT_0, kT_1, kT_2, kT_3, kT_4, kT_5, kT_6, kT_7, kT_8, kT_9, kT_10, kT_11, kT_12, kT_13, kT_14, kT_15, kT_16, kT_17, kT_18, kT_19, kT_20, kT_21, kT_22, kT_23, kL_2, kL_3, kL_5, kL_10, kL_11, kL_12, kL_14, kL_15, kL_17, kL_18, kL_19, kL_20, kL_21, kL_22, kL_23, kW_0_0, kW_0_1, kW_0_2, kW_0_3, kW_0_4, kW_0_5, kW_0_6, kW_0_7, kW_1_4, kW_1_5, kW_4_0, kW_4_1, kW_9_0, kW_9_1, kW_9_2, kW_13_0, kW_13_1, kW_16_0, kW_16_1, kW_16_2, kW_16_3, kW_16_4, kW_16_5, kW_1_1, kW_1_2, kW_4_4, kW_8_0, kW_8_1, kW_w1_1, kW_w1_2, kW_w4_4, kW_w8_0, kW_w8_1, kI_0, kI_w0, kI_1, kI_w1, kI_2, kI_w2, kI_3, kI_w3, kI_4, kI_w4, kI_5, kI_w5, kI_6, kI_w6, kI_7, kI_w7, kI_8, kI_w8, kI_9, kI_w9, kI_10, kI_w10, kI_11, kI_w11, kI_12, kI_w12, kI_13, kI_w13, kI_14, kI_w14, kI_15, kI_w15, kI_16, kI_w16, kI_17, kI_w17, kI_18, kI_w18, kI_19, kI_w19, kI_20, kI_w20, kI_21, kI_w21, kI_22, kI_w22, kI_23, kI_w23, g7.2.1, ix_le (show p < 2147483648 by omega) s1, show ¬ p ≤ st by omega, z]
    by_cases y : kAny S 12 0 = false
    · simp only [y, ↓reduceIte]
      have S0 : ∀ j, S j = false := fun j => by
        cases w : S j with
        | false => rfl
        | true =>
          have := kAny_iff (P := S) (c := 12) (k := 0) |>.mpr ⟨j, by omega, by have := hS j w; omega, w⟩
          rw [y] at this; cases this
      have e0 : kAny (rRest s p (m + 1) S) p 0 = false := by
        rw [Bool.eq_false_iff]; intro hk
        obtain ⟨j, _, _, j3⟩ := kAny_iff.mp hk
        rw [rRest_0 (m + 1) S S0 j] at j3; cases j3
      rw [e0] at hp; exact hp
    · simp only [y, ↓reduceIte]
      have R := cl_ri (B := B) (t := t) (l := l) (u := u) (i := i) (r := r) (q := q) (g := g) (w := w) (x := x) g7 hm (st := nI st) (K := vb_X9_hasRing_4 post (m + 1)) (post := post) p 0 0 (by omega) (kMk_none fun j _ => by simp) (fun acc' ha => by rw [nI_1]; exact I acc' ha)
      rw [nI_0] at R; exact R
end

/-! STAGE B: what falls -/
def kHg (e : Nat → Nat → Int32) (o d : Int32) : Nat → Nat → Bool
  | 0, _ => false
  | f + 1, h => decide (d < kun e h) && (decide (e 1 h = o) || (decide (0 ≤ e 1 h) && kHg e o d f (e 1 h).toNatClampNeg))
def kFa (e : Nat → Nat → Int32) (F : Nat → Bool) (m k : Nat) (v d : Int32) : Nat → Nat → Int32 := fun j h => if k ≤ h ∧ h < k + m ∧ F h = true then (if j = 6 then 4 else if j = 5 then imx d (e 3 h) else if j = 12 then v else e j h) else e j h
def kNm (F : Nat → Bool) : Nat → Nat → Nat
  | 0, _ => 0
  | m + 1, k => (if F k = true then 1 else 0) + kNm F m (k + 1)
theorem kCnt_n {F : Nat → Bool} : ∀ {m k a : Nat}, kCnt F m k (nI a) = nI (a + kNm F m k)
  | 0, k, a => rfl
  | m + 1, k, a => by
    show kCnt F m (k + 1) (nI a + mj_b (F k)) = _
    cases h : F k with
    | false =>
      rw [show nI a + mj_b false = nI a by simp [mj_b], kCnt_n]
      simp [kNm, h]
    | true =>
      rw [show nI a + mj_b true = nI (a + 1) from nI_1 a, kCnt_n]
      simp only [kNm, h, ↓reduceIte]; rw [Nat.add_assoc]
theorem kNm_le {F G : Nat → Bool} (hl : ∀ h, G h = true → F h = true) : ∀ {m k : Nat}, kNm G m k ≤ kNm F m k
  | 0, _ => Nat.le_refl _
  | m + 1, k => by
    have := kNm_le hl (m := m) (k := k + 1)
    simp only [kNm]
    by_cases h1 : G k = true
    · rw [if_pos h1, if_pos (hl k h1)]; omega
    · rw [if_neg h1]; split <;> omega
theorem kNm_out {G : Nat → Bool} {y : Nat} : ∀ {m k : Nat}, y < k → kNm (fun h => decide (h = y) || G h) m k = kNm G m k
  | 0, _, _ => rfl
  | m + 1, k, hy => by
    simp only [kNm]
    have d : decide (k = y) = false := decide_eq_false (by omega)
    rw [kNm_out (by omega)]
    simp only [d, Bool.false_or]
theorem kNm_add {G : Nat → Bool} {y : Nat} (hg : G y = false) : ∀ {m k : Nat}, k ≤ y → y < k + m → kNm (fun h => decide (h = y) || G h) m k = kNm G m k + 1
  | 0, _, h1, h2 => by omega
  | m + 1, k, h1, h2 => by
    simp only [kNm]
    by_cases e : k = y
    · subst e
      rw [kNm_out (by omega)]
      simp only [hg, decide_true, Bool.true_or, ↓reduceIte, Bool.false_eq_true]; omega
    · have d : decide (k = y) = false := decide_eq_false e
      rw [kNm_add hg (by omega) (by omega)]
      simp only [d, Bool.false_or]; omega
theorem kNm_top {G : Nat → Bool} : ∀ {m k : Nat}, kNm G m k ≤ m
  | 0, _ => Nat.le_refl _
  | m + 1, k => by
    have := kNm_top (G := G) (m := m) (k := k + 1)
    simp only [kNm]; split <;> omega
theorem kHg_fuel {e : Nat → Nat → Int32} {o d : Int32} {n : Nat} {rk : Nat → Nat} (h40 : n ≤ 40) (ho : ∀ h, h < n → e 1 h = -1 ∨ ∃ k, k < n ∧ e 1 h = nI k) (R : ∀ h, h < n → rk h < n ∧ ∀ k, k < n → e 1 h = nI k → rk k < rk h) : ∀ (f f' h : Nat), h < n → rk h < f → rk h < f' → kHg e o d f h = kHg e o d f' h
  | 0, _, _, _, h2, _ => by omega
  | _ + 1, 0, _, _, _, h3 => by omega
  | f + 1, f' + 1, h, h1, h2, h3 => by
    unfold kHg
    rcases ho h h1 with z | ⟨k, hk, z⟩
    · rw [z]; rfl
    · have := (R h h1).2 k hk z
      rw [z, ix_nat (by omega), kHg_fuel h40 ho R f f' k hk (by omega) (by omega)]
theorem kFa_0 {e : Nat → Nat → Int32} {F : Nat → Bool} {k : Nat} {v d : Int32} : kFa e F 0 k v d = e := by
  funext j h; unfold kFa; rw [if_neg (by omega)]
theorem kFa_f {e : Nat → Nat → Int32} {F : Nat → Bool} {m k : Nat} {v d : Int32} (hc : F k = false) : kFa e F (m + 1) k v d = kFa e F m (k + 1) v d := by
  funext j h
  unfold kFa
  by_cases hk : h = k
  · subst hk
    rw [if_neg (fun z => by rw [hc] at z; exact absurd z.2.2 (by decide)), if_neg (by omega)]
  · have e1 : (k ≤ h ∧ h < k + (m + 1) ∧ F h = true) = (k + 1 ≤ h ∧ h < k + 1 + m ∧ F h = true) := propext ⟨fun z => ⟨by omega, by omega, z.2.2⟩, fun z => ⟨by omega, by omega, z.2.2⟩⟩
    simp only [e1]
theorem kFa_t {e : Nat → Nat → Int32} {F : Nat → Bool} {m k : Nat} {v d : Int32} (hc : F k = true) : kFa e F (m + 1) k v d = kFa (mj_u2 (mj_u2 (mj_u2 e 6 k 4) 5 k (imx d (e 3 k))) 12 k v) F m (k + 1) v d := by
  funext j h
  unfold kFa
  by_cases hk : h = k
  · subst hk
    have n2 : ¬ (h + 1 ≤ h ∧ h < h + 1 + m ∧ F h = true) := by omega
    rw [if_pos ⟨Nat.le_refl _, by omega, hc⟩, if_neg n2]
    by_cases j6 : j = 6
    · subst j6; simp [mq_u2]
    · by_cases j5 : j = 5
      · subst j5; simp [mq_u2]
      · by_cases j12 : j = 12
        · subst j12; simp [mq_u2]
        · simp [mq_u2, j6, j5, j12]
  · have e1 : (k ≤ h ∧ h < k + (m + 1) ∧ F h = true) = (k + 1 ≤ h ∧ h < k + 1 + m ∧ F h = true) := propext ⟨fun z => ⟨by omega, by omega, z.2.2⟩, fun z => ⟨by omega, by omega, z.2.2⟩⟩
    simp only [e1, mq_u2, hk, and_false, ↓reduceIte]
section
variable {B x n na nn : Nat} {A AA AT AN : Nat → Nat} {t l u : Nat → Nat} {c s : Nat → Nat → Int32} {q g w : Nat → Nat → Int64}
theorem cl_hang0 {i : Nat → Nat → Int32} {r : Nat → Nat → Nat} {ra : Nat} {post : Bool → mj_M → Prop} : (∃ fe, vb_X4_hangsFrom_2 post fe (B + 1) ra 0 (kT B t, kL B l, kI B i c s, kW B r u, kI B q g w, x)) = post false (kT B t, kL B l, kI B i c s, kW B r u, kI B q g w, x) := by
  rw [ex_succ rfl]
  simp only [vb_X4_hangsFrom_2, ↓reduceIte, ex_ite, exists_and_left, exists_const, exists_and_right]
theorem cl_hang {i e : Nat → Nat → Int32} {r : Nat → Nat → Nat} (H : kCD B A AA AT AN n na nn e t l i r x) {rk : Nat → Nat} (R : ∀ h, h < n → rk h < n ∧ ∀ k, k < n → e 1 h = nI k → rk k < rk h) {o : Nat} (ho : o < n) {post : Bool → mj_M → Prop} : ∀ f h, h < n → rk h < f → (∃ fe, vb_X4_hangsFrom_2 post fe (B + 1) (A o) (A h) (kT B t, kL B l, kI B i c s, kW B r u, kI B q g w, x)) = post (kHg e (nI o) (c 1 0) f h) (kT B t, kL B l, kI B i c s, kW B r u, kI B q g w, x)
  | 0, h, _, h2 => by omega
  | f + 1, h, h1, h2 => by
    have h40 := H.n40
    rw [ex_succ rfl]
    simp only [vb_X4_hangsFrom_2, mq_tag, mq_len, mq_i, mq_r, mq_l, mq_nx, mq_wi, mq_wr, mq_wl, true_and, and_true, and_false, false_and, and_self, ↓reduceIte, kT_0, kT_1, kT_2, kT_3, kT_4, kT_5, kT_6, kT_7, kT_8, kT_9, kT_10, kT_11, kT_12, kT_13, kT_14, kT_15, kT_16, kT_17, kT_18, kT_19, kT_20, kT_21, kT_22, kT_23, kL_2, kL_3, kL_5, kL_10, kL_11, kL_12, kL_14, kL_15, kL_17, kL_18, kL_19, kL_20, kL_21, kL_22, kL_23, kW_0_0, kW_0_1, kW_0_2, kW_0_3, kW_0_4, kW_0_5, kW_0_6, kW_0_7, kW_1_4, kW_1_5, kW_4_0, kW_4_1, kW_9_0, kW_9_1, kW_9_2, kW_13_0, kW_13_1, kW_16_0, kW_16_1, kW_16_2, kW_16_3, kW_16_4, kW_16_5, kW_1_1, kW_1_2, kW_4_4, kW_8_0, kW_8_1, kW_w1_1, kW_w1_2, kW_w4_4, kW_w8_0, kW_w8_1, kI_0, kI_w0, kI_1, kI_w1, kI_2, kI_w2, kI_3, kI_w3, kI_4, kI_w4, kI_5, kI_w5, kI_6, kI_w6, kI_7, kI_w7, kI_8, kI_w8, kI_9, kI_w9, kI_10, kI_w10, kI_11, kI_w11, kI_12, kI_w12, kI_13, kI_w13, kI_14, kI_w14, kI_15, kI_w15, kI_16, kI_w16, kI_17, kI_w17, kI_18, kI_w18, kI_19, kI_w19, kI_20, kI_w20, kI_21, kI_w21, kI_22, kI_w22, kI_23, kI_w23, H.atT h1, H.atI h1, H.atW h1, c_until H h1, H.RH (H.V1 h1) ho, ex_ite, exists_and_left, exists_const, exists_and_right, kHg]
    by_cases q1 : kun e h ≤ c 1 0
    · have q2 : ¬ c 1 0 < kun e h := Int32.not_lt.mpr q1
      simp only [q1, q2, true_or, or_true, false_or, or_false, not_true_eq_false, not_false_eq_true, true_and, and_true, false_and, and_false, and_self, decide_true, decide_false, ↓reduceIte, Bool.true_and, Bool.false_and, Bool.and_true, Bool.and_false, Bool.not_true, Bool.not_false, Bool.false_eq_true, Bool.true_or, Bool.or_true, Bool.false_or, Bool.or_false, reduceCtorEq, Bool.and_self, Bool.or_self, ne_eq]
    · have q2 : c 1 0 < kun e h := Int32.not_le.mp q1
      by_cases q3 : e 1 h = nI o
      · simp only [q1, q2, q3, true_or, or_true, false_or, or_false, not_true_eq_false, not_false_eq_true, true_and, and_true, false_and, and_false, and_self, decide_true, decide_false, ↓reduceIte, Bool.true_and, Bool.false_and, Bool.and_true, Bool.and_false, Bool.not_true, Bool.not_false, Bool.false_eq_true, Bool.true_or, Bool.or_true, Bool.false_or, Bool.or_false, reduceCtorEq, Bool.and_self, Bool.or_self, ne_eq]
      · simp only [q1, q2, q3, true_or, or_true, false_or, or_false, not_true_eq_false, not_false_eq_true, true_and, and_true, false_and, and_false, and_self, decide_true, decide_false, ↓reduceIte, Bool.true_and, Bool.false_and, Bool.and_true, Bool.and_false, Bool.not_true, Bool.not_false, Bool.false_eq_true, Bool.true_or, Bool.or_true, Bool.false_or, Bool.or_false, reduceCtorEq, Bool.and_self, Bool.or_self, ne_eq]
        rcases H.V1 h1 with z | ⟨k, hk, z⟩
        · have z2 : ¬ 0 ≤ e 1 h := fun y => by rw [i_lt] at z; have := i_le.mp y; omega
          rw [kR_n z, cl_hang0]
          simp only [z2, true_or, or_true, false_or, or_false, not_true_eq_false, not_false_eq_true, true_and, and_true, false_and, and_false, and_self, decide_true, decide_false, ↓reduceIte, Bool.true_and, Bool.false_and, Bool.and_true, Bool.and_false, Bool.not_true, Bool.not_false, Bool.false_eq_true, Bool.true_or, Bool.or_true, Bool.false_or, Bool.or_false, reduceCtorEq, Bool.and_self, Bool.or_self, ne_eq]
        · have := (R h h1).2 k hk z
          rw [z, kR_I (by omega), cl_hang H R ho f k hk (by omega), ix_nat (by omega)]
          simp only [ix_nn (show k < 2147483648 by omega), true_or, or_true, false_or, or_false, not_true_eq_false, not_false_eq_true, true_and, and_true, false_and, and_false, and_self, decide_true, decide_false, ↓reduceIte, Bool.true_and, Bool.false_and, Bool.and_true, Bool.and_false, Bool.not_true, Bool.not_false, Bool.false_eq_true, Bool.true_or, Bool.or_true, Bool.false_or, Bool.or_false, reduceCtorEq, Bool.and_self, Bool.or_self, ne_eq]
theorem cl_mark {e : Nat → Nat → Int32} {r : Nat → Nat → Nat} {rk : Nat → Nat} (R : ∀ h, h < n → rk h < n ∧ ∀ k, k < n → e 1 h = nI k → rk k < rk h) {o rc : Nat} (ho : o < n) (U : kU A AA AN n na nn u) {post : Int32 → mj_M → Prop} : ∀ m k (i : Nat → Nat → Int32), k + m = n → kCD B A AA AT AN n na nn e t l i r x → (∀ h, h < k → i (A h) 14 = mj_b (kHg e (nI o) (c 1 0) n h)) →
    (∀ i', kCD B A AA AT AN n na nn e t l i' r x → (∀ h, h < n → i' (A h) 14 = mj_b (kHg e (nI o) (c 1 0) n h)) → ∃ fe, vb_X4_letFall_35 post fe (B + 1) rc 0 (kP A n 0) (kT B t, kL B l, kI B i' c s, kW B r u, kI B q g w, x)) →
    ∃ fe, vb_X4_letFall_5 post fe (B + 1) (A o) rc (kP A n k) (kT B t, kL B l, kI B i c s, kW B r u, kI B q g w, x)
  | 0, k, i, hk, H, hm, hp => by
    have := hp i H (fun h hh => hm h (by omega))
    refine ex_imp ⟨0, ?_⟩
    simp only [vb_X4_letFall_5, kP_ge (show n ≤ k by omega), mq_tag, mq_len, mq_i, mq_r, mq_l, mq_nx, mq_wi, mq_wr, mq_wl, true_and, and_true, and_false, false_and, and_self, ↓reduceIte, kT_0, kT_1, kT_2, kT_3, kT_4, kT_5, kT_6, kT_7, kT_8, kT_9, kT_10, kT_11, kT_12, kT_13, kT_14, kT_15, kT_16, kT_17, kT_18, kT_19, kT_20, kT_21, kT_22, kT_23, kL_2, kL_3, kL_5, kL_10, kL_11, kL_12, kL_14, kL_15, kL_17, kL_18, kL_19, kL_20, kL_21, kL_22, kL_23, kW_0_0, kW_0_1, kW_0_2, kW_0_3, kW_0_4, kW_0_5, kW_0_6, kW_0_7, kW_1_4, kW_1_5, kW_4_0, kW_4_1, kW_9_0, kW_9_1, kW_9_2, kW_13_0, kW_13_1, kW_16_0, kW_16_1, kW_16_2, kW_16_3, kW_16_4, kW_16_5, kW_1_1, kW_1_2, kW_4_4, kW_8_0, kW_8_1, kW_w1_1, kW_w1_2, kW_w4_4, kW_w8_0, kW_w8_1, kI_0, kI_w0, kI_1, kI_w1, kI_2, kI_w2, kI_3, kI_w3, kI_4, kI_w4, kI_5, kI_w5, kI_6, kI_w6, kI_7, kI_w7, kI_8, kI_w8, kI_9, kI_w9, kI_10, kI_w10, kI_11, kI_w11, kI_12, kI_w12, kI_13, kI_w13, kI_14, kI_w14, kI_15, kI_w15, kI_16, kI_w16, kI_17, kI_w17, kI_18, kI_w18, kI_19, kI_w19, kI_20, kI_w20, kI_21, kI_w21, kI_22, kI_w22, kI_23, kI_w23, U.1]
    exact this
  | m + 1, k, i, hk, H, hm, hp => by
    have hk' : k < n := by omega
    have E := fun post => cl_hang H R ho (c := c) (s := s) (u := u) (q := q) (g := g) (w := w) (post := post) n k hk' (R k hk').1
    rw [ex_succ rfl]
    simp only [vb_X4_letFall_5, kP_lt hk', mq_tag, mq_len, mq_i, mq_r, mq_l, mq_nx, mq_wi, mq_wr, mq_wl, true_and, and_true, and_false, false_and, and_self, ↓reduceIte, kT_0, kT_1, kT_2, kT_3, kT_4, kT_5, kT_6, kT_7, kT_8, kT_9, kT_10, kT_11, kT_12, kT_13, kT_14, kT_15, kT_16, kT_17, kT_18, kT_19, kT_20, kT_21, kT_22, kT_23, kL_2, kL_3, kL_5, kL_10, kL_11, kL_12, kL_14, kL_15, kL_17, kL_18, kL_19, kL_20, kL_21, kL_22, kL_23, kW_0_0, kW_0_1, kW_0_2, kW_0_3, kW_0_4, kW_0_5, kW_0_6, kW_0_7, kW_1_4, kW_1_5, kW_4_0, kW_4_1, kW_9_0, kW_9_1, kW_9_2, kW_13_0, kW_13_1, kW_16_0, kW_16_1, kW_16_2, kW_16_3, kW_16_4, kW_16_5, kW_1_1, kW_1_2, kW_4_4, kW_8_0, kW_8_1, kW_w1_1, kW_w1_2, kW_w4_4, kW_w8_0, kW_w8_1, kI_0, kI_w0, kI_1, kI_w1, kI_2, kI_w2, kI_3, kI_w3, kI_4, kI_w4, kI_5, kI_w5, kI_6, kI_w6, kI_7, kI_w7, kI_8, kI_w8, kI_9, kI_w9, kI_10, kI_w10, kI_11, kI_w11, kI_12, kI_w12, kI_13, kI_w13, kI_14, kI_w14, kI_15, kI_w15, kI_16, kI_w16, kI_17, kI_w17, kI_18, kI_w18, kI_19, kI_w19, kI_20, kI_w20, kI_21, kI_w21, kI_22, kI_w22, kI_23, kI_w23, H.atT hk', H.atI hk', H.atW hk', vc_X4_hangsFrom]
    have I := cl_mark R ho U (post := post) (rc := rc) m (k + 1) (mj_u2 i (A k) 14 (mj_b (kHg e (nI o) (c 1 0) n k))) (by omega) (H.w14 hk' _) (fun h hh => by
      by_cases e1 : h = k
      · subst e1; rw [mq_u2s]
      · rw [mq_u2n (fun z => e1 (by rwa [H.inj (by omega) hk'] at z))]; exact hm h (by omega)) hp
    obtain ⟨fe, I⟩ := I
    refine ⟨fe, ?_⟩
    rw [E]
    simp only [mq_tag, mq_len, mq_i, mq_r, mq_l, mq_nx, mq_wi, mq_wr, mq_wl, true_and, and_true, and_false, false_and, and_self, ↓reduceIte, kT_0, kT_1, kT_2, kT_3, kT_4, kT_5, kT_6, kT_7, kT_8, kT_9, kT_10, kT_11, kT_12, kT_13, kT_14, kT_15, kT_16, kT_17, kT_18, kT_19, kT_20, kT_21, kT_22, kT_23, kL_2, kL_3, kL_5, kL_10, kL_11, kL_12, kL_14, kL_15, kL_17, kL_18, kL_19, kL_20, kL_21, kL_22, kL_23, kW_0_0, kW_0_1, kW_0_2, kW_0_3, kW_0_4, kW_0_5, kW_0_6, kW_0_7, kW_1_4, kW_1_5, kW_4_0, kW_4_1, kW_9_0, kW_9_1, kW_9_2, kW_13_0, kW_13_1, kW_16_0, kW_16_1, kW_16_2, kW_16_3, kW_16_4, kW_16_5, kW_1_1, kW_1_2, kW_4_4, kW_8_0, kW_8_1, kW_w1_1, kW_w1_2, kW_w4_4, kW_w8_0, kW_w8_1, kI_0, kI_w0, kI_1, kI_w1, kI_2, kI_w2, kI_3, kI_w3, kI_4, kI_w4, kI_5, kI_w5, kI_6, kI_w6, kI_7, kI_w7, kI_8, kI_w8, kI_9, kI_w9, kI_10, kI_w10, kI_11, kI_w11, kI_12, kI_w12, kI_13, kI_w13, kI_14, kI_w14, kI_15, kI_w15, kI_16, kI_w16, kI_17, kI_w17, kI_18, kI_w18, kI_19, kI_w19, kI_20, kI_w20, kI_21, kI_w21, kI_22, kI_w22, kI_23, kI_w23, H.atT hk', H.atI hk', H.atW hk', kI_wo (H.AH hk')]
    exact I
theorem cl_fall {F : Nat → Bool} {v : Int32} {rc : Nat} (hrc : rc = kR A v) (hv : kV n v) {post : Int32 → mj_M → Prop} : ∀ m k (a : Int32) (e i : Nat → Nat → Int32) (r : Nat → Nat → Nat), k + m = n → kCD B A AA AT AN n na nn e t l i r x → (∀ h, k ≤ h → h < n → i (A h) 14 = mj_b (F h)) →
    (∀ i' r', kCD B A AA AT AN n na nn (kFa e F m k v (c 1 0)) t l i' r' x → post (kCnt F m k a) (kT B t, kL B l, kI B i' c s, kW B r' u, kI B q g w, x)) →
    ∃ fe, vb_X4_letFall_35 post fe (B + 1) rc a (kP A n k) (kT B t, kL B l, kI B i c s, kW B r u, kI B q g w, x)
  | 0, k, a, e, i, r, hk, H, hm, hp => by
    refine ex_imp ⟨0, ?_⟩
    simp only [vb_X4_letFall_35, kP_ge (show n ≤ k by omega), ↓reduceIte]
    exact hp i r (by rw [kFa_0]; exact H)
  | m + 1, k, a, e, i, r, hk, H, hm, hp => by
    have hk' : k < n := by omega
    have e14 : kI B i c s (A k) 14 = mj_b (F k) := (kI_o (H.AH hk')).trans (hm k (Nat.le_refl _) hk')
    rw [ex_succ rfl]
    simp only [vb_X4_letFall_35, kP_lt hk', mq_tag, mq_len, mq_i, mq_r, mq_l, mq_nx, mq_wi, mq_wr, mq_wl, true_and, and_true, and_false, false_and, and_self, ↓reduceIte, kT_0, kT_1, kT_2, kT_3, kT_4, kT_5, kT_6, kT_7, kT_8, kT_9, kT_10, kT_11, kT_12, kT_13, kT_14, kT_15, kT_16, kT_17, kT_18, kT_19, kT_20, kT_21, kT_22, kT_23, kL_2, kL_3, kL_5, kL_10, kL_11, kL_12, kL_14, kL_15, kL_17, kL_18, kL_19, kL_20, kL_21, kL_22, kL_23, kW_0_0, kW_0_1, kW_0_2, kW_0_3, kW_0_4, kW_0_5, kW_0_6, kW_0_7, kW_1_4, kW_1_5, kW_4_0, kW_4_1, kW_9_0, kW_9_1, kW_9_2, kW_13_0, kW_13_1, kW_16_0, kW_16_1, kW_16_2, kW_16_3, kW_16_4, kW_16_5, kW_1_1, kW_1_2, kW_4_4, kW_8_0, kW_8_1, kW_w1_1, kW_w1_2, kW_w4_4, kW_w8_0, kW_w8_1, kI_0, kI_w0, kI_1, kI_w1, kI_2, kI_w2, kI_3, kI_w3, kI_4, kI_w4, kI_5, kI_w5, kI_6, kI_w6, kI_7, kI_w7, kI_8, kI_w8, kI_9, kI_w9, kI_10, kI_w10, kI_11, kI_w11, kI_12, kI_w12, kI_13, kI_w13, kI_14, kI_w14, kI_15, kI_w15, kI_16, kI_w16, kI_17, kI_w17, kI_18, kI_w18, kI_19, kI_w19, kI_20, kI_w20, kI_21, kI_w21, kI_22, kI_w22, kI_23, kI_w23, H.atT hk', H.atI hk', H.atW hk', e14, ix_b0, c_close H hk', kW_wo (H.AH hk'), ex_ite, exists_and_left, exists_const, exists_and_right]
    cases hF : F k with
    | false =>
      simp only [↓reduceIte]
      refine cl_fall hrc hv m (k + 1) a e i r (by omega) H (fun h a b => hm h (by omega) b) fun i' r' h => ?_
      have h2 := hp i' r' (by rw [kFa_f hF]; exact h)
      rwa [show kCnt F (m + 1) k a = kCnt F m (k + 1) a by
        show kCnt _ m (k + 1) (a + mj_b (F k)) = _
        rw [hF]; simp [mj_b]] at h2
    | true =>
      have H2 := ((H.close hk' 4 (imx (c 1 0) (e 3 k))).w12 hk' hv)
      have e4 : kW B (mj_u2 r (A k) 13 rc) u (A k) 1 = kP A n (k + 1) := (kW_o (H.AH hk')).trans ((mq_u2k (by decide)).trans (H.2.2.2.2.1 k hk').2.2.1)
      simp only [Bool.true_eq_false, ↓reduceIte, e4]
      rw [← hrc] at H2
      refine cl_fall (F := F) hrc hv m (k + 1) (a + 1) _ _ _ (by omega) H2 (fun h a b => ?_) fun i' r' h => ?_
      · have : A h ≠ A k := fun z => by rw [H.inj b hk'] at z; omega
        rw [mq_u2n this, mq_u2n this]; exact hm h (by omega) b
      · have h2 := hp i' r' (by rw [kFa_t hF]; exact h)
        rwa [show kCnt F (m + 1) k a = kCnt F m (k + 1) (a + 1) by
          show kCnt _ m (k + 1) (a + mj_b (F k)) = _
          rw [hF]; rfl] at h2
theorem c_letFall {e i : Nat → Nat → Int32} {r : Nat → Nat → Nat} (H : kCD B A AA AT AN n na nn e t l i r x) (U : kU A AA AN n na nn u) {rk : Nat → Nat} (R : ∀ h, h < n → rk h < n ∧ ∀ k, k < n → e 1 h = nI k → rk k < rk h) {o rc : Nat} (ho : o < n) {v : Int32} (hrc : rc = kR A v) (hv : kV n v) {post : Int32 → mj_M → Prop}
    (hp : ∀ i' r', kCD B A AA AT AN n na nn (kFa e (fun h => kHg e (nI o) (c 1 0) n h) n 0 v (c 1 0)) t l i' r' x → post (kCnt (fun h => kHg e (nI o) (c 1 0) n h) n 0 0) (kT B t, kL B l, kI B i' c s, kW B r' u, kI B q g w, x)) : vc_X4_letFall (B + 1) (A o) rc (kT B t, kL B l, kI B i c s, kW B r u, kI B q g w, x) post := by
  simp only [vc_X4_letFall, mq_tag, mq_len, mq_i, mq_r, mq_l, mq_nx, mq_wi, mq_wr, mq_wl, true_and, and_true, and_false, false_and, and_self, ↓reduceIte, kT_0, kT_1, kT_2, kT_3, kT_4, kT_5, kT_6, kT_7, kT_8, kT_9, kT_10, kT_11, kT_12, kT_13, kT_14, kT_15, kT_16, kT_17, kT_18, kT_19, kT_20, kT_21, kT_22, kT_23, kL_2, kL_3, kL_5, kL_10, kL_11, kL_12, kL_14, kL_15, kL_17, kL_18, kL_19, kL_20, kL_21, kL_22, kL_23, kW_0_0, kW_0_1, kW_0_2, kW_0_3, kW_0_4, kW_0_5, kW_0_6, kW_0_7, kW_1_4, kW_1_5, kW_4_0, kW_4_1, kW_9_0, kW_9_1, kW_9_2, kW_13_0, kW_13_1, kW_16_0, kW_16_1, kW_16_2, kW_16_3, kW_16_4, kW_16_5, kW_1_1, kW_1_2, kW_4_4, kW_8_0, kW_8_1, kW_w1_1, kW_w1_2, kW_w4_4, kW_w8_0, kW_w8_1, kI_0, kI_w0, kI_1, kI_w1, kI_2, kI_w2, kI_3, kI_w3, kI_4, kI_w4, kI_5, kI_w5, kI_6, kI_w6, kI_7, kI_w7, kI_8, kI_w8, kI_9, kI_w9, kI_10, kI_w10, kI_11, kI_w11, kI_12, kI_w12, kI_13, kI_w13, kI_14, kI_w14, kI_15, kI_w15, kI_16, kI_w16, kI_17, kI_w17, kI_18, kI_w18, kI_19, kI_w19, kI_20, kI_w20, kI_21, kI_w21, kI_22, kI_w22, kI_23, kI_w23, U.1]
  refine cl_mark R ho U n 0 i (by omega) H (fun h hh => by omega) fun i' H' hm => ?_
  exact cl_fall hrc hv n 0 0 e i' r (by omega) H' (fun h _ hh => hm h hh) hp
end
/-- the reference's falling: who has fallen now -/
def kFs (s : Nat → Nat → Int32) (G : Nat → Bool) (v : Int32) : Nat → Nat → Int32 := fun j h => if j = 31 then (if h < 40 then mj_b (G h) else s 31 h) else if G h = true then (if j = 6 then 4 else if j = 5 then imx (s 0 0) (s 3 h) else if j = 12 then v else s j h) else s j h
section
variable {s : Nat → Nat → Int32} {G : Nat → Bool} {v : Int32}
theorem kFs_o {j : Nat} (h1 : j ≠ 5) (h2 : j ≠ 6) (h3 : j ≠ 12) (h4 : j ≠ 31) : kFs s G v j = s j := by
  funext h; unfold kFs; simp only [h1, h2, h3, h4, ↓reduceIte]; split <;> rfl
theorem kFs_6 {h : Nat} : kFs s G v 6 h = if G h = true then 4 else s 6 h := by
  unfold kFs; simp only [Nat.reduceEqDiff, ↓reduceIte]
theorem kFs_31 {h : Nat} (hh : h < 40) : kFs s G v 31 h = mj_b (G h) := by
  unfold kFs; simp only [hh, ↓reduceIte]
theorem kFs_up {y : Nat} (hy : y < 40) (hg : G y = false) : mj_u2 (mj_u2 (mj_u2 (mj_u2 (kFs s G v) 6 y 4) 5 y (imx (s 0 0) (s 3 y))) 12 y v) 31 y (mj_b true) = kFs s (fun h => decide (h = y) || G h) v := by
  funext j h
  unfold kFs
  by_cases e : h = y
  · subst e
    simp only [hg, hy, decide_true, Bool.true_or, ↓reduceIte, Bool.false_eq_true]
    by_cases j31 : j = 31
    · subst j31; simp [mq_u2]
    · by_cases j6 : j = 6
      · subst j6; simp [mq_u2]
      · by_cases j5 : j = 5
        · subst j5; simp [mq_u2]
        · by_cases j12 : j = 12
          · subst j12; simp [mq_u2]
          · simp [mq_u2, j31, j6, j5, j12]
  · simp only [mq_u2, e, and_false, ↓reduceIte, decide_false, Bool.false_or]
end
section
variable {B x n : Nat} {t l u : Nat → Nat} {i c : Nat → Nat → Int32} {r : Nat → Nat → Nat} {q g w : Nat → Nat → Int64}
theorem ml_fall {s : Nat → Nat → Int32} {F : Nat → Bool} {o : Nat} {v : Int32} (hn : s 0 13 = nI n) (h40 : n ≤ 40) (ho : o < n) (hout : ∀ h, h < n → s 1 h = -1 ∨ ∃ k, k < n ∧ s 1 h = nI k)
    (F1 : ∀ h, h < n → (F h = true ↔ (s 6 h = 0 ∧ s 0 0 < s 4 h ∧ ∃ k, k < n ∧ s 1 h = nI k ∧ (k = o ∨ F k = true)))) (F2 : ∀ h, n ≤ h → F h = false) {rk : Nat → Nat} (R : ∀ h, h < n → rk h < n ∧ ∀ k, k < n → s 1 h = nI k → rk k < rk h) {post : Int32 → mj_M → Prop} :
    ∀ (p m k : Nat) (G : Nat → Bool), k + m = n → (∀ h, G h = true → F h = true) → kNm G n 0 + p = kNm F n 0 → (∀ h, h < k → ¬ (G h = false ∧ s 6 h = 0 ∧ s 0 0 < s 4 h ∧ ∃ j, j < n ∧ s 1 h = nI j ∧ (j = o ∨ G j = true))) →
    (∃ fe, vb_X12_fall_5 post fe (B + 24) (nI o) v (nI (kNm G n 0)) (nI k) (kT B t, kL B l, kI B i c (kFs s G v), kW B r u, kI B q g w, x)) = post (nI (kNm F n 0)) (kT B t, kL B l, kI B i c (kFs s F v), kW B r u, kI B q g w, x)
  | p, 0, k, G, hk, hl, hc, he => by
    have hGF : G = F := by
      have key : ∀ (f h : Nat), h < n → rk h < f → F h = true → G h = true := by
        intro f
        induction f with
        | zero => intro h _ h2; omega
        | succ f ih =>
          intro h hh h2 hF
          obtain ⟨q1, q2, j, hj, q3, q4⟩ := (F1 h hh).mp hF
          cases hg : G h with
          | true => rfl
          | false =>
            exfalso
            refine he h (by omega) ⟨hg, q1, q2, j, hj, q3, ?_⟩
            rcases q4 with q4 | q4
            · exact .inl q4
            · exact .inr (ih j hj (by have := (R h hh).2 j hj q3; omega) q4)
      funext h
      by_cases hh : h < n
      · cases hF : F h with
        | true => exact key n h hh (R h hh).1 hF
        | false =>
          cases hg : G h with
          | false => rfl
          | true => rw [hl h hg] at hF; cases hF
      · rw [F2 h (by omega)]
        cases hg : G h with
        | false => rfl
        | true => have := hl h hg; rw [F2 h (by omega)] at this; cases this
    subst hGF
    have n1 : n < 2147483648 := by omega
    rw [ex_succ rfl]
    simp only [vb_X12_fall_5, mq_tag, mq_len, mq_i, mq_r, mq_l, mq_nx, mq_wi, mq_wr, mq_wl, true_and, and_true, and_false, false_and, and_self, ↓reduceIte, kT_24, kT_25, kT_26, kT_27, kT_28, kT_29, kT_30, kT_31, kT_32, kT_33, kT_34, kT_35, kT_36, kT_37, kT_38, kT_39, kT_40, kT_41, kT_42, kT_43, kT_44, kT_45, kT_46, kT_47, kT_48, kT_49, kT_50, kT_51, kT_52, kT_53, kT_54, kT_55, kT_56, kT_57, kT_58, kT_59, kT_60, kT_61, kL_25, kL_26, kL_27, kL_28, kL_29, kL_30, kL_31, kL_32, kL_33, kL_34, kL_35, kL_36, kL_37, kL_38, kL_39, kL_40, kL_41, kL_42, kL_43, kL_44, kL_45, kL_46, kL_47, kL_48, kL_49, kL_50, kL_51, kL_52, kL_53, kL_54, kL_55, kL_56, kL_57, kL_58, kL_59, kL_60, kL_61, kW_24_1, kW_24_2, kW_24_3, kW_24_4, kW_24_5, kW_24_6, kW_24_7, kW_24_8, kW_24_9, kW_24_10, kW_24_11, kW_24_12, kW_24_14, kW_24_15, kW_24_16, kW_24_17, kW_24_18, kW_24_19, kW_24_21, kW_24_22, kW_24_23, kW_24_25, kW_24_26, kW_24_27, kW_24_28, kW_24_29, kW_24_31, kW_24_32, kW_24_33, kW_24_34, kW_24_36, kW_24_37, kW_24_44, kW_24_49, kW_24_50, kW_24_51, kW_24_52, kI_24, kI_w24, kI_25, kI_w25, kI_26, kI_w26, kI_27, kI_w27, kI_28, kI_w28, kI_29, kI_w29, kI_30, kI_w30, kI_31, kI_w31, kI_32, kI_w32, kI_33, kI_w33, kI_34, kI_w34, kI_35, kI_w35, kI_36, kI_w36, kI_37, kI_w37, kI_38, kI_w38, kI_39, kI_w39, kI_40, kI_w40, kI_41, kI_w41, kI_42, kI_w42, kI_43, kI_w43, kI_44, kI_w44, kI_45, kI_w45, kI_46, kI_w46, kI_47, kI_w47, kI_48, kI_w48, kI_49, kI_w49, kI_50, kI_w50, kI_51, kI_w51, kI_52, kI_w52, kI_53, kI_w53, kI_54, kI_w54, kI_55, kI_w55, kI_56, kI_w56, kI_57, kI_w57, kI_58, kI_w58, kI_59, kI_w59, kI_60, kI_w60, kI_61, kI_w61, kFs_o (s := s) (G := G) (v := v) (j := 0) (by decide) (by decide) (by decide) (by decide), hn, ix_le n1 (show k < 2147483648 by omega), show n ≤ k by omega, ex_ite, exists_and_left, exists_const, exists_and_right]
  | p, m + 1, k, G, hk, hl, hc, he => by
    have hk' : k < n := by omega
    have k1 : k < 2147483648 := by omega
    have n1 : n < 2147483648 := by omega
    have z0 : kFs s G v 0 = s 0 := kFs_o (by decide) (by decide) (by decide) (by decide)
    have z1 : kFs s G v 1 = s 1 := kFs_o (by decide) (by decide) (by decide) (by decide)
    have z3 : kFs s G v 3 = s 3 := kFs_o (by decide) (by decide) (by decide) (by decide)
    have z4 : kFs s G v 4 = s 4 := kFs_o (by decide) (by decide) (by decide) (by decide)
    have next : (¬ (G k = false ∧ s 6 k = 0 ∧ s 0 0 < s 4 k ∧ ∃ j, j < n ∧ s 1 k = nI j ∧ (j = o ∨ G j = true))) → (∃ fe, vb_X12_fall_5 post fe (B + 24) (nI o) v (nI (kNm G n 0)) (nI (k + 1)) (kT B t, kL B l, kI B i c (kFs s G v), kW B r u, kI B q g w, x)) = post (nI (kNm F n 0)) (kT B t, kL B l, kI B i c (kFs s F v), kW B r u, kI B q g w, x) := fun hne =>
      ml_fall (v := v) (post := post) hn h40 ho hout F1 F2 R p m (k + 1) G (by omega) hl hc (fun h hh => by
        by_cases e1 : h = k
        · subst e1; exact hne
        · exact he h (by omega))
    have found : G k = false → (s 6 k = 0 ∧ s 0 0 < s 4 k ∧ ∃ j, j < n ∧ s 1 k = nI j ∧ (j = o ∨ G j = true)) → (∃ fe, vb_X12_fall_5 post fe (B + 24) (nI o) v (nI (kNm G n 0 + 1)) (nI 0) (kT B t, kL B l, kI B i c (kFs s (fun h => decide (h = k) || G h) v), kW B r u, kI B q g w, x)) = post (nI (kNm F n 0)) (kT B t, kL B l, kI B i c (kFs s F v), kW B r u, kI B q g w, x) := fun hg hf => by
      obtain ⟨f1, f2, j, hj, f3, f4⟩ := hf
      have hF : F k = true := (F1 k hk').mpr ⟨f1, f2, j, hj, f3, by
        rcases f4 with f4 | f4
        · exact .inl f4
        · exact .inr (hl j f4)⟩
      have hl' : ∀ h, (fun h => decide (h = k) || G h) h = true → F h = true := fun h hh => by
        simp only [Bool.or_eq_true, decide_eq_true_eq] at hh
        rcases hh with hh | hh
        · rw [hh]; exact hF
        · exact hl h hh
      have hadd := kNm_add hg (m := n) (k := 0) (by omega) (by omega)
      have hle := kNm_le hl' (m := n) (k := 0)
      have hp0 : 0 < p := by omega
      have := ml_fall (v := v) (post := post) hn h40 ho hout F1 F2 R (p - 1) n 0 (fun h => decide (h = k) || G h) (by omega) hl' (by omega) (fun h hh => by omega)
      rw [hadd] at this
      exact this
    have em : ((-1 : Int32) + 1) = nI 0 := by decide
    have d4 : ((4 : Int32) = 0) = False := eq_false (by decide)
    rw [ex_succ rfl]
    simp only [vb_X12_fall_5, vb_X12_fall_90, mq_tag, mq_len, mq_i, mq_r, mq_l, mq_nx, mq_wi, mq_wr, mq_wl, true_and, and_true, and_false, false_and, and_self, ↓reduceIte, kT_24, kT_25, kT_26, kT_27, kT_28, kT_29, kT_30, kT_31, kT_32, kT_33, kT_34, kT_35, kT_36, kT_37, kT_38, kT_39, kT_40, kT_41, kT_42, kT_43, kT_44, kT_45, kT_46, kT_47, kT_48, kT_49, kT_50, kT_51, kT_52, kT_53, kT_54, kT_55, kT_56, kT_57, kT_58, kT_59, kT_60, kT_61, kL_25, kL_26, kL_27, kL_28, kL_29, kL_30, kL_31, kL_32, kL_33, kL_34, kL_35, kL_36, kL_37, kL_38, kL_39, kL_40, kL_41, kL_42, kL_43, kL_44, kL_45, kL_46, kL_47, kL_48, kL_49, kL_50, kL_51, kL_52, kL_53, kL_54, kL_55, kL_56, kL_57, kL_58, kL_59, kL_60, kL_61, kW_24_1, kW_24_2, kW_24_3, kW_24_4, kW_24_5, kW_24_6, kW_24_7, kW_24_8, kW_24_9, kW_24_10, kW_24_11, kW_24_12, kW_24_14, kW_24_15, kW_24_16, kW_24_17, kW_24_18, kW_24_19, kW_24_21, kW_24_22, kW_24_23, kW_24_25, kW_24_26, kW_24_27, kW_24_28, kW_24_29, kW_24_31, kW_24_32, kW_24_33, kW_24_34, kW_24_36, kW_24_37, kW_24_44, kW_24_49, kW_24_50, kW_24_51, kW_24_52, kI_24, kI_w24, kI_25, kI_w25, kI_26, kI_w26, kI_27, kI_w27, kI_28, kI_w28, kI_29, kI_w29, kI_30, kI_w30, kI_31, kI_w31, kI_32, kI_w32, kI_33, kI_w33, kI_34, kI_w34, kI_35, kI_w35, kI_36, kI_w36, kI_37, kI_w37, kI_38, kI_w38, kI_39, kI_w39, kI_40, kI_w40, kI_41, kI_w41, kI_42, kI_w42, kI_43, kI_w43, kI_44, kI_w44, kI_45, kI_w45, kI_46, kI_w46, kI_47, kI_w47, kI_48, kI_w48, kI_49, kI_w49, kI_50, kI_w50, kI_51, kI_w51, kI_52, kI_w52, kI_53, kI_w53, kI_54, kI_w54, kI_55, kI_w55, kI_56, kI_w56, kI_57, kI_w57, kI_58, kI_w58, kI_59, kI_w59, kI_60, kI_w60, kI_61, kI_w61, z0, z1, z3, z4, hn, ix_le n1 k1, show ¬ n ≤ k by omega, ix_in k1, ix_nat k1, show k < 40 by omega, nI_1, m_greater, m_close (show k < 40 by omega), em, kFs_6, mq_u2n, mq_u2k, ne_eq, Nat.reduceEqDiff, not_false_eq_true, ex_ite, exists_and_left, exists_const, exists_and_right]
    cases hg : G k with
    | true =>
      simp only [↓reduceIte, d4]
      exact next (fun z => by rw [hg] at z; exact absurd z.1 (by decide))
    | false =>
      simp only [Bool.false_eq_true, ↓reduceIte]
      by_cases w0 : s 6 k = 0
      · by_cases tt : s 4 k ≤ s 0 0
        · simp only [w0, tt, ↓reduceIte]
          exact next (fun z => absurd z.2.2.1 (Int32.not_lt.mpr tt))
        · have tt2 : s 0 0 < s 4 k := Int32.not_le.mp tt
          simp only [w0, tt, ↓reduceIte]
          rcases hout k hk' with y | ⟨j, hj, y⟩
          · simp only [y, show ((-1 : Int32) < 0) = True from eq_true (by decide), ↓reduceIte]
            refine next (fun z => ?_)
            obtain ⟨_, _, _, j, hj, y2, _⟩ := z
            rw [y] at y2; exact absurd y2.symm (by rw [ix_m1 (by omega)]; exact id)
          · have j1 : j < 2147483648 := by omega
            simp only [y, ix_neg j1, ix_eq j1 (show o < 2147483648 by omega), ix_in j1, ix_nat j1, show j < 40 by omega, kFs_31 (show j < 40 by omega), ↓reduceIte, true_and]
            have up := kFs_up (s := s) (G := G) (v := v) (show k < 40 by omega) hg
            by_cases jo : j = o
            · simp only [jo, ↓reduceIte, up]
              exact found hg ⟨w0, tt2, j, hj, y, .inl jo⟩
            · simp only [jo, ↓reduceIte]
              cases hgj : G j with
              | true =>
                simp only [↓reduceIte, up, show (mj_b true = 0) = False from eq_false (by decide)]
                exact found hg ⟨w0, tt2, j, hj, y, .inr hgj⟩
              | false =>
                simp only [Bool.false_eq_true, ↓reduceIte, show (mj_b false = 0) = True from eq_true (by decide)]
                have nx := next (fun z => by
                  obtain ⟨_, _, _, j', hj', y2, y3⟩ := z
                  rw [y, ix_eq j1 (by omega)] at y2
                  subst y2
                  rcases y3 with y3 | y3
                  · exact jo y3
                  · rw [hgj] at y3; cases y3)
                rw [nx]; split <;> rfl
      · simp only [w0, ↓reduceIte]
        exact next (fun z => w0 z.2.1)
  termination_by p m => (p, m)
def kZr (s : Nat → Nat → Int32) (k : Nat) : Nat → Nat → Int32 := fun j h => if j = 31 ∧ k ≤ h ∧ h < 40 then 0 else s j h
theorem ml_zero {o v : Int32} {post : Int32 → mj_M → Prop} : ∀ (m k : Nat) (s : Nat → Nat → Int32), k + m = 40 → (∃ fe, vb_X12_fallAll_2 post fe (B + 24) o v (nI k) (kT B t, kL B l, kI B i c s, kW B r u, kI B q g w, x)) = vc_X12_fall (B + 24) o v (kT B t, kL B l, kI B i c (kZr s k), kW B r u, kI B q g w, x) post
  | 0, k, s, hk => by
    have e1 : kZr s k = s := by funext j h; unfold kZr; rw [if_neg (by omega)]
    rw [ex_succ rfl, e1]
    simp only [vb_X12_fallAll_2, mq_tag, mq_len, mq_i, mq_r, mq_l, mq_nx, mq_wi, mq_wr, mq_wl, true_and, and_true, and_false, false_and, and_self, ↓reduceIte, kT_24, kT_25, kT_26, kT_27, kT_28, kT_29, kT_30, kT_31, kT_32, kT_33, kT_34, kT_35, kT_36, kT_37, kT_38, kT_39, kT_40, kT_41, kT_42, kT_43, kT_44, kT_45, kT_46, kT_47, kT_48, kT_49, kT_50, kT_51, kT_52, kT_53, kT_54, kT_55, kT_56, kT_57, kT_58, kT_59, kT_60, kT_61, kL_25, kL_26, kL_27, kL_28, kL_29, kL_30, kL_31, kL_32, kL_33, kL_34, kL_35, kL_36, kL_37, kL_38, kL_39, kL_40, kL_41, kL_42, kL_43, kL_44, kL_45, kL_46, kL_47, kL_48, kL_49, kL_50, kL_51, kL_52, kL_53, kL_54, kL_55, kL_56, kL_57, kL_58, kL_59, kL_60, kL_61, kW_24_1, kW_24_2, kW_24_3, kW_24_4, kW_24_5, kW_24_6, kW_24_7, kW_24_8, kW_24_9, kW_24_10, kW_24_11, kW_24_12, kW_24_14, kW_24_15, kW_24_16, kW_24_17, kW_24_18, kW_24_19, kW_24_21, kW_24_22, kW_24_23, kW_24_25, kW_24_26, kW_24_27, kW_24_28, kW_24_29, kW_24_31, kW_24_32, kW_24_33, kW_24_34, kW_24_36, kW_24_37, kW_24_44, kW_24_49, kW_24_50, kW_24_51, kW_24_52, kI_24, kI_w24, kI_25, kI_w25, kI_26, kI_w26, kI_27, kI_w27, kI_28, kI_w28, kI_29, kI_w29, kI_30, kI_w30, kI_31, kI_w31, kI_32, kI_w32, kI_33, kI_w33, kI_34, kI_w34, kI_35, kI_w35, kI_36, kI_w36, kI_37, kI_w37, kI_38, kI_w38, kI_39, kI_w39, kI_40, kI_w40, kI_41, kI_w41, kI_42, kI_w42, kI_43, kI_w43, kI_44, kI_w44, kI_45, kI_w45, kI_46, kI_w46, kI_47, kI_w47, kI_48, kI_w48, kI_49, kI_w49, kI_50, kI_w50, kI_51, kI_w51, kI_52, kI_w52, kI_53, kI_w53, kI_54, kI_w54, kI_55, kI_w55, kI_56, kI_w56, kI_57, kI_w57, kI_58, kI_w58, kI_59, kI_w59, kI_60, kI_w60, kI_61, kI_w61, show (40 : Int32) = nI 40 by decide, ix_le (show 40 < 2147483648 by decide) (show k < 2147483648 by omega), show 40 ≤ k by omega, ex_ite, exists_and_left, exists_const, exists_and_right]
  | m + 1, k, s, hk => by
    have k1 : k < 2147483648 := by omega
    have e1 : kZr (mj_u2 s 31 k (mj_b false)) (k + 1) = kZr s k := by
      funext j h
      unfold kZr
      by_cases hj : j = 31
      · by_cases hh : h = k
        · subst hh; rw [if_neg (by omega), if_pos (by omega), hj, mq_u2s]; rfl
        · rw [mq_u2k hh]
          by_cases h2 : k ≤ h ∧ h < 40
          · rw [if_pos (by omega), if_pos (by omega)]
          · rw [if_neg (by omega), if_neg (by omega)]
      · rw [if_neg (by omega), if_neg (by omega), mq_u2n hj]
    have I := ml_zero (o := o) (v := v) (post := post) m (k + 1) (mj_u2 s 31 k (mj_b false)) (by omega)
    rw [ex_succ rfl]
    simp only [vb_X12_fallAll_2, mq_tag, mq_len, mq_i, mq_r, mq_l, mq_nx, mq_wi, mq_wr, mq_wl, true_and, and_true, and_false, false_and, and_self, ↓reduceIte, kT_24, kT_25, kT_26, kT_27, kT_28, kT_29, kT_30, kT_31, kT_32, kT_33, kT_34, kT_35, kT_36, kT_37, kT_38, kT_39, kT_40, kT_41, kT_42, kT_43, kT_44, kT_45, kT_46, kT_47, kT_48, kT_49, kT_50, kT_51, kT_52, kT_53, kT_54, kT_55, kT_56, kT_57, kT_58, kT_59, kT_60, kT_61, kL_25, kL_26, kL_27, kL_28, kL_29, kL_30, kL_31, kL_32, kL_33, kL_34, kL_35, kL_36, kL_37, kL_38, kL_39, kL_40, kL_41, kL_42, kL_43, kL_44, kL_45, kL_46, kL_47, kL_48, kL_49, kL_50, kL_51, kL_52, kL_53, kL_54, kL_55, kL_56, kL_57, kL_58, kL_59, kL_60, kL_61, kW_24_1, kW_24_2, kW_24_3, kW_24_4, kW_24_5, kW_24_6, kW_24_7, kW_24_8, kW_24_9, kW_24_10, kW_24_11, kW_24_12, kW_24_14, kW_24_15, kW_24_16, kW_24_17, kW_24_18, kW_24_19, kW_24_21, kW_24_22, kW_24_23, kW_24_25, kW_24_26, kW_24_27, kW_24_28, kW_24_29, kW_24_31, kW_24_32, kW_24_33, kW_24_34, kW_24_36, kW_24_37, kW_24_44, kW_24_49, kW_24_50, kW_24_51, kW_24_52, kI_24, kI_w24, kI_25, kI_w25, kI_26, kI_w26, kI_27, kI_w27, kI_28, kI_w28, kI_29, kI_w29, kI_30, kI_w30, kI_31, kI_w31, kI_32, kI_w32, kI_33, kI_w33, kI_34, kI_w34, kI_35, kI_w35, kI_36, kI_w36, kI_37, kI_w37, kI_38, kI_w38, kI_39, kI_w39, kI_40, kI_w40, kI_41, kI_w41, kI_42, kI_w42, kI_43, kI_w43, kI_44, kI_w44, kI_45, kI_w45, kI_46, kI_w46, kI_47, kI_w47, kI_48, kI_w48, kI_49, kI_w49, kI_50, kI_w50, kI_51, kI_w51, kI_52, kI_w52, kI_53, kI_w53, kI_54, kI_w54, kI_55, kI_w55, kI_56, kI_w56, kI_57, kI_w57, kI_58, kI_w58, kI_59, kI_w59, kI_60, kI_w60, kI_61, kI_w61, show (40 : Int32) = nI 40 by decide, ix_le (show 40 < 2147483648 by decide) k1, show ¬ 40 ≤ k by omega, ix_in k1, ix_nat k1, show k < 40 by omega, nI_1, ex_ite, exists_and_left, exists_const, exists_and_right]
    rw [I, e1]
theorem m_fallAll {s : Nat → Nat → Int32} {F : Nat → Bool} {o : Nat} {v : Int32} (hn : s 0 13 = nI n) (h40 : n ≤ 40) (ho : o < n) (hout : ∀ h, h < n → s 1 h = -1 ∨ ∃ k, k < n ∧ s 1 h = nI k)
    (F1 : ∀ h, h < n → (F h = true ↔ (s 6 h = 0 ∧ s 0 0 < s 4 h ∧ ∃ k, k < n ∧ s 1 h = nI k ∧ (k = o ∨ F k = true)))) (F2 : ∀ h, n ≤ h → F h = false) {rk : Nat → Nat} (R : ∀ h, h < n → rk h < n ∧ ∀ k, k < n → s 1 h = nI k → rk k < rk h) {post : Int32 → mj_M → Prop} :
    vc_X12_fallAll (B + 24) (nI o) v (kT B t, kL B l, kI B i c s, kW B r u, kI B q g w, x) post = post (nI (kNm F n 0)) (kT B t, kL B l, kI B i c (kFs s F v), kW B r u, kI B q g w, x) := by
  have e1 : kZr s 0 = kFs s (fun _ => false) v := by
    funext j h
    unfold kZr kFs
    by_cases hj : j = 31
    · subst hj
      by_cases hh : h < 40
      · rw [if_pos (by omega), if_pos rfl, if_pos hh]; rfl
      · rw [if_neg (by omega), if_pos rfl, if_neg hh]
    · rw [if_neg (by omega), if_neg hj]; rfl
  have e2 : ∀ m k, kNm (fun _ => false) m k = 0 := by
    intro m
    induction m with
    | zero => intro k; rfl
    | succ m ih => intro k; simp only [kNm, ih]; rfl
  unfold vc_X12_fallAll
  rw [← nI_0, ml_zero 40 0 s (by omega), e1]
  unfold vc_X12_fall
  have h := ml_fall (B := B) (t := t) (l := l) (u := u) (i := i) (c := c) (r := r) (q := q) (g := g) (w := w) (x := x) (post := post) (v := v) hn h40 ho hout F1 F2 R (kNm F n 0) n 0 (fun _ => false) (by omega) (fun h hh => by cases hh) (by rw [e2]; omega) (fun h hh => by omega)
  rw [e2, nI_0] at h
  exact h
end

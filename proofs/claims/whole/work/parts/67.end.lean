/-! STAGE B: ends -/
def kCut (s : Nat → Nat → Int32) (Rt F : Nat → Bool) (w : Nat → Int32) (v : Int32) : Nat → Nat → Int32 := fun j h =>
  if j = 6 then (if Rt h = true then w h else if F h = true then 4 else s 6 h)
  else if j = 5 then (if Rt h = true then s 0 0 else if F h = true then imx (s 0 0) (s 3 h) else s 5 h)
  else if j = 12 then (if F h = true then v else s 12 h)
  else s j h
theorem imx_or (a b : Int32) : (imx a b = a ∧ b ≤ a) ∨ (imx a b = b ∧ a < b) := by
  unfold imx
  by_cases h : a < b
  · rw [if_pos h]; exact .inr ⟨rfl, h⟩
  · rw [if_neg h]; exact .inl ⟨rfl, Int32.not_lt.mp h⟩
theorem kHo.cut {s : Nat → Nat → Int32} {n : Nat} {Rt F : Nat → Bool} {w : Nat → Int32} {v : Int32} (h : kHo s n) (hn : n ≤ 40)
    (h1 : ∀ h, h < n → Rt h = true → F h = false ∧ s 6 h = 0 ∧ s 3 h ≤ s 0 0 ∧ s 1 h ≠ -1 ∧ (0 ≤ w h ∧ w h ≤ 5) ∧ w h ≠ 0 ∧ w h ≠ 4)
    (h2 : ∀ h, h < n → F h = true → s 6 h = 0 ∧ ∃ k, k < n ∧ s 1 h = nI k ∧ (F k = true ∨ (Rt k = true ∧ ((v = -6 ∧ w k = 5) ∨ (v = nI k ∧ w k = 2)))))
    (h3 : ∀ h k, h < n → k < n → s 1 h = nI k → s 6 h = 0 → s 0 0 < s 4 h → (Rt k = true ∨ F k = true) → (Rt h = true ∨ F h = true))
    (hv : v = -6 ∨ ∃ k, k < n ∧ v = nI k) : kHo (kCut s Rt F w v) n := by
  obtain ⟨a1, a2, a3, a4⟩ := h
  have e0 : kCut s Rt F w v 0 = s 0 := rfl
  have e1 : kCut s Rt F w v 1 = s 1 := rfl
  have e2 : kCut s Rt F w v 2 = s 2 := rfl
  have e3 : kCut s Rt F w v 3 = s 3 := rfl
  have e4 : kCut s Rt F w v 4 = s 4 := rfl
  have e5 : ∀ h, kCut s Rt F w v 5 h = (if Rt h = true then s 0 0 else if F h = true then imx (s 0 0) (s 3 h) else s 5 h) := fun _ => rfl
  have e6 : ∀ h, kCut s Rt F w v 6 h = (if Rt h = true then w h else if F h = true then 4 else s 6 h) := fun _ => rfl
  have e12 : ∀ h, kCut s Rt F w v 12 h = (if F h = true then v else s 12 h) := fun _ => rfl
  have t1 := a1
  refine ⟨a1, fun h hh => ?_, a3, fun h hh => ?_⟩
  · obtain ⟨q1, q2, q3, q4, q5, q6, q7, q8, q9, q10, q11⟩ := a2 h hh
    refine ⟨q1, q2, q3, ?_, ?_, q6, q7, q8, q9, q10, ?_⟩
    · rw [e5]
      split
      · exact a1
      · split
        · rcases imx_or (s 0 0) (s 3 h) with ⟨z, _⟩ | ⟨z, z2⟩
          · rw [z]; exact a1
          · rw [z]; refine ⟨q3.1, ?_⟩
            have := q3.2.1; have := q3.2.2
            rw [i_lt] at *; rw [i_le] at *; omega
        · exact q4
    · rw [e6]
      split
      · rename_i z; exact (h1 h hh z).2.2.2.2.1
      · split
        · exact ⟨by decide, by decide⟩
        · exact q5
    · rw [e12]; split
      · exact hv
      · exact q11
  · obtain ⟨q1, q2, q3, q4, q5⟩ := a4 h hh
    unfold kR2
    rw [e0, e1, e3, e4, e5, e6, e12]
    by_cases hR : Rt h = true
    · obtain ⟨r1, r2, r3, r4, r5, r6, r7⟩ := h1 h hh hR
      have hF : ¬ F h = true := by rw [r1]; decide
      rw [if_pos hR, if_pos hR, if_neg hF]
      refine ⟨fun _ _ => ⟨Int32.le_refl _, r3⟩, fun z => ?_, fun z => absurd z r7, fun z => absurd z r4, fun k hk he => ?_⟩
      · have := q2 z; rw [r2] at this; exact absurd this (by decide)
      · obtain ⟨p1, p2, p3, p4, p5⟩ := q5 k hk he
        exact ⟨p1, p2, fun z => absurd z r6, fun z => absurd z r6, fun z => absurd z r7⟩
    · rw [if_neg hR, if_neg hR]
      by_cases hF : F h = true
      · obtain ⟨r1, k', hk', r2, r3⟩ := h2 h hh hF
        rw [if_pos hF, if_pos hF, if_pos hF]
        refine ⟨fun _ z => absurd rfl z, fun _ => rfl, fun _ => ?_, fun z => ?_, fun k hk he => ?_⟩
        · rcases imx_or (s 0 0) (s 3 h) with ⟨z, _⟩ | ⟨z, _⟩
          · left; rw [z]; exact Int32.le_refl _
          · right; exact z
        · rw [z] at r2; exact absurd r2.symm (by rw [ix_m1 (by omega)]; exact id)
        · rw [r2, ix_eq (by omega) (by omega)] at he
          subst he
          obtain ⟨p1, p2, p3, p4, p5⟩ := q5 _ hk r2
          have d4 : ¬ ((4 : Int32) = 0) := by decide
          refine ⟨p1, p2, fun z => absurd z d4, fun z => absurd z d4, fun _ => ?_⟩
          rw [e6, e12]
          rcases r3 with r3 | ⟨r3, r4⟩
          · have hRk : ¬ Rt k' = true := fun z => by have := (h1 k' hk z).1; rw [r3] at this; cases this
            rw [if_neg hRk, if_pos r3, if_pos r3]
            exact ⟨fun z => .inr ⟨rfl, z⟩, fun m hm z => .inr ⟨rfl, z⟩⟩
          · have hFk : ¬ F k' = true := fun z => by have := (h1 k' hk r3).1; rw [z] at this; cases this
            rw [if_pos r3, if_neg hFk]
            rcases r4 with ⟨r4, r5⟩ | ⟨r4, r5⟩
            · refine ⟨fun _ => .inl r5, fun m hm z => ?_⟩
              rw [r4] at z; exact absurd z.symm (by rw [ix_m6 (by omega)]; exact id)
            · refine ⟨fun z => ?_, fun m hm z => ?_⟩
              · rw [r4] at z; exact absurd z (by rw [ix_m6 (by omega)]; exact id)
              · rw [r4, ix_eq (by omega) (by omega)] at z; exact .inl ⟨z, r5⟩
      · rw [if_neg hF, if_neg hF, if_neg hF]
        refine ⟨q1, q2, q3, q4, fun k hk he => ?_⟩
        obtain ⟨p1, p2, p3, p4, p5⟩ := q5 k hk he
        refine ⟨p1, p2, fun z y => ?_, fun z y => ?_, fun z => ?_⟩
        · by_cases hS : Rt k = true ∨ F k = true
          · by_cases hT : s 0 0 < s 4 h
            · rcases h3 h k hh hk he z hT hS with g | g
              · exact absurd g hR
              · exact absurd g hF
            · unfold kun
              rw [e6, e4, e5]
              rw [i_lt] at hT
              by_cases hRk : Rt k = true
              · rw [if_pos hRk, if_pos hRk, if_neg (h1 k hk hRk).2.2.2.2.2.1, i_le]; omega
              · have hFk := hS.resolve_left hRk
                rw [if_neg hRk, if_neg hRk, if_pos hFk, if_pos hFk, if_neg (by decide)]
                rcases imx_or (s 0 0) (s 3 k) with ⟨g, _⟩ | ⟨g, g2⟩
                · rw [g, i_le]; omega
                · rw [g, i_le]; rw [i_lt] at g2; omega
          · have hRk : ¬ Rt k = true := fun g => hS (.inl g)
            have hFk : ¬ F k = true := fun g => hS (.inr g)
            unfold kun
            rw [e6, e4, e5, if_neg hRk, if_neg hRk, if_neg hFk, if_neg hFk]
            exact p3 z y
        · rw [e6]
          by_cases hS : Rt k = true ∨ F k = true
          · rcases h3 h k hh hk he z y hS with g | g
            · exact absurd g hR
            · exact absurd g hF
          · have hRk : ¬ Rt k = true := fun g => hS (.inl g)
            have hFk : ¬ F k = true := fun g => hS (.inr g)
            rw [if_neg hRk, if_neg hFk]; exact p4 z y
        · obtain ⟨p6, p7⟩ := p5 z
          have nz : s 6 k ≠ 0 → ¬ Rt k = true ∧ ¬ F k = true := fun g => ⟨fun g2 => g (h1 k hk g2).2.1, fun g2 => g (h2 k hk g2).1⟩
          rw [e6, e12]
          refine ⟨fun y => ?_, fun m hm y => ?_⟩
          · have h0 := p6 y
            obtain ⟨n1, n2⟩ := nz (by rcases h0 with g | ⟨g, _⟩ <;> rw [g] <;> decide)
            rw [if_neg n1, if_neg n2, if_neg n2]; exact h0
          · have h0 := p7 m hm y
            obtain ⟨n1, n2⟩ := nz (by rcases h0 with ⟨_, g⟩ | ⟨g, _⟩ <;> rw [g] <;> decide)
            rw [if_neg n1, if_neg n2, if_neg n2]; exact h0
/-- what is out of one, and ends later than today -/
def kCh (e : Nat → Nat → Int32) (o d : Int32) : Nat → Bool := fun h => decide (e 1 h = o) && decide (d < kun e h)
theorem kun_1 {s : Nat → Nat → Int32} {k : Nat} {v : Int32} : kun (mj_u2 s 1 k v) = kun s := kun_to (mj_u2_ne _ (by decide)) (mj_u2_ne _ (by decide)) (mj_u2_ne _ (by decide))
def kCnt (cond : Nat → Bool) : Nat → Nat → Int32 → Int32 := kFold (fun h a => a + mj_b (cond h))
theorem kCnt_c {cond cond' : Nat → Bool} {m k : Nat} {a : Int32} (he : ∀ h, k ≤ h → h < k + m → cond' h = cond h) : kCnt cond' m k a = kCnt cond m k a := kFold_congr fun h b h1 h2 => by rw [he h h1 h2]
section
variable {B x n na nn : Nat} {A AA AT AN : Nat → Nat} {t l u : Nat → Nat} {i c s : Nat → Nat → Int32} {q g w : Nat → Nat → Int64}
theorem cl_hand {k0 kv : Nat} (hk0 : k0 < n) (hkv : kv < n) {post : Int32 → mj_M → Prop} : ∀ m k (a : Int32) (e : Nat → Nat → Int32) (r : Nat → Nat → Nat), k + m = n → kCD B A AA AT AN n na nn e t l i r x →
    (∀ r', kCD B A AA AT AN n na nn (kMvc e (kCh e (nI k0) (c 1 0)) m k (nI kv)) t l i r' x → post (kCnt (kCh e (nI k0) (c 1 0)) m k a) (kT B t, kL B l, kI B i c s, kW B r' u, kI B q g w, x)) →
    ∃ fe, vb_X4_handOver_8 post fe (B + 1) (A k0) (A kv) a (kP A n k) (kT B t, kL B l, kI B i c s, kW B r u, kI B q g w, x)
  | 0, k, a, e, r, hk, H, hp => by
    refine ex_imp ⟨0, ?_⟩
    simp only [vb_X4_handOver_8, kP_ge (show n ≤ k by omega), ↓reduceIte]
    have := hp r (by rw [kMvc_0]; exact H)
    exact this
  | m + 1, k, a, e, r, hk, H, hp => by
    have hk' : k < n := by omega
    have h40 := H.n40
    have e4 : kW B (mj_u2 r (A k) 2 (A kv)) u (A k) 1 = kP A n (k + 1) := (kW_o (H.AH hk')).trans ((mq_u2k (by decide)).trans (H.2.2.2.2.1 k hk').2.2.1)
    rw [ex_succ rfl]
    simp only [vb_X4_handOver_8, kP_lt hk', mq_tag, mq_len, mq_i, mq_r, mq_l, mq_nx, mq_wi, mq_wr, mq_wl, true_and, and_true, and_false, false_and, and_self, ↓reduceIte, kT_0, kT_1, kT_2, kT_3, kT_4, kT_5, kT_6, kT_7, kT_8, kT_9, kT_10, kT_11, kT_12, kT_13, kT_14, kT_15, kT_16, kT_17, kT_18, kT_19, kT_20, kT_21, kT_22, kT_23, kL_2, kL_3, kL_5, kL_10, kL_11, kL_12, kL_14, kL_15, kL_17, kL_18, kL_19, kL_20, kL_21, kL_22, kL_23, kW_0_0, kW_0_1, kW_0_2, kW_0_3, kW_0_4, kW_0_5, kW_0_6, kW_0_7, kW_1_4, kW_1_5, kW_4_0, kW_4_1, kW_9_0, kW_9_1, kW_9_2, kW_13_0, kW_13_1, kW_16_0, kW_16_1, kW_16_2, kW_16_3, kW_16_4, kW_16_5, kW_1_1, kW_1_2, kW_4_4, kW_8_0, kW_8_1, kW_w1_1, kW_w1_2, kW_w4_4, kW_w8_0, kW_w8_1, kI_0, kI_w0, kI_1, kI_w1, kI_2, kI_w2, kI_3, kI_w3, kI_4, kI_w4, kI_5, kI_w5, kI_6, kI_w6, kI_7, kI_w7, kI_8, kI_w8, kI_9, kI_w9, kI_10, kI_w10, kI_11, kI_w11, kI_12, kI_w12, kI_13, kI_w13, kI_14, kI_w14, kI_15, kI_w15, kI_16, kI_w16, kI_17, kI_w17, kI_18, kI_w18, kI_19, kI_w19, kI_20, kI_w20, kI_21, kI_w21, kI_22, kI_w22, kI_23, kI_w23, H.atT hk', H.atI hk', H.atW hk', H.RH (H.V1 hk') hk0, c_until H hk', kW_wo (H.AH hk'), e4, ex_ite, exists_and_left, exists_const, exists_and_right]
    by_cases q1 : e 1 k = nI k0
    · by_cases q2 : kun e k ≤ c 1 0
      · have hc : kCh e (nI k0) (c 1 0) k = false := by
          have : ¬ c 1 0 < kun e k := Int32.not_lt.mpr q2
          simp only [kCh, q1, this, true_or, or_true, false_or, or_false, not_true_eq_false, not_false_eq_true, true_and, and_true, false_and, and_false, and_self, decide_true, decide_false, ↓reduceIte, Bool.true_and, Bool.false_and, Bool.and_true, Bool.and_false, Bool.not_true, Bool.not_false, Bool.false_eq_true, Bool.true_or, Bool.or_true, Bool.false_or, Bool.or_false, reduceCtorEq, Bool.and_self, Bool.or_self, ne_eq]
        simp only [q1, q2, ↓reduceIte]
        refine cl_hand hk0 hkv m (k + 1) a e r (by omega) H fun r' h => ?_
        have h2 := hp r' (by rw [kMvc_f hc]; exact h)
        rwa [show kCnt (kCh e (nI k0) (c 1 0)) (m + 1) k a = kCnt (kCh e (nI k0) (c 1 0)) m (k + 1) a by
          show kCnt _ m (k + 1) (a + mj_b (kCh e (nI k0) (c 1 0) k)) = _
          rw [hc]; simp [mj_b]] at h2
      · have hc : kCh e (nI k0) (c 1 0) k = true := by
          have : c 1 0 < kun e k := Int32.not_le.mp q2
          simp only [kCh, q1, this, true_or, or_true, false_or, or_false, not_true_eq_false, not_false_eq_true, true_and, and_true, false_and, and_false, and_self, decide_true, decide_false, ↓reduceIte, Bool.true_and, Bool.false_and, Bool.and_true, Bool.and_false, Bool.not_true, Bool.not_false, Bool.false_eq_true, Bool.true_or, Bool.or_true, Bool.false_or, Bool.or_false, reduceCtorEq, Bool.and_self, Bool.or_self, ne_eq]
        have ec : ∀ h, k < h → kCh (mj_u2 e 1 k (nI kv)) (nI k0) (c 1 0) h = kCh e (nI k0) (c 1 0) h := fun h hh => by
          unfold kCh; rw [kun_1, mq_u2k (by omega)]
        simp only [q1, q2, ↓reduceIte]
        have H2 := H.w1 hk' (kV_I hkv)
        rw [kR_I (by omega)] at H2
        refine cl_hand hk0 hkv m (k + 1) (a + 1) _ _ (by omega) H2 fun r' h => ?_
        have h2 := hp r' (by rw [kMvc_t hc ec]; exact h)
        rw [show kCnt (kCh e (nI k0) (c 1 0)) (m + 1) k a = kCnt (kCh (mj_u2 e 1 k (nI kv)) (nI k0) (c 1 0)) m (k + 1) (a + 1) by
          show kCnt _ m (k + 1) (a + mj_b (kCh e (nI k0) (c 1 0) k)) = _
          rw [hc, kCnt_c (fun h h1 h2 => ec h (by omega))]; rfl] at h2
        exact h2
    · have hc : kCh e (nI k0) (c 1 0) k = false := by simp only [kCh, q1, true_or, or_true, false_or, or_false, not_true_eq_false, not_false_eq_true, true_and, and_true, false_and, and_false, and_self, decide_true, decide_false, ↓reduceIte, Bool.true_and, Bool.false_and, Bool.and_true, Bool.and_false, Bool.not_true, Bool.not_false, Bool.false_eq_true, Bool.true_or, Bool.or_true, Bool.false_or, Bool.or_false, reduceCtorEq, Bool.and_self, Bool.or_self, ne_eq]
      simp only [q1, ↓reduceIte]
      refine cl_hand hk0 hkv m (k + 1) a e r (by omega) H fun r' h => ?_
      have h2 := hp r' (by rw [kMvc_f hc]; exact h)
      rwa [show kCnt (kCh e (nI k0) (c 1 0)) (m + 1) k a = kCnt (kCh e (nI k0) (c 1 0)) m (k + 1) a by
        show kCnt _ m (k + 1) (a + mj_b (kCh e (nI k0) (c 1 0) k)) = _
        rw [hc]; simp [mj_b]] at h2
theorem c_hand {k0 kv : Nat} {e : Nat → Nat → Int32} {r : Nat → Nat → Nat} (H : kCD B A AA AT AN n na nn e t l i r x) (U : kU A AA AN n na nn u) (hk0 : k0 < n) (hkv : kv < n) {post : Int32 → mj_M → Prop}
    (hp : ∀ r', kCD B A AA AT AN n na nn (kMvc e (kCh e (nI k0) (c 1 0)) n 0 (nI kv)) t l i r' x → post (kCnt (kCh e (nI k0) (c 1 0)) n 0 0) (kT B t, kL B l, kI B i c s, kW B r' u, kI B q g w, x)) : vc_X4_handOver (B + 1) (A k0) (A kv) (kT B t, kL B l, kI B i c s, kW B r u, kI B q g w, x) post := by
  simp only [vc_X4_handOver, mq_tag, mq_len, mq_i, mq_r, mq_l, mq_nx, mq_wi, mq_wr, mq_wl, true_and, and_true, and_false, false_and, and_self, ↓reduceIte, kT_0, kT_1, kT_2, kT_3, kT_4, kT_5, kT_6, kT_7, kT_8, kT_9, kT_10, kT_11, kT_12, kT_13, kT_14, kT_15, kT_16, kT_17, kT_18, kT_19, kT_20, kT_21, kT_22, kT_23, kL_2, kL_3, kL_5, kL_10, kL_11, kL_12, kL_14, kL_15, kL_17, kL_18, kL_19, kL_20, kL_21, kL_22, kL_23, kW_0_0, kW_0_1, kW_0_2, kW_0_3, kW_0_4, kW_0_5, kW_0_6, kW_0_7, kW_1_4, kW_1_5, kW_4_0, kW_4_1, kW_9_0, kW_9_1, kW_9_2, kW_13_0, kW_13_1, kW_16_0, kW_16_1, kW_16_2, kW_16_3, kW_16_4, kW_16_5, kW_1_1, kW_1_2, kW_4_4, kW_8_0, kW_8_1, kW_w1_1, kW_w1_2, kW_w4_4, kW_w8_0, kW_w8_1, kI_0, kI_w0, kI_1, kI_w1, kI_2, kI_w2, kI_3, kI_w3, kI_4, kI_w4, kI_5, kI_w5, kI_6, kI_w6, kI_7, kI_w7, kI_8, kI_w8, kI_9, kI_w9, kI_10, kI_w10, kI_11, kI_w11, kI_12, kI_w12, kI_13, kI_w13, kI_14, kI_w14, kI_15, kI_w15, kI_16, kI_w16, kI_17, kI_w17, kI_18, kI_w18, kI_19, kI_w19, kI_20, kI_w20, kI_21, kI_w21, kI_22, kI_w22, kI_23, kI_w23, U.1]
  exact cl_hand hk0 hkv n 0 0 e r (by omega) H hp
theorem ml_move {r : Nat → Nat → Nat} {o v : Int32} {post : Int32 → mj_M → Prop} (h40 : n ≤ 40) : ∀ m k (a : Int32) (s : Nat → Nat → Int32), k + m = n → s 0 13 = nI n → (∀ h, h < n → 0 ≤ s 6 h) →
    (∃ fe, vb_X12_moveUp_5 post fe (B + 24) o v a (nI k) (kT B t, kL B l, kI B i c s, kW B r u, kI B q g w, x)) = post (kCnt (kCh s o (s 0 0)) m k a) (kT B t, kL B l, kI B i c (kMvc s (kCh s o (s 0 0)) m k v), kW B r u, kI B q g w, x)
  | 0, k, a, s, hk, hn, hw => by
    rw [ex_succ rfl, kMvc_0]
    simp only [vb_X12_moveUp_5, mq_tag, mq_len, mq_i, mq_r, mq_l, mq_nx, mq_wi, mq_wr, mq_wl, true_and, and_true, and_false, false_and, and_self, ↓reduceIte, kT_24, kT_25, kT_26, kT_27, kT_28, kT_29, kT_30, kT_31, kT_32, kT_33, kT_34, kT_35, kT_36, kT_37, kT_38, kT_39, kT_40, kT_41, kT_42, kT_43, kT_44, kT_45, kT_46, kT_47, kT_48, kT_49, kT_50, kT_51, kT_52, kT_53, kT_54, kT_55, kT_56, kT_57, kT_58, kT_59, kT_60, kT_61, kL_25, kL_26, kL_27, kL_28, kL_29, kL_30, kL_31, kL_32, kL_33, kL_34, kL_35, kL_36, kL_37, kL_38, kL_39, kL_40, kL_41, kL_42, kL_43, kL_44, kL_45, kL_46, kL_47, kL_48, kL_49, kL_50, kL_51, kL_52, kL_53, kL_54, kL_55, kL_56, kL_57, kL_58, kL_59, kL_60, kL_61, kW_24_1, kW_24_2, kW_24_3, kW_24_4, kW_24_5, kW_24_6, kW_24_7, kW_24_8, kW_24_9, kW_24_10, kW_24_11, kW_24_12, kW_24_14, kW_24_15, kW_24_16, kW_24_17, kW_24_18, kW_24_19, kW_24_21, kW_24_22, kW_24_23, kW_24_25, kW_24_26, kW_24_27, kW_24_28, kW_24_29, kW_24_31, kW_24_32, kW_24_33, kW_24_34, kW_24_36, kW_24_37, kW_24_44, kW_24_49, kW_24_50, kW_24_51, kW_24_52, kI_24, kI_w24, kI_25, kI_w25, kI_26, kI_w26, kI_27, kI_w27, kI_28, kI_w28, kI_29, kI_w29, kI_30, kI_w30, kI_31, kI_w31, kI_32, kI_w32, kI_33, kI_w33, kI_34, kI_w34, kI_35, kI_w35, kI_36, kI_w36, kI_37, kI_w37, kI_38, kI_w38, kI_39, kI_w39, kI_40, kI_w40, kI_41, kI_w41, kI_42, kI_w42, kI_43, kI_w43, kI_44, kI_w44, kI_45, kI_w45, kI_46, kI_w46, kI_47, kI_w47, kI_48, kI_w48, kI_49, kI_w49, kI_50, kI_w50, kI_51, kI_w51, kI_52, kI_w52, kI_53, kI_w53, kI_54, kI_w54, kI_55, kI_w55, kI_56, kI_w56, kI_57, kI_w57, kI_58, kI_w58, kI_59, kI_w59, kI_60, kI_w60, kI_61, kI_w61, hn, ix_le (show n < 2147483648 by omega) (show k < 2147483648 by omega), show n ≤ k by omega, ex_ite, exists_and_left, exists_const, exists_and_right]
    rfl
  | m + 1, k, a, s, hk, hn, hw => by
    have hk' : k < n := by omega
    have k1 : k < 2147483648 := by omega
    have I := fun a s hn hw => ml_move (r := r) (o := o) (v := v) (post := post) h40 m (k + 1) a s (by omega) hn hw
    rw [ex_succ rfl]
    simp only [vb_X12_moveUp_5, mq_tag, mq_len, mq_i, mq_r, mq_l, mq_nx, mq_wi, mq_wr, mq_wl, true_and, and_true, and_false, false_and, and_self, ↓reduceIte, kT_24, kT_25, kT_26, kT_27, kT_28, kT_29, kT_30, kT_31, kT_32, kT_33, kT_34, kT_35, kT_36, kT_37, kT_38, kT_39, kT_40, kT_41, kT_42, kT_43, kT_44, kT_45, kT_46, kT_47, kT_48, kT_49, kT_50, kT_51, kT_52, kT_53, kT_54, kT_55, kT_56, kT_57, kT_58, kT_59, kT_60, kT_61, kL_25, kL_26, kL_27, kL_28, kL_29, kL_30, kL_31, kL_32, kL_33, kL_34, kL_35, kL_36, kL_37, kL_38, kL_39, kL_40, kL_41, kL_42, kL_43, kL_44, kL_45, kL_46, kL_47, kL_48, kL_49, kL_50, kL_51, kL_52, kL_53, kL_54, kL_55, kL_56, kL_57, kL_58, kL_59, kL_60, kL_61, kW_24_1, kW_24_2, kW_24_3, kW_24_4, kW_24_5, kW_24_6, kW_24_7, kW_24_8, kW_24_9, kW_24_10, kW_24_11, kW_24_12, kW_24_14, kW_24_15, kW_24_16, kW_24_17, kW_24_18, kW_24_19, kW_24_21, kW_24_22, kW_24_23, kW_24_25, kW_24_26, kW_24_27, kW_24_28, kW_24_29, kW_24_31, kW_24_32, kW_24_33, kW_24_34, kW_24_36, kW_24_37, kW_24_44, kW_24_49, kW_24_50, kW_24_51, kW_24_52, kI_24, kI_w24, kI_25, kI_w25, kI_26, kI_w26, kI_27, kI_w27, kI_28, kI_w28, kI_29, kI_w29, kI_30, kI_w30, kI_31, kI_w31, kI_32, kI_w32, kI_33, kI_w33, kI_34, kI_w34, kI_35, kI_w35, kI_36, kI_w36, kI_37, kI_w37, kI_38, kI_w38, kI_39, kI_w39, kI_40, kI_w40, kI_41, kI_w41, kI_42, kI_w42, kI_43, kI_w43, kI_44, kI_w44, kI_45, kI_w45, kI_46, kI_w46, kI_47, kI_w47, kI_48, kI_w48, kI_49, kI_w49, kI_50, kI_w50, kI_51, kI_w51, kI_52, kI_w52, kI_53, kI_w53, kI_54, kI_w54, kI_55, kI_w55, kI_56, kI_w56, kI_57, kI_w57, kI_58, kI_w58, kI_59, kI_w59, kI_60, kI_w60, kI_61, kI_w61, hn, ix_le (show n < 2147483648 by omega) (show k < 2147483648 by omega), show ¬ n ≤ k by omega, ix_in k1, ix_nat k1, show k < 40 by omega, m_until (show k < 40 by omega) (hw k hk'), nI_1, ex_ite, exists_and_left, exists_const, exists_and_right]
    rw [I _ _ hn hw, I _ (mj_u2 s 1 k v) (by rw [mq_u2n (by decide)]; exact hn) (fun h hh => by rw [mq_u2n (by decide)]; exact hw h hh)]
    have ec : ∀ h, k < h → kCh (mj_u2 s 1 k v) o (s 0 0) h = kCh s o (s 0 0) h := fun h hh => by unfold kCh; rw [kun_1, mq_u2k (by omega)]
    have e0 : mj_u2 s 1 k v 0 0 = s 0 0 := mq_u2n (by decide)
    by_cases q1 : s 1 k = o
    · by_cases q2 : kun s k ≤ s 0 0
      · have hc : kCh s o (s 0 0) k = false := by
          have : ¬ s 0 0 < kun s k := Int32.not_lt.mpr q2
          simp only [kCh, q1, this, true_or, or_true, false_or, or_false, not_true_eq_false, not_false_eq_true, true_and, and_true, false_and, and_false, and_self, decide_true, decide_false, ↓reduceIte, Bool.true_and, Bool.false_and, Bool.and_true, Bool.and_false, Bool.not_true, Bool.not_false, Bool.false_eq_true, Bool.true_or, Bool.or_true, Bool.false_or, Bool.or_false, reduceCtorEq, Bool.and_self, Bool.or_self, ne_eq]
        simp only [q1, q2, ↓reduceIte]
        rw [kMvc_f hc]
        show _ = post (kCnt _ m (k + 1) (a + mj_b (kCh s o (s 0 0) k))) _
        rw [hc]; simp [mj_b]
      · have hc : kCh s o (s 0 0) k = true := by
          have : s 0 0 < kun s k := Int32.not_le.mp q2
          simp only [kCh, q1, this, true_or, or_true, false_or, or_false, not_true_eq_false, not_false_eq_true, true_and, and_true, false_and, and_false, and_self, decide_true, decide_false, ↓reduceIte, Bool.true_and, Bool.false_and, Bool.and_true, Bool.and_false, Bool.not_true, Bool.not_false, Bool.false_eq_true, Bool.true_or, Bool.or_true, Bool.false_or, Bool.or_false, reduceCtorEq, Bool.and_self, Bool.or_self, ne_eq]
        simp only [q1, q2, ↓reduceIte]
        rw [kMvc_t (cond' := kCh (mj_u2 s 1 k v) o (s 0 0)) hc ec, e0]
        show _ = post (kCnt _ m (k + 1) (a + mj_b (kCh s o (s 0 0) k))) _
        rw [hc, kCnt_c (cond' := kCh (mj_u2 s 1 k v) o (s 0 0)) (fun h h1 h2 => ec h (by omega))]; rfl
    · have hc : kCh s o (s 0 0) k = false := by simp only [kCh, q1, true_or, or_true, false_or, or_false, not_true_eq_false, not_false_eq_true, true_and, and_true, false_and, and_false, and_self, decide_true, decide_false, ↓reduceIte, Bool.true_and, Bool.false_and, Bool.and_true, Bool.and_false, Bool.not_true, Bool.not_false, Bool.false_eq_true, Bool.true_or, Bool.or_true, Bool.false_or, Bool.or_false, reduceCtorEq, Bool.and_self, Bool.or_self, ne_eq]
      simp only [q1, ↓reduceIte]
      rw [kMvc_f hc]
      show _ = post (kCnt _ m (k + 1) (a + mj_b (kCh s o (s 0 0) k))) _
      rw [hc]; simp [mj_b]
theorem m_move {r : Nat → Nat → Nat} {o v : Int32} {post : Int32 → mj_M → Prop} (hn : s 0 13 = nI n) (h40 : n ≤ 40) (hw : ∀ h, h < n → 0 ≤ s 6 h) : vc_X12_moveUp (B + 24) o v (kT B t, kL B l, kI B i c s, kW B r u, kI B q g w, x) post = post (kCnt (kCh s o (s 0 0)) n 0 0) (kT B t, kL B l, kI B i c (kMvc s (kCh s o (s 0 0)) n 0 v), kW B r u, kI B q g w, x) := by
  unfold vc_X12_moveUp
  rw [← nI_0, ml_move h40 n 0 _ s (by omega) hn hw, nI_0]
/-- an end of one in force -/
theorem c_close {k : Nat} {e : Nat → Nat → Int32} {r : Nat → Nat → Nat} (H : kCD B A AA AT AN n na nn e t l i r x) (hk : k < n) {v : Int32} {post : Unit → mj_M → Prop} : vc_X4_close (B + 1) (A k) v (kT B t, kL B l, kI B i c s, kW B r u, kI B q g w, x) post = post () (kT B t, kL B l, kI B (mj_u2 (mj_u2 i (A k) 6 v) (A k) 7 (imx (c 1 0) (e 3 k))) c s, kW B r u, kI B q g w, x) := by
  have e4 : kI B (mj_u2 i (A k) 6 v) c s (A k) 4 = e 3 k := (kI_o (H.AH hk)).trans ((mq_u2k (by decide)).trans ((H.2.2.2.2.1 k hk).2.1 3 (by decide) (by decide)))
  simp only [vc_X4_close, mq_tag, mq_len, mq_i, mq_r, mq_l, mq_nx, mq_wi, mq_wr, mq_wl, true_and, and_true, and_false, false_and, and_self, ↓reduceIte, kT_0, kT_1, kT_2, kT_3, kT_4, kT_5, kT_6, kT_7, kT_8, kT_9, kT_10, kT_11, kT_12, kT_13, kT_14, kT_15, kT_16, kT_17, kT_18, kT_19, kT_20, kT_21, kT_22, kT_23, kL_2, kL_3, kL_5, kL_10, kL_11, kL_12, kL_14, kL_15, kL_17, kL_18, kL_19, kL_20, kL_21, kL_22, kL_23, kW_0_0, kW_0_1, kW_0_2, kW_0_3, kW_0_4, kW_0_5, kW_0_6, kW_0_7, kW_1_4, kW_1_5, kW_4_0, kW_4_1, kW_9_0, kW_9_1, kW_9_2, kW_13_0, kW_13_1, kW_16_0, kW_16_1, kW_16_2, kW_16_3, kW_16_4, kW_16_5, kW_1_1, kW_1_2, kW_4_4, kW_8_0, kW_8_1, kW_w1_1, kW_w1_2, kW_w4_4, kW_w8_0, kW_w8_1, kI_0, kI_w0, kI_1, kI_w1, kI_2, kI_w2, kI_3, kI_w3, kI_4, kI_w4, kI_5, kI_w5, kI_6, kI_w6, kI_7, kI_w7, kI_8, kI_w8, kI_9, kI_w9, kI_10, kI_w10, kI_11, kI_w11, kI_12, kI_w12, kI_13, kI_w13, kI_14, kI_w14, kI_15, kI_w15, kI_16, kI_w16, kI_17, kI_w17, kI_18, kI_w18, kI_19, kI_w19, kI_20, kI_w20, kI_21, kI_w21, kI_22, kI_w22, kI_23, kI_w23, H.atT hk, kI_wo (H.AH hk), e4, e_max]
theorem kCD.close {k : Nat} {e : Nat → Nat → Int32} {r : Nat → Nat → Nat} (H : kCD B A AA AT AN n na nn e t l i r x) (hk : k < n) (v d : Int32) : kCD B A AA AT AN n na nn (mj_u2 (mj_u2 e 6 k v) 5 k d) t l (mj_u2 (mj_u2 i (A k) 6 v) (A k) 7 d) r x := (H.wi hk (j := 6) (by decide) v).wi hk (j := 5) (by decide) d
theorem m_close {k : Nat} {r : Nat → Nat → Nat} (hk : k < 40) {v d : Int32} {post : Unit → mj_M → Prop} : vc_X12_close (B + 24) (nI k) v d (kT B t, kL B l, kI B i c s, kW B r u, kI B q g w, x) post = post () (kT B t, kL B l, kI B i c (mj_u2 (mj_u2 s 6 k v) 5 k d), kW B r u, kI B q g w, x) := by
  have k1 : k < 2147483648 := by omega
  simp only [vc_X12_close, mq_tag, mq_len, mq_i, mq_r, mq_l, mq_nx, mq_wi, mq_wr, mq_wl, true_and, and_true, and_false, false_and, and_self, ↓reduceIte, kT_24, kT_25, kT_26, kT_27, kT_28, kT_29, kT_30, kT_31, kT_32, kT_33, kT_34, kT_35, kT_36, kT_37, kT_38, kT_39, kT_40, kT_41, kT_42, kT_43, kT_44, kT_45, kT_46, kT_47, kT_48, kT_49, kT_50, kT_51, kT_52, kT_53, kT_54, kT_55, kT_56, kT_57, kT_58, kT_59, kT_60, kT_61, kL_25, kL_26, kL_27, kL_28, kL_29, kL_30, kL_31, kL_32, kL_33, kL_34, kL_35, kL_36, kL_37, kL_38, kL_39, kL_40, kL_41, kL_42, kL_43, kL_44, kL_45, kL_46, kL_47, kL_48, kL_49, kL_50, kL_51, kL_52, kL_53, kL_54, kL_55, kL_56, kL_57, kL_58, kL_59, kL_60, kL_61, kW_24_1, kW_24_2, kW_24_3, kW_24_4, kW_24_5, kW_24_6, kW_24_7, kW_24_8, kW_24_9, kW_24_10, kW_24_11, kW_24_12, kW_24_14, kW_24_15, kW_24_16, kW_24_17, kW_24_18, kW_24_19, kW_24_21, kW_24_22, kW_24_23, kW_24_25, kW_24_26, kW_24_27, kW_24_28, kW_24_29, kW_24_31, kW_24_32, kW_24_33, kW_24_34, kW_24_36, kW_24_37, kW_24_44, kW_24_49, kW_24_50, kW_24_51, kW_24_52, kI_24, kI_w24, kI_25, kI_w25, kI_26, kI_w26, kI_27, kI_w27, kI_28, kI_w28, kI_29, kI_w29, kI_30, kI_w30, kI_31, kI_w31, kI_32, kI_w32, kI_33, kI_w33, kI_34, kI_w34, kI_35, kI_w35, kI_36, kI_w36, kI_37, kI_w37, kI_38, kI_w38, kI_39, kI_w39, kI_40, kI_w40, kI_41, kI_w41, kI_42, kI_w42, kI_43, kI_w43, kI_44, kI_w44, kI_45, kI_w45, kI_46, kI_w46, kI_47, kI_w47, kI_48, kI_w48, kI_49, kI_w49, kI_50, kI_w50, kI_51, kI_w51, kI_52, kI_w52, kI_53, kI_w53, kI_54, kI_w54, kI_55, kI_w55, kI_56, kI_w56, kI_57, kI_w57, kI_58, kI_w58, kI_59, kI_w59, kI_60, kI_w60, kI_61, kI_w61, ix_in k1, ix_nat k1, hk]
end
section
variable {B : Nat} {M : mj_M} {K : Int32 → Int32 → mj_M → Prop}
/-- one in force: what it is out of is in force -/
theorem kHo.up {s : Nat → Nat → Int32} {n h k : Nat} (H : kHo s n) (hh : h < n) (hk : k < n) (ho : s 1 h = nI k) (hon : kon s h (s 0 0) = true) : s 6 h = 0 ∧ s 3 h ≤ s 0 0 ∧ s 0 0 < s 4 h ∧ s 6 k = 0 ∧ s 3 k ≤ s 0 0 ∧ s 4 h ≤ s 4 k := by
  obtain ⟨a1, a2, a3, a4⟩ := H
  obtain ⟨q1, q2, q3, q4, q5⟩ := a4 h hh
  obtain ⟨p1, p2, p3, p4, p5⟩ := q5 k hk ho
  simp only [kon, decide_eq_true_eq] at hon
  obtain ⟨o1, o2⟩ := hon
  have hw : s 6 h = 0 := by
    by_cases hw : s 6 h = 0
    · exact hw
    · exfalso
      simp only [kun, hw, ↓reduceIte] at o2
      rw [i_lt] at o2; rw [i_le] at o1
      by_cases h4 : s 6 h = 4
      · rcases q3 h4 with z | z
        · rw [i_le] at z; omega
        · rw [z] at o2; omega
      · have := i_le.mp (q1 hw h4).1; omega
  simp only [kun, hw, ↓reduceIte] at o2
  refine ⟨hw, o1, o2, p4 hw o2, ?_, p1⟩
  rcases p2 with z | z
  · rw [i_le] at *; omega
  · exact z
/-- children of one in force that end later than today stand -/
theorem kHo.child {s : Nat → Nat → Int32} {n h k : Nat} (H : kHo s n) (hh : h < n) (hk : k < n) (ho : s 1 h = nI k) (hw : s 6 k = 0) (hu : s 0 0 < kun s h) : s 6 h = 0 ∧ s 0 0 < s 4 h := by
  obtain ⟨a1, a2, a3, a4⟩ := H
  obtain ⟨q1, q2, q3, q4, q5⟩ := a4 h hh
  obtain ⟨p1, p2, p3, p4, p5⟩ := q5 k hk ho
  have h0 : s 6 h = 0 := by
    by_cases h0 : s 6 h = 0
    · exact h0
    · exfalso
      simp only [kun, h0, ↓reduceIte] at hu
      by_cases h4 : s 6 h = 4
      · obtain ⟨z1, z2⟩ := p5 h4
        rcases (a2 h hh).2.2.2.2.2.2.2.2.2.2 with z | ⟨m, hm, z⟩
        · rcases z1 z with y | ⟨y, _⟩ <;> rw [hw] at y <;> exact absurd y (by decide)
        · rcases z2 m hm z with ⟨_, y⟩ | ⟨y, _⟩ <;> rw [hw] at y <;> exact absurd y (by decide)
      · have := i_le.mp (q1 h0 h4).1; rw [i_lt] at hu; omega
  simp only [kun, h0, ↓reduceIte] at hu
  exact ⟨h0, hu⟩
end

/-! STAGE B: put between -/
theorem kHo.mv {s s' : Nat → Nat → Int32} {n m : Nat} (h : kHo s n) (hn : n ≤ 40) (hm : m < n) (h0 : s' 0 0 = s 0 0) (hs : ∀ j, 2 ≤ j → j ≤ 12 → s' j = s j)
    (hv : ∀ h, h < n → s' 1 h = s 1 h ∨ (s' 1 h = nI m ∧ (∃ k, k < n ∧ s 1 h = nI k) ∧ s 6 h = 0 ∧ s 4 h ≤ s 4 m ∧ (s 3 m ≤ s 3 h ∨ s 3 m ≤ s 0 0) ∧ s 6 m = 0))
    (hrk : ∃ rk : Nat → Nat, ∀ h, h < n → rk h < n ∧ ∀ k, k < n → s' 1 h = nI k → rk k < rk h) : kHo s' n := by
  obtain ⟨h1, h2, _, h4⟩ := h
  have e2 := hs 2 (by decide) (by decide)
  have e3 := hs 3 (by decide) (by decide)
  have e4 := hs 4 (by decide) (by decide)
  have e5 := hs 5 (by decide) (by decide)
  have e6 := hs 6 (by decide) (by decide)
  have e12 := hs 12 (by decide) (by decide)
  refine ⟨by rw [h0]; exact h1, fun h hh => ?_, hrk, fun h hh => ?_⟩
  · obtain ⟨q1, q2, q3, q4, q5, q6, q7, q8, q9, q10, q11⟩ := h2 h hh
    unfold kR1
    rw [e2, e3, e4, e5, e6, e12, hs 7 (by decide) (by decide), hs 8 (by decide) (by decide), hs 9 (by decide) (by decide), hs 10 (by decide) (by decide), hs 11 (by decide) (by decide)]
    refine ⟨?_, q2, q3, q4, q5, q6, q7, q8, q9, q10, q11⟩
    rcases hv h hh with z | ⟨z, _⟩
    · rw [z]; exact q1
    · exact .inr ⟨m, hm, z⟩
  · obtain ⟨q1, q2, q3, q4, q5⟩ := h4 h hh
    unfold kR2
    rw [e3, e4, e5, e6, e12, h0, kun_to e4 e5 e6]
    rcases hv h hh with z | ⟨z, z1, z2, z3, z4, z5⟩
    · rw [z]; exact ⟨q1, q2, q3, q4, q5⟩
    · refine ⟨q1, q2, q3, fun y => ?_, fun k hk he => ?_⟩
      · rw [z] at y; exact absurd y (by rw [ix_m1 (by omega)]; exact id)
      · rw [z, ix_eq (by omega) (by omega)] at he
        subst he
        refine ⟨z3, z4, fun _ _ => ?_, fun _ _ => z5, fun y => ?_⟩
        · unfold kun; rw [if_pos z5]; exact z3
        · rw [z2] at y; exact absurd y (by decide)
/-- a rank, one put in behind k0 -/
theorem rk_ins {s s' : Nat → Nat → Int32} {n k0 : Nat} {rk : Nat → Nat} (hn : n < 40) (hk0 : k0 < n) (R : ∀ h, h < n → rk h < n ∧ ∀ k, k < n → s 1 h = nI k → rk k < rk h) (h1 : s' 1 n = nI k0)
    (hv : ∀ h, h < n → (s' 1 h = s 1 h ∧ (s 1 h = -1 ∨ ∃ k, k < n ∧ s 1 h = nI k)) ∨ (s' 1 h = nI n ∧ rk k0 < rk h)) : ∃ rk' : Nat → Nat, ∀ h, h < n + 1 → rk' h < n + 1 ∧ ∀ k, k < n + 1 → s' 1 h = nI k → rk' k < rk' h := by
  have r0 := (R k0 hk0).1
  refine ⟨fun h => if h = n then rk k0 + 1 else if rk k0 < rk h then rk h + 1 else rk h, fun h hh => ?_⟩
  by_cases e : h = n
  · subst e
    simp only [↓reduceIte]
    refine ⟨by omega, fun k hk he => ?_⟩
    rw [h1, ix_eq (by omega) (by omega)] at he
    subst he
    rw [if_neg (by omega), if_neg (by omega)]; omega
  · have hh' : h < n := by omega
    have rh := (R h hh').1
    simp only [e, ↓reduceIte]
    refine ⟨by split <;> omega, fun k hk he => ?_⟩
    rcases hv h hh' with ⟨z, z1⟩ | ⟨z, z1⟩
    · rw [z] at he
      have hk' : k < n := by
        rcases z1 with z1 | ⟨k', hk', z1⟩
        · rw [z1] at he; exact absurd he.symm (by rw [ix_m1 (by omega)]; exact id)
        · rw [z1, ix_eq (by omega) (by omega)] at he; omega
      have := (R h hh').2 k hk' he
      rw [if_neg (by omega)]
      split <;> split <;> omega
    · rw [z, ix_eq (by omega) (by omega)] at he
      subst he
      simp only [↓reduceIte, z1]; omega
section
variable {B : Nat} {M : mj_M} {K : Int32 → Int32 → mj_M → Prop}
theorem kJ.put {B x : Nat} {t l u : Nat → Nat} {i c s : Nat → Nat → Int32} {r : Nat → Nat → Nat} {q g w : Nat → Nat → Int64} {A AA AT AN N t' : Nat → Nat} {i' s' : Nat → Nat → Int32} {r' : Nat → Nat → Nat} {q' : Nat → Nat → Int64} (hG : kG B A AA AT AN N c s t l i r u x)
    (C : kCD B (mj_u1 A (N 0) x) AA AT AN (N 0 + 1) (N 1) (N 2) s' t' l i' r' (x + 1)) (hs0 : ∀ k, k ≠ 13 → s' 0 k = s 0 k) (h13 : s' 0 13 = nI (N 0 + 1)) (hhi : ∀ j, 13 ≤ j → s' j = s j) (hne : ∀ h, h < N 0 → 0 ≤ s 1 h → 0 ≤ s' 1 h) (hHo : kHo s' (N 0 + 1)) :
    kJ B (kT B t', kL B l, kI B i' (mj_u2 c 1 3 (nI (N 0 + 1))) s', kW B r' (if N 0 = 0 then mj_u1 (mj_u1 u 0 x) 1 x else mj_u1 u 1 x), kI B q' g w, x + 1) := by
  obtain ⟨g1, g2, g3, g4, g5, g6, g7, g8, g9, g10⟩ := id hG
  refine kJ.mk (A := mj_u1 A (N 0) x) (AA := AA) (AT := AT) (AN := AN) (N := fun j => if j = 0 then N 0 + 1 else N j) ⟨C, ?c2, ?c3, g4.to ?_ ?_ ?_ ?_ ?_ ?_ ?_ ?_, g5.to ?_ ?_ ?_ ?_ ?_ ?_ ?_ ?_ ?_ ?_, g6.to ?_ ?_ ?_ ?_ ?_ ?_, g7.to ?_ ?_ ?_ ?_ ?_ ?_ ?_ ?_ ?_ ?_ ?_ ?_ ?_, hHo, g9.to ?_ ?_, ?c10⟩
  case c2 =>
    obtain ⟨q1, q2, q3, q4, q5⟩ := g2
    by_cases h0 : N 0 = 0
    · simp only [kU, h0, ↓reduceIte]
      refine ⟨?_, ?_, ?_, ?_, ?_⟩
      · simp [mq_u1, kP]
      · simp [mq_u1]
      · simpa [mq_u1] using q3
      · simpa [mq_u1] using q4
      · simpa [mq_u1] using q5
    · simp only [kU, h0, ↓reduceIte]
      refine ⟨?_, ?_, ?_, ?_, ?_⟩
      · rw [mq_u1n (by decide), q1, kP_lt (by omega), kP_lt (by omega)]; exact (mq_u1n (by omega)).symm
      · simp [mq_u1]
      · simpa [mq_u1] using q3
      · simpa [mq_u1] using q4
      · simpa [mq_u1] using q5
  case c3 =>
    obtain ⟨q1, q2, q3, q4, q5⟩ := g3
    refine ⟨?_, ?_, ?_, ?_, ?_⟩
    · rw [mq_u2k (by decide), hs0 _ (by decide)]; exact q1
    · rw [mq_u2s]; rfl
    · rw [h13]; rfl
    · intro p hp; rw [mq_u2n (by decide), hhi _ (by decide)]; exact q4 p hp
    · intro p hp; rw [mq_u2n (by decide), hhi _ (by decide)]; exact q5 p hp
  case c10 =>
    obtain ⟨q1, q2⟩ := g10
    unfold kNo
    rw [hhi 25 (by decide), hhi 26 (by decide), hhi 27 (by decide), hhi 28 (by decide), hhi 29 (by decide)]
    refine ⟨fun k hk => ?_, q2⟩
    obtain ⟨⟨j, h1, h2, h3⟩, h4⟩ := q1 k hk
    exact ⟨⟨j, by simp only [↓reduceIte]; omega, h2, hne j h1 h3⟩, h4⟩
  all_goals first | rfl | (exact hs0 _ (by decide)) | (exact hhi _ (by decide)) | (simp [mq_u2]; done) | (funext _; simp [mq_u2]; done) | (rw [hhi _ (by decide)]; done) | (intros; rw [hhi _ (by decide)]; done) | (intros; rw [hhi 17 (by decide), hhi 18 (by decide), hhi 19 (by decide)]; exact ⟨rfl, rfl, rfl⟩)
theorem T_between (h : kJ B M) (o f a b p : Int32) (hK : ∀ v M', kJ B M' → K v v M') : vc_X11_between B o f a b p M (fun v M1 => mj_tag M1 (B + 24) = 13 ∧ vc_X12_between (B + 24) o f a b p M1 (fun v' M2 => K v v' M2)) := by
  obtain ⟨A, AA, AT, AN, N, t, l, u, i, c, s, r, q, g, w, x, rfl, hG⟩ := h
  obtain ⟨g1, g2, g3, g4, g5, g6, g7, g8, g9, g10⟩ := id hG
  have h40 := hG.n40
  have hx := g1.x62
  by_cases hv : 0 ≤ o ∧ o < nI (N 0)
  · obtain ⟨k, hk, rfl⟩ := ix_ofl (by omega) hv.1 hv.2
    have k1 : k < 2147483648 := by omega
    by_cases hw : kWhy (N 0) (s 0 0) f a b p = 0
    · obtain ⟨w1, w2, w3, w4, w5, w6⟩ := kWhy_0 hw
      have n40 : N 0 < 40 := by omega
      rcases Bool.eq_false_or_eq_true (khd s k f a b) with hd | hd
      · rcases Bool.eq_false_or_eq_true (kAny (kBet s (s 0 0) (nI k) f a b) (N 0) 0) with hy | hy
        · simp only [vc_X11_between, mq_tag, mq_len, mq_i, mq_r, mq_l, mq_nx, mq_wi, mq_wr, mq_wl, true_and, and_true, and_false, false_and, and_self, ↓reduceIte, kT_0, kT_1, kT_2, kT_3, kT_4, kT_5, kT_6, kT_7, kT_8, kT_9, kT_10, kT_11, kT_12, kT_13, kT_14, kT_15, kT_16, kT_17, kT_18, kT_19, kT_20, kT_21, kT_22, kT_23, kL_2, kL_3, kL_5, kL_10, kL_11, kL_12, kL_14, kL_15, kL_17, kL_18, kL_19, kL_20, kL_21, kL_22, kL_23, kW_0_0, kW_0_1, kW_0_2, kW_0_3, kW_0_4, kW_0_5, kW_0_6, kW_0_7, kW_1_4, kW_1_5, kW_4_0, kW_4_1, kW_9_0, kW_9_1, kW_9_2, kW_13_0, kW_13_1, kW_16_0, kW_16_1, kW_16_2, kW_16_3, kW_16_4, kW_16_5, kW_1_1, kW_1_2, kW_4_4, kW_8_0, kW_8_1, kW_w1_1, kW_w1_2, kW_w4_4, kW_w8_0, kW_w8_1, kI_0, kI_w0, kI_1, kI_w1, kI_2, kI_w2, kI_3, kI_w3, kI_4, kI_w4, kI_5, kI_w5, kI_6, kI_w6, kI_7, kI_w7, kI_8, kI_w8, kI_9, kI_w9, kI_10, kI_w10, kI_11, kI_w11, kI_12, kI_w12, kI_13, kI_w13, kI_14, kI_w14, kI_15, kI_w15, kI_16, kI_w16, kI_17, kI_w17, kI_18, kI_w18, kI_19, kI_w19, kI_20, kI_w20, kI_21, kI_w21, kI_22, kI_w22, kI_23, kI_w23, c_find g1 g2 hk, c_refusal g1 hk g3.2.1, hG.hd, hw, c_canBetween g1 g2 hk, hd, hy, true_or, or_true, false_or, or_false, not_true_eq_false, not_false_eq_true, true_and, and_true, false_and, and_false, and_self, decide_true, decide_false, ↓reduceIte, Bool.true_and, Bool.false_and, Bool.and_true, Bool.and_false, Bool.not_true, Bool.not_false, Bool.false_eq_true, Bool.true_or, Bool.or_true, Bool.false_or, Bool.or_false, reduceCtorEq, Bool.and_self, Bool.or_self, ne_eq]
          refine ⟨kT_24, ?_⟩
          simp only [vc_X12_between, mq_tag, mq_len, mq_i, mq_r, mq_l, mq_nx, mq_wi, mq_wr, mq_wl, true_and, and_true, and_false, false_and, and_self, ↓reduceIte, kT_24, kT_25, kT_26, kT_27, kT_28, kT_29, kT_30, kT_31, kT_32, kT_33, kT_34, kT_35, kT_36, kT_37, kT_38, kT_39, kT_40, kT_41, kT_42, kT_43, kT_44, kT_45, kT_46, kT_47, kT_48, kT_49, kT_50, kT_51, kT_52, kT_53, kT_54, kT_55, kT_56, kT_57, kT_58, kT_59, kT_60, kT_61, kL_25, kL_26, kL_27, kL_28, kL_29, kL_30, kL_31, kL_32, kL_33, kL_34, kL_35, kL_36, kL_37, kL_38, kL_39, kL_40, kL_41, kL_42, kL_43, kL_44, kL_45, kL_46, kL_47, kL_48, kL_49, kL_50, kL_51, kL_52, kL_53, kL_54, kL_55, kL_56, kL_57, kL_58, kL_59, kL_60, kL_61, kW_24_1, kW_24_2, kW_24_3, kW_24_4, kW_24_5, kW_24_6, kW_24_7, kW_24_8, kW_24_9, kW_24_10, kW_24_11, kW_24_12, kW_24_14, kW_24_15, kW_24_16, kW_24_17, kW_24_18, kW_24_19, kW_24_21, kW_24_22, kW_24_23, kW_24_25, kW_24_26, kW_24_27, kW_24_28, kW_24_29, kW_24_31, kW_24_32, kW_24_33, kW_24_34, kW_24_36, kW_24_37, kW_24_44, kW_24_49, kW_24_50, kW_24_51, kW_24_52, kI_24, kI_w24, kI_25, kI_w25, kI_26, kI_w26, kI_27, kI_w27, kI_28, kI_w28, kI_29, kI_w29, kI_30, kI_w30, kI_31, kI_w31, kI_32, kI_w32, kI_33, kI_w33, kI_34, kI_w34, kI_35, kI_w35, kI_36, kI_w36, kI_37, kI_w37, kI_38, kI_w38, kI_39, kI_w39, kI_40, kI_w40, kI_41, kI_w41, kI_42, kI_w42, kI_43, kI_w43, kI_44, kI_w44, kI_45, kI_w45, kI_46, kI_w46, kI_47, kI_w47, kI_48, kI_w48, kI_49, kI_w49, kI_50, kI_w50, kI_51, kI_w51, kI_52, kI_w52, kI_53, kI_w53, kI_54, kI_w54, kI_55, kI_w55, kI_56, kI_w56, kI_57, kI_w57, kI_58, kI_w58, kI_59, kI_w59, kI_60, kI_w60, kI_61, kI_w61, m_why hG.hn h40 hk (hG.hw k hk), hw, hd, Int32.le_refl]
          rw [← nI_0, ml_betw hG.hn h40 hG.hw (N 0) 0 (by omega), hy]
          simp only [↓reduceIte]
          exact hK _ _ (kJ.mk hG)
        · have tx : kT B (mj_u1 t x 4) x = 4 := (kT_o hx).trans mq_u1s
          have x0 : (x = 0) = False := eq_false (by omega)
          have hne : ∀ h, h < N 0 → A h ≠ x := fun h hh => by have := g1.AHx hh; omega
          simp only [vc_X11_between, mq_tag, mq_len, mq_i, mq_r, mq_l, mq_nx, mq_wi, mq_wr, mq_wl, true_and, and_true, and_false, false_and, and_self, ↓reduceIte, kT_0, kT_1, kT_2, kT_3, kT_4, kT_5, kT_6, kT_7, kT_8, kT_9, kT_10, kT_11, kT_12, kT_13, kT_14, kT_15, kT_16, kT_17, kT_18, kT_19, kT_20, kT_21, kT_22, kT_23, kL_2, kL_3, kL_5, kL_10, kL_11, kL_12, kL_14, kL_15, kL_17, kL_18, kL_19, kL_20, kL_21, kL_22, kL_23, kW_0_0, kW_0_1, kW_0_2, kW_0_3, kW_0_4, kW_0_5, kW_0_6, kW_0_7, kW_1_4, kW_1_5, kW_4_0, kW_4_1, kW_9_0, kW_9_1, kW_9_2, kW_13_0, kW_13_1, kW_16_0, kW_16_1, kW_16_2, kW_16_3, kW_16_4, kW_16_5, kW_1_1, kW_1_2, kW_4_4, kW_8_0, kW_8_1, kW_w1_1, kW_w1_2, kW_w4_4, kW_w8_0, kW_w8_1, kI_0, kI_w0, kI_1, kI_w1, kI_2, kI_w2, kI_3, kI_w3, kI_4, kI_w4, kI_5, kI_w5, kI_6, kI_w6, kI_7, kI_w7, kI_8, kI_w8, kI_9, kI_w9, kI_10, kI_w10, kI_11, kI_w11, kI_12, kI_w12, kI_13, kI_w13, kI_14, kI_w14, kI_15, kI_w15, kI_16, kI_w16, kI_17, kI_w17, kI_18, kI_w18, kI_19, kI_w19, kI_20, kI_w20, kI_21, kI_w21, kI_22, kI_w22, kI_23, kI_w23, c_find g1 g2 hk, c_refusal g1 hk g3.2.1, hG.hd, hw, c_canBetween g1 g2 hk, hd, hy, true_or, or_true, false_or, or_false, not_true_eq_false, not_false_eq_true, true_and, and_true, false_and, and_false, and_self, decide_true, decide_false, ↓reduceIte, Bool.true_and, Bool.false_and, Bool.and_true, Bool.and_false, Bool.not_true, Bool.not_false, Bool.false_eq_true, Bool.true_or, Bool.or_true, Bool.false_or, Bool.or_false, reduceCtorEq, Bool.and_self, Bool.or_self, ne_eq, mq_new, forall_eq, kT_n hx, kI_n hx, kW_n hx, vc_X3_init, tx, x0, not_false_eq_true, kI_wo hx, kW_wo hx, vc_X4_putBetween, g2.1]
          have H1 : kCD B A AA AT AN (N 0) (N 1) (N 2) s (mj_u1 t x 4) l (mj_u2 (mj_u2 (mj_u2 (mj_u2 (mj_u2 (mj_u2 (mj_u1 i x fun _ => 0) x 12 (-6)) x 3 f) x 4 a) x 5 b) x 8 p) x 9 a) (mj_u2 (mj_u1 r x fun _ => 0) x 2 (A k)) (x + 1) :=
            g1.alloc (fun a' h => by funext y; simp [mq_u2, mq_u1, h]) (fun a' h => by funext y; simp [mq_u2, mq_u1, h]) (fun _ _ => rfl)
          rw [cl_putb H1 (y := x) (k0 := k) (f := f) (a := a) (b := b) hx mq_u1s (by simp [mq_u2, mq_u1]) (by simp [mq_u2, mq_u1]) (by simp [mq_u2, mq_u1]) hk hne (N 0) 0 _ (by omega)
            (fun h hh => (H1.2.2.2.2.1 h hh).2.2.1) (fun h _ hh => (H1.2.2.2.2.1 h hh).2.2.2.1) (by simp [mq_u2, mq_u1])]
          rw [c_add (n := N 0) (A := A) hx mq_u1s g2.2.1 (fun h0 => ⟨g1.AH (by omega), by rw [mq_u1n (hne _ (by omega))]; exact g1.tH (by omega)⟩) g3.2.1]
          refine ⟨kT_24, ?_⟩
          simp only [vc_X12_between, mq_tag, mq_len, mq_i, mq_r, mq_l, mq_nx, mq_wi, mq_wr, mq_wl, true_and, and_true, and_false, false_and, and_self, ↓reduceIte, kT_24, kT_25, kT_26, kT_27, kT_28, kT_29, kT_30, kT_31, kT_32, kT_33, kT_34, kT_35, kT_36, kT_37, kT_38, kT_39, kT_40, kT_41, kT_42, kT_43, kT_44, kT_45, kT_46, kT_47, kT_48, kT_49, kT_50, kT_51, kT_52, kT_53, kT_54, kT_55, kT_56, kT_57, kT_58, kT_59, kT_60, kT_61, kL_25, kL_26, kL_27, kL_28, kL_29, kL_30, kL_31, kL_32, kL_33, kL_34, kL_35, kL_36, kL_37, kL_38, kL_39, kL_40, kL_41, kL_42, kL_43, kL_44, kL_45, kL_46, kL_47, kL_48, kL_49, kL_50, kL_51, kL_52, kL_53, kL_54, kL_55, kL_56, kL_57, kL_58, kL_59, kL_60, kL_61, kW_24_1, kW_24_2, kW_24_3, kW_24_4, kW_24_5, kW_24_6, kW_24_7, kW_24_8, kW_24_9, kW_24_10, kW_24_11, kW_24_12, kW_24_14, kW_24_15, kW_24_16, kW_24_17, kW_24_18, kW_24_19, kW_24_21, kW_24_22, kW_24_23, kW_24_25, kW_24_26, kW_24_27, kW_24_28, kW_24_29, kW_24_31, kW_24_32, kW_24_33, kW_24_34, kW_24_36, kW_24_37, kW_24_44, kW_24_49, kW_24_50, kW_24_51, kW_24_52, kI_24, kI_w24, kI_25, kI_w25, kI_26, kI_w26, kI_27, kI_w27, kI_28, kI_w28, kI_29, kI_w29, kI_30, kI_w30, kI_31, kI_w31, kI_32, kI_w32, kI_33, kI_w33, kI_34, kI_w34, kI_35, kI_w35, kI_36, kI_w36, kI_37, kI_w37, kI_38, kI_w38, kI_39, kI_w39, kI_40, kI_w40, kI_41, kI_w41, kI_42, kI_w42, kI_43, kI_w43, kI_44, kI_w44, kI_45, kI_w45, kI_46, kI_w46, kI_47, kI_w47, kI_48, kI_w48, kI_49, kI_w49, kI_50, kI_w50, kI_51, kI_w51, kI_52, kI_w52, kI_53, kI_w53, kI_54, kI_w54, kI_55, kI_w55, kI_56, kI_w56, kI_57, kI_w57, kI_58, kI_w58, kI_59, kI_w59, kI_60, kI_w60, kI_61, kI_w61, m_why hG.hn h40 hk (hG.hw k hk), hw, hd, Int32.le_refl]
          rw [← nI_0, ml_betw hG.hn h40 hG.hw (N 0) 0 (by omega), hy]
          simp only [Bool.false_eq_true, ↓reduceIte]
          rw [m_add hG.hn n40]
          have hw6 : ∀ h, h < N 0 → 0 ≤ kAdd s (N 0) (nI k) f a b p a 6 h := fun h hh => by rw [kAdd_lt (by decide) hh]; exact hG.hw h hh
          rw [← nI_0, ml_betm n40 (N 0) 0 _ (by omega) hw6, nI_0]
          have h0n : ¬ N 0 = 0 := by omega
          obtain ⟨z1, z2, z3⟩ := (hG.R2 hk).within hd w3 w4
          have t0 := g8.1
          have a0 : 0 ≤ a := by rw [i_le] at w3 ⊢; have := i_le.mp t0.1; omega
          have a1 : a ≤ 73000 := by rw [i_lt] at w4; rw [i_le] at w5 ⊢; omega
          obtain ⟨n1, n2, n3, n4, n5, n6, n7, n8, n9, n10, n11, n12⟩ := @kAdd_n s (N 0) (nI k) f a b p a
          -- the condition of a move, over both
          have eC : kMvc (kAdd s (N 0) (nI k) f a b p a) (fun h => decide (kAdd s (N 0) (nI k) f a b p a 1 h = nI k) && kmt (kAdd s (N 0) (nI k) f a b p a) h f a b) (N 0) 0 (nI (N 0)) = kMvc (kAdd s (N 0) (nI k) f a b p a) (fun h => decide (s 1 h = nI k) && kmt s h f a b) (N 0) 0 (nI (N 0)) :=
            kMvc_c fun h _ hh => by
              have hh' : h < N 0 := by omega
              unfold kmt kun
              rw [kAdd_lt (by decide) hh', kAdd_lt (by decide) hh', kAdd_lt (by decide) hh', kAdd_lt (by decide) hh', kAdd_lt (by decide) hh', kAdd_lt (by decide) hh']
          rw [eC]
          generalize hcd : (fun h => decide (s 1 h = nI k) && kmt s h f a b) = cond
          have hs2 : ∀ j, j ≠ 1 → kMvc (kAdd s (N 0) (nI k) f a b p a) cond (N 0) 0 (nI (N 0)) j = kAdd s (N 0) (nI k) f a b p a j := fun j hj => kMvc_n hj
          have hs1 : ∀ h, h < N 0 → kMvc (kAdd s (N 0) (nI k) f a b p a) cond (N 0) 0 (nI (N 0)) 1 h = if cond h = true then nI (N 0) else s 1 h := fun h hh => by
            unfold kMvc
            rw [kAdd_lt (by decide) hh]
            by_cases e : cond h = true
            · rw [if_pos ⟨rfl, by omega, by omega, e⟩, if_pos e]
            · rw [if_neg (fun z => e z.2.2.2), if_neg e]
          have hs1n : kMvc (kAdd s (N 0) (nI k) f a b p a) cond (N 0) 0 (nI (N 0)) 1 (N 0) = nI k := by
            unfold kMvc; rw [if_neg (by omega)]; exact n1
          have hmv : ∀ h, h < N 0 → cond h = true → s 1 h = nI k ∧ s 6 h = 0 ∧ s 4 h ≤ b ∧ (a ≤ s 3 h ∨ a ≤ s 0 0) := by
            intro h hh e
            have eb : kBet s (s 0 0) (nI k) f a b h = false := by
              cases hb : kBet s (s 0 0) (nI k) f a b h with
              | false => rfl
              | true => rw [kAny_iff.mpr ⟨h, by omega, by omega, hb⟩] at hy; cases hy
            rw [← hcd] at e
            simp only [kBet, e, Bool.true_and, Bool.not_eq_false', decide_eq_true_eq] at eb
            simp only [Bool.and_eq_true, decide_eq_true_eq, kmt] at e
            obtain ⟨e1, e2, e3⟩ := e
            obtain ⟨b1, b2, b3⟩ := eb
            have w0 : s 6 h = 0 := by
              by_cases w0 : s 6 h = 0
              · exact w0
              · exfalso
                obtain ⟨q1, q2, q3, q4, q5⟩ := hG.R2 hh
                have m1 : s 3 h ≤ imx (s 3 h) a ∧ a ≤ imx (s 3 h) a := by
                  unfold imx; split
                  · rename_i z; rw [i_lt] at z; exact ⟨by rw [i_le]; omega, Int32.le_refl _⟩
                  · rename_i z; rw [i_lt] at z; exact ⟨Int32.le_refl _, by rw [i_le]; omega⟩
                have m2 : imn (kun s h) b ≤ kun s h := by
                  unfold imn; split
                  · rename_i z; rw [i_lt] at z; rw [i_le]; omega
                  · exact Int32.le_refl _
                have m3 : kun s h = s 5 h := if_neg w0
                rw [m3] at m2
                rw [i_lt, m3] at e3
                rw [i_le] at m2
                have m4 := i_le.mp m1.1
                have m5 := i_le.mp m1.2
                rw [i_le] at w3
                by_cases h4 : s 6 h = 4
                · rcases q3 h4 with y | y
                  · rw [i_le] at y; omega
                  · rw [y] at e3 m2; omega
                · have := i_le.mp (q1 w0 h4).1; omega
            refine ⟨e1, w0, ?_, ?_⟩
            · simp only [kun, w0, ↓reduceIte] at b3; exact b3
            · unfold imx at b2; split at b2
              · exact .inr b2
              · exact .inl b2
          have hkA : ∀ h, h < N 0 → kAny (fun h' => cond h' && decide (A h = A h')) (N 0) 0 = cond h := by
            intro h hh
            cases hc : cond h with
            | true => exact kAny_iff.mpr ⟨h, by omega, by omega, by simp [hc]⟩
            | false =>
              cases hb : kAny (fun h' => cond h' && decide (A h = A h')) (N 0) 0 with
              | false => rfl
              | true =>
                obtain ⟨h', _, q2, q3⟩ := kAny_iff.mp hb
                simp only [Bool.and_eq_true, decide_eq_true_eq] at q3
                have := q3.2
                rw [g1.inj hh (by omega)] at this
                subst this; rw [hc] at q3; exact absurd q3.1 (by decide)
          have hkA2 : ∀ a', (∀ h, h < N 0 → a' ≠ A h) → kAny (fun h' => cond h' && decide (a' = A h')) (N 0) 0 = false := by
            intro a' ha
            cases hb : kAny (fun h' => cond h' && decide (a' = A h')) (N 0) 0 with
            | false => rfl
            | true =>
              obtain ⟨h', _, q2, q3⟩ := kAny_iff.mp hb
              simp only [Bool.and_eq_true, decide_eq_true_eq] at q3
              exact absurd q3.2 (ha h' (by omega))
          rw [if_neg h0n]
          refine hK _ _ (kJ.put (q := q) (q' := mj_u1 q x fun _ => 0) hG ?C ?s0 ?s13 ?hi ?ne ?ho)
          case s0 => intro j hj; rw [hs2 0 (by decide)]; exact kAdd_0 hj
          case s13 => rw [hs2 0 (by decide)]; exact kAdd_13
          case hi => intro j hj; rw [hs2 j (by omega)]; exact kAdd_hi hj
          case ne =>
            intro h hh h1
            rw [hs1 h hh]
            split
            · exact nI_pos' (by omega)
            · exact h1
          case ho =>
            have S : kHo (kAdd s (N 0) (nI k) f a b p a) (N 0 + 1) := g8.add n40 w2 ⟨a0, w4, w5⟩ w1 ⟨a0, a1⟩ (.inr ⟨k, hk, rfl, z2, .inl z3, z1⟩)
            refine S.mv (m := N 0) (by omega) (by omega) (by rw [hs2 0 (by decide)]) (fun j a b => hs2 j (by omega)) ?_ ?_
            · intro h hh
              by_cases e : h = N 0
              · subst e; left; rw [hs1n, n1]
              · have hh' : h < N 0 := by omega
                rw [hs1 h hh']
                by_cases e2 : cond h = true
                · right
                  obtain ⟨q1, q2, q3, q4⟩ := hmv h hh' e2
                  rw [if_pos e2, kAdd_lt (by decide) hh', kAdd_lt (by decide) hh', kAdd_lt (by decide) hh', kAdd_lt (by decide) hh', n3, n4, n6, kAdd_0 (by decide)]
                  exact ⟨rfl, ⟨k, by omega, q1⟩, q2, q3, q4, rfl⟩
                · left; rw [if_neg e2, kAdd_lt (by decide) hh']
            · obtain ⟨rk, R⟩ := g8.2.2.1
              refine rk_ins n40 hk R hs1n fun h hh => ?_
              rw [hs1 h hh]
              by_cases e2 : cond h = true
              · right
                rw [if_pos e2]
                exact ⟨rfl, (R h hh).2 k hk (hmv h hh e2).1⟩
              · left; rw [if_neg e2]; exact ⟨rfl, hG.out hh⟩
          case C =>
            refine g1.new n40 ?_ ?_ ?_ ?_ ?_ ?_ ?_ ?_
            · intro h hh
              have e := hne h hh
              obtain ⟨q1, q2, _⟩ := g1.2.2.2.2.1 h hh
              refine ⟨?_, fun j a1 a2 => ?_⟩
              · simp only [mq_u2, mq_u1, e, mq_tag, mq_len, mq_i, mq_r, mq_l, mq_nx, mq_wi, mq_wr, mq_wl, true_and, and_true, and_false, false_and, and_self, ↓reduceIte]; exact q1
              · rw [hs2 j (by omega), kAdd_lt (by omega) hh]; simp only [mq_u2, mq_u1, e, mq_tag, mq_len, mq_i, mq_r, mq_l, mq_nx, mq_wi, mq_wr, mq_wl, true_and, and_true, and_false, false_and, and_self, ↓reduceIte]; exact q2 j a1 a2
            · intro h hh
              have e := hne h hh
              obtain ⟨_, _, q3, q4, q5⟩ := g1.2.2.2.2.1 h hh
              refine ⟨?_, ?_, ?_⟩
              · by_cases e2 : h + 1 = N 0
                · have e3 : h = N 0 - 1 := by omega
                  subst e3
                  rw [mq_u2s, if_pos e2]
                · have e3 : A h ≠ A (N 0 - 1) := fun z => by rw [g1.inj hh (by omega)] at z; omega
                  rw [mq_u2n e3, if_neg e2]
                  simp only [kMvr, mq_u2, mq_u1, e, mq_tag, mq_len, mq_i, mq_r, mq_l, mq_nx, mq_wi, mq_wr, mq_wl, true_and, and_true, and_false, false_and, and_self, ↓reduceIte, Nat.reduceEqDiff]; rw [q3, kP_lt (by omega)]
              · rw [mq_u2k (by decide), hs1 h hh]
                unfold kMvr
                rw [hkA h hh]
                by_cases e2 : cond h = true
                · rw [if_pos ⟨rfl, e2⟩, if_pos e2, kR_I (by omega), mq_u1s]
                · rw [if_neg (fun z => e2 z.2), if_neg e2]
                  simp only [mq_u2, mq_u1, e, mq_tag, mq_len, mq_i, mq_r, mq_l, mq_nx, mq_wi, mq_wr, mq_wl, true_and, and_true, and_false, false_and, and_self, ↓reduceIte]
                  rw [q4]
                  rcases g1.V1 hh with hv' | ⟨j, hj, hv'⟩
                  · rw [kR_n hv', kR_n hv']
                  · rw [hv', kR_I (by omega), kR_I (by omega)]; exact (mq_u1n (by omega)).symm
              · rw [mq_u2k (by decide), hs2 12 (by decide), kAdd_lt (by decide) hh]
                simp only [kMvr, mq_u2, mq_u1, e, mq_tag, mq_len, mq_i, mq_r, mq_l, mq_nx, mq_wi, mq_wr, mq_wl, true_and, and_true, and_false, false_and, and_self, ↓reduceIte, Nat.reduceEqDiff]; exact q5
            · have e9 : ∀ y, mj_u2 (kMvr (mj_u2 (mj_u1 r x fun _ => 0) x 2 (A k)) A cond (N 0) 0 x) (A (N 0 - 1)) 1 x x y = mj_u2 (mj_u1 r x fun _ => 0) x 2 (A k) x y := by
                intro y
                rw [mq_u2n (Ne.symm (hne _ (by omega)))]
                unfold kMvr
                rw [hkA2 x (fun h hh => Ne.symm (hne h hh))]; simp only [true_or, or_true, false_or, or_false, not_true_eq_false, not_false_eq_true, true_and, and_true, false_and, and_false, and_self, decide_true, decide_false, ↓reduceIte, Bool.true_and, Bool.false_and, Bool.and_true, Bool.and_false, Bool.not_true, Bool.not_false, Bool.false_eq_true, Bool.true_or, Bool.or_true, Bool.false_or, Bool.or_false, reduceCtorEq, Bool.and_self, Bool.or_self, ne_eq]
              refine ⟨mq_u2s, fun j a1 a2 => ?_, ?_, ?_, ?_⟩
              · rw [hs2 j (by omega)]
                obtain rfl | rfl | rfl | rfl | rfl | rfl | rfl | rfl | rfl | rfl : j = 2 ∨ j = 3 ∨ j = 4 ∨ j = 5 ∨ j = 6 ∨ j = 7 ∨ j = 8 ∨ j = 9 ∨ j = 10 ∨ j = 11 := by omega
                all_goals simp [kfd, mq_u2, mq_u1, n2, n3, n4, n5, n6, n7, n8, n9, n10, n11]
              · rw [e9]; simp [mq_u2, mq_u1]
              · rw [e9, hs1n, kR_I k1, mq_u1n (by omega)]; simp [mq_u2, mq_u1]
              · rw [e9]; simp [mq_u2, mq_u1]
            · intro h hh
              by_cases e : h = N 0
              · subst e; rw [hs1n]; exact kV_I (by omega)
              · rw [hs1 h (by omega)]
                split
                · exact kV_I (by omega)
                · exact kV_up (g1.V1 (by omega)) (by omega)
            · intro h hh; rw [hs2 12 (by decide), kAdd_lt (by decide) hh]; exact g1.V12 hh
            · rw [hs2 12 (by decide), n12]; decide
            · intro a' ha hax
              refine ⟨?_, ?_⟩
              · funext y; simp [mq_u2, mq_u1, hax]
              · funext y
                have e1 : a' ≠ A (N 0 - 1) := fun z => ha (by rw [z]; exact g1.tH (by omega))
                rw [mq_u2n e1]
                unfold kMvr
                rw [hkA2 a' (fun h hh z => ha (by rw [z]; exact g1.tH hh))]
                simp [mq_u2, mq_u1, hax]
            · intro j hj; rw [hs2 j (by omega)]; exact kAdd_hi hj
      · simp only [vc_X11_between, vc_X12_between, mq_tag, mq_len, mq_i, mq_r, mq_l, mq_nx, mq_wi, mq_wr, mq_wl, true_and, and_true, and_false, false_and, and_self, ↓reduceIte, kT_0, kT_1, kT_2, kT_3, kT_4, kT_5, kT_6, kT_7, kT_8, kT_9, kT_10, kT_11, kT_12, kT_13, kT_14, kT_15, kT_16, kT_17, kT_18, kT_19, kT_20, kT_21, kT_22, kT_23, kL_2, kL_3, kL_5, kL_10, kL_11, kL_12, kL_14, kL_15, kL_17, kL_18, kL_19, kL_20, kL_21, kL_22, kL_23, kW_0_0, kW_0_1, kW_0_2, kW_0_3, kW_0_4, kW_0_5, kW_0_6, kW_0_7, kW_1_4, kW_1_5, kW_4_0, kW_4_1, kW_9_0, kW_9_1, kW_9_2, kW_13_0, kW_13_1, kW_16_0, kW_16_1, kW_16_2, kW_16_3, kW_16_4, kW_16_5, kW_1_1, kW_1_2, kW_4_4, kW_8_0, kW_8_1, kW_w1_1, kW_w1_2, kW_w4_4, kW_w8_0, kW_w8_1, kI_0, kI_w0, kI_1, kI_w1, kI_2, kI_w2, kI_3, kI_w3, kI_4, kI_w4, kI_5, kI_w5, kI_6, kI_w6, kI_7, kI_w7, kI_8, kI_w8, kI_9, kI_w9, kI_10, kI_w10, kI_11, kI_w11, kI_12, kI_w12, kI_13, kI_w13, kI_14, kI_w14, kI_15, kI_w15, kI_16, kI_w16, kI_17, kI_w17, kI_18, kI_w18, kI_19, kI_w19, kI_20, kI_w20, kI_21, kI_w21, kI_22, kI_w22, kI_23, kI_w23, kT_24, kT_25, kT_26, kT_27, kT_28, kT_29, kT_30, kT_31, kT_32, kT_33, kT_34, kT_35, kT_36, kT_37, kT_38, kT_39, kT_40, kT_41, kT_42, kT_43, kT_44, kT_45, kT_46, kT_47, kT_48, kT_49, kT_50, kT_51, kT_52, kT_53, kT_54, kT_55, kT_56, kT_57, kT_58, kT_59, kT_60, kT_61, kL_25, kL_26, kL_27, kL_28, kL_29, kL_30, kL_31, kL_32, kL_33, kL_34, kL_35, kL_36, kL_37, kL_38, kL_39, kL_40, kL_41, kL_42, kL_43, kL_44, kL_45, kL_46, kL_47, kL_48, kL_49, kL_50, kL_51, kL_52, kL_53, kL_54, kL_55, kL_56, kL_57, kL_58, kL_59, kL_60, kL_61, kW_24_1, kW_24_2, kW_24_3, kW_24_4, kW_24_5, kW_24_6, kW_24_7, kW_24_8, kW_24_9, kW_24_10, kW_24_11, kW_24_12, kW_24_14, kW_24_15, kW_24_16, kW_24_17, kW_24_18, kW_24_19, kW_24_21, kW_24_22, kW_24_23, kW_24_25, kW_24_26, kW_24_27, kW_24_28, kW_24_29, kW_24_31, kW_24_32, kW_24_33, kW_24_34, kW_24_36, kW_24_37, kW_24_44, kW_24_49, kW_24_50, kW_24_51, kW_24_52, kI_24, kI_w24, kI_25, kI_w25, kI_26, kI_w26, kI_27, kI_w27, kI_28, kI_w28, kI_29, kI_w29, kI_30, kI_w30, kI_31, kI_w31, kI_32, kI_w32, kI_33, kI_w33, kI_34, kI_w34, kI_35, kI_w35, kI_36, kI_w36, kI_37, kI_w37, kI_38, kI_w38, kI_39, kI_w39, kI_40, kI_w40, kI_41, kI_w41, kI_42, kI_w42, kI_43, kI_w43, kI_44, kI_w44, kI_45, kI_w45, kI_46, kI_w46, kI_47, kI_w47, kI_48, kI_w48, kI_49, kI_w49, kI_50, kI_w50, kI_51, kI_w51, kI_52, kI_w52, kI_53, kI_w53, kI_54, kI_w54, kI_55, kI_w55, kI_56, kI_w56, kI_57, kI_w57, kI_58, kI_w58, kI_59, kI_w59, kI_60, kI_w60, kI_61, kI_w61, c_find g1 g2 hk, c_refusal g1 hk g3.2.1, hG.hd, hw, c_canBetween g1 g2 hk, hd, m_why hG.hn h40 hk (hG.hw k hk), true_or, or_true, false_or, or_false, not_true_eq_false, not_false_eq_true, true_and, and_true, false_and, and_false, and_self, decide_true, decide_false, ↓reduceIte, Bool.true_and, Bool.false_and, Bool.and_true, Bool.and_false, Bool.not_true, Bool.not_false, Bool.false_eq_true, Bool.true_or, Bool.or_true, Bool.false_or, Bool.or_false, reduceCtorEq, Bool.and_self, Bool.or_self, ne_eq, show ((0 : Int32) ≤ -5) = False from eq_false (by decide)]
        exact hK _ _ (kJ.mk hG)
    · have hwn := kWhy_n hw
      have hwn2 : ¬ 0 ≤ kWhy (N 0) (s 0 0) f a b p := fun z => by rw [i_lt] at hwn; have := i_le.mp z; omega
      simp only [vc_X11_between, vc_X12_between, mq_tag, mq_len, mq_i, mq_r, mq_l, mq_nx, mq_wi, mq_wr, mq_wl, true_and, and_true, and_false, false_and, and_self, ↓reduceIte, kT_0, kT_1, kT_2, kT_3, kT_4, kT_5, kT_6, kT_7, kT_8, kT_9, kT_10, kT_11, kT_12, kT_13, kT_14, kT_15, kT_16, kT_17, kT_18, kT_19, kT_20, kT_21, kT_22, kT_23, kL_2, kL_3, kL_5, kL_10, kL_11, kL_12, kL_14, kL_15, kL_17, kL_18, kL_19, kL_20, kL_21, kL_22, kL_23, kW_0_0, kW_0_1, kW_0_2, kW_0_3, kW_0_4, kW_0_5, kW_0_6, kW_0_7, kW_1_4, kW_1_5, kW_4_0, kW_4_1, kW_9_0, kW_9_1, kW_9_2, kW_13_0, kW_13_1, kW_16_0, kW_16_1, kW_16_2, kW_16_3, kW_16_4, kW_16_5, kW_1_1, kW_1_2, kW_4_4, kW_8_0, kW_8_1, kW_w1_1, kW_w1_2, kW_w4_4, kW_w8_0, kW_w8_1, kI_0, kI_w0, kI_1, kI_w1, kI_2, kI_w2, kI_3, kI_w3, kI_4, kI_w4, kI_5, kI_w5, kI_6, kI_w6, kI_7, kI_w7, kI_8, kI_w8, kI_9, kI_w9, kI_10, kI_w10, kI_11, kI_w11, kI_12, kI_w12, kI_13, kI_w13, kI_14, kI_w14, kI_15, kI_w15, kI_16, kI_w16, kI_17, kI_w17, kI_18, kI_w18, kI_19, kI_w19, kI_20, kI_w20, kI_21, kI_w21, kI_22, kI_w22, kI_23, kI_w23, kT_24, kT_25, kT_26, kT_27, kT_28, kT_29, kT_30, kT_31, kT_32, kT_33, kT_34, kT_35, kT_36, kT_37, kT_38, kT_39, kT_40, kT_41, kT_42, kT_43, kT_44, kT_45, kT_46, kT_47, kT_48, kT_49, kT_50, kT_51, kT_52, kT_53, kT_54, kT_55, kT_56, kT_57, kT_58, kT_59, kT_60, kT_61, kL_25, kL_26, kL_27, kL_28, kL_29, kL_30, kL_31, kL_32, kL_33, kL_34, kL_35, kL_36, kL_37, kL_38, kL_39, kL_40, kL_41, kL_42, kL_43, kL_44, kL_45, kL_46, kL_47, kL_48, kL_49, kL_50, kL_51, kL_52, kL_53, kL_54, kL_55, kL_56, kL_57, kL_58, kL_59, kL_60, kL_61, kW_24_1, kW_24_2, kW_24_3, kW_24_4, kW_24_5, kW_24_6, kW_24_7, kW_24_8, kW_24_9, kW_24_10, kW_24_11, kW_24_12, kW_24_14, kW_24_15, kW_24_16, kW_24_17, kW_24_18, kW_24_19, kW_24_21, kW_24_22, kW_24_23, kW_24_25, kW_24_26, kW_24_27, kW_24_28, kW_24_29, kW_24_31, kW_24_32, kW_24_33, kW_24_34, kW_24_36, kW_24_37, kW_24_44, kW_24_49, kW_24_50, kW_24_51, kW_24_52, kI_24, kI_w24, kI_25, kI_w25, kI_26, kI_w26, kI_27, kI_w27, kI_28, kI_w28, kI_29, kI_w29, kI_30, kI_w30, kI_31, kI_w31, kI_32, kI_w32, kI_33, kI_w33, kI_34, kI_w34, kI_35, kI_w35, kI_36, kI_w36, kI_37, kI_w37, kI_38, kI_w38, kI_39, kI_w39, kI_40, kI_w40, kI_41, kI_w41, kI_42, kI_w42, kI_43, kI_w43, kI_44, kI_w44, kI_45, kI_w45, kI_46, kI_w46, kI_47, kI_w47, kI_48, kI_w48, kI_49, kI_w49, kI_50, kI_w50, kI_51, kI_w51, kI_52, kI_w52, kI_53, kI_w53, kI_54, kI_w54, kI_55, kI_w55, kI_56, kI_w56, kI_57, kI_w57, kI_58, kI_w58, kI_59, kI_w59, kI_60, kI_w60, kI_61, kI_w61, c_find g1 g2 hk, c_refusal g1 hk g3.2.1, hG.hd, hw, hwn2, m_why hG.hn h40 hk (hG.hw k hk)]
      exact hK _ _ (kJ.mk hG)
  · simp only [vc_X11_between, vc_X12_between, vc_X11_refusalOfGrant, mq_tag, mq_len, mq_i, mq_r, mq_l, mq_nx, mq_wi, mq_wr, mq_wl, true_and, and_true, and_false, false_and, and_self, ↓reduceIte, kT_0, kT_1, kT_2, kT_3, kT_4, kT_5, kT_6, kT_7, kT_8, kT_9, kT_10, kT_11, kT_12, kT_13, kT_14, kT_15, kT_16, kT_17, kT_18, kT_19, kT_20, kT_21, kT_22, kT_23, kL_2, kL_3, kL_5, kL_10, kL_11, kL_12, kL_14, kL_15, kL_17, kL_18, kL_19, kL_20, kL_21, kL_22, kL_23, kW_0_0, kW_0_1, kW_0_2, kW_0_3, kW_0_4, kW_0_5, kW_0_6, kW_0_7, kW_1_4, kW_1_5, kW_4_0, kW_4_1, kW_9_0, kW_9_1, kW_9_2, kW_13_0, kW_13_1, kW_16_0, kW_16_1, kW_16_2, kW_16_3, kW_16_4, kW_16_5, kW_1_1, kW_1_2, kW_4_4, kW_8_0, kW_8_1, kW_w1_1, kW_w1_2, kW_w4_4, kW_w8_0, kW_w8_1, kI_0, kI_w0, kI_1, kI_w1, kI_2, kI_w2, kI_3, kI_w3, kI_4, kI_w4, kI_5, kI_w5, kI_6, kI_w6, kI_7, kI_w7, kI_8, kI_w8, kI_9, kI_w9, kI_10, kI_w10, kI_11, kI_w11, kI_12, kI_w12, kI_13, kI_w13, kI_14, kI_w14, kI_15, kI_w15, kI_16, kI_w16, kI_17, kI_w17, kI_18, kI_w18, kI_19, kI_w19, kI_20, kI_w20, kI_21, kI_w21, kI_22, kI_w22, kI_23, kI_w23, kT_24, kT_25, kT_26, kT_27, kT_28, kT_29, kT_30, kT_31, kT_32, kT_33, kT_34, kT_35, kT_36, kT_37, kT_38, kT_39, kT_40, kT_41, kT_42, kT_43, kT_44, kT_45, kT_46, kT_47, kT_48, kT_49, kT_50, kT_51, kT_52, kT_53, kT_54, kT_55, kT_56, kT_57, kT_58, kT_59, kT_60, kT_61, kL_25, kL_26, kL_27, kL_28, kL_29, kL_30, kL_31, kL_32, kL_33, kL_34, kL_35, kL_36, kL_37, kL_38, kL_39, kL_40, kL_41, kL_42, kL_43, kL_44, kL_45, kL_46, kL_47, kL_48, kL_49, kL_50, kL_51, kL_52, kL_53, kL_54, kL_55, kL_56, kL_57, kL_58, kL_59, kL_60, kL_61, kW_24_1, kW_24_2, kW_24_3, kW_24_4, kW_24_5, kW_24_6, kW_24_7, kW_24_8, kW_24_9, kW_24_10, kW_24_11, kW_24_12, kW_24_14, kW_24_15, kW_24_16, kW_24_17, kW_24_18, kW_24_19, kW_24_21, kW_24_22, kW_24_23, kW_24_25, kW_24_26, kW_24_27, kW_24_28, kW_24_29, kW_24_31, kW_24_32, kW_24_33, kW_24_34, kW_24_36, kW_24_37, kW_24_44, kW_24_49, kW_24_50, kW_24_51, kW_24_52, kI_24, kI_w24, kI_25, kI_w25, kI_26, kI_w26, kI_27, kI_w27, kI_28, kI_w28, kI_29, kI_w29, kI_30, kI_w30, kI_31, kI_w31, kI_32, kI_w32, kI_33, kI_w33, kI_34, kI_w34, kI_35, kI_w35, kI_36, kI_w36, kI_37, kI_w37, kI_38, kI_w38, kI_39, kI_w39, kI_40, kI_w40, kI_41, kI_w41, kI_42, kI_w42, kI_43, kI_w43, kI_44, kI_w44, kI_45, kI_w45, kI_46, kI_w46, kI_47, kI_w47, kI_48, kI_w48, kI_49, kI_w49, kI_50, kI_w50, kI_51, kI_w51, kI_52, kI_w52, kI_53, kI_w53, kI_54, kI_w54, kI_55, kI_w55, kI_56, kI_w56, kI_57, kI_w57, kI_58, kI_w58, kI_59, kI_w59, kI_60, kI_w60, kI_61, kI_w61, c_find_no g1 g2 hv, m_why_no hG.hn h40 hv, show ((-1 : Int32) = 0) = False from eq_false (by decide), show ((0 : Int32) ≤ -1) = False from eq_false (by decide)]
    exact hK _ _ (kJ.mk hG)
end

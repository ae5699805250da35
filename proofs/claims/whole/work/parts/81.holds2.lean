/-! STAGE B: whether a text is so, the reference's walk -/
section
variable {B : Nat} {A AA AT AN N t l u : Nat → Nat} {i c c0 s : Nat → Nat → Int32} {r : Nat → Nat → Nat} {q g w : Nat → Nat → Int64} {x : Nat}
theorem ml_ho {t2 l2 u2 : Nat → Nat} {i2 : Nat → Nat → Int32} {r2 : Nat → Nat → Nat} {x2 : Nat} (hG : kG B A AA AT AN N c0 s t l i r u x) {a h : Nat} (ha : a < N 1) (hh : h < N 0) {d v : Int32} (hd : 0 ≤ d ∧ d ≤ 73000) {tu : Nat → Bool} (htu : ∀ k, k ≤ 48 → (nI k = v) = (tu k = true)) {f : Nat → Int32} (hf : ∀ k, f k = s 16 (48 * a + k)) {len : Nat} (hl : s 17 a = nI len) (hlen : len ≤ 48) {post : Bool → mj_M → Prop} :
    ∀ (m k st op : Nat) (W I T : Nat → Bool) (cnt : Nat) (lf cp nm : Int32) (s1 : Nat → Nat → Int32), k + m = len → gF f m k st op = none → (st = 0 ∨ (2 < st ∧ (m = 0 ∨ gDig (f k) = false))) → op ≤ k → cnt ≤ k → rF s s1 → rM s1 W I T op cnt →
    (∀ s', rF s s' → s' 0 24 = nI (ev f (fun ch => kFc s h ch d) tu m k W I T op cnt lf cp nm).2 → post (ev f (fun ch => kFc s h ch d) tu m k W I T op cnt lf cp nm).1 (kT B t2, kL B l2, kI B i2 c s', kW B r2 u2, kI B q g w, x2)) →
    ∃ fe, vb_X12_holds_16 post fe (B + 24) (nI a) (nI h) d v (nI op) (nI k) (kT B t2, kL B l2, kI B i2 c s1, kW B r2 u2, kI B q g w, x2)
  | 0, k, st, op, W, I, T, cnt, lf, cp, nm, s1, hk, hg, hst, ho, hc, hF, hr, hp => by
    have na12 := hG.1.na12
    have s17 : s1 17 a = nI len := by rw [hF.1 17 (by decide) (by decide) (by decide) (by decide)]; exact hl
    obtain ⟨p1, p2⟩ := id hr
    have := hp s1 hF p2
    have op0 : op = 0 := by
      unfold gF at hg
      split at hg
      · rename_i z; exact z.2
      · cases hg
    subst op0
    obtain ⟨q1, q2, q3⟩ := p1 0 (Nat.le_refl _)
    have v0 : vp_in 0 49 = True := by rw [← nI_0, ix_in (by decide)]; exact eq_true (by decide)
    refine ex_imp ⟨0, ?_⟩
    simp only [vb_X12_holds_16, mq_tag, mq_len, mq_i, mq_r, mq_l, mq_nx, mq_wi, mq_wr, mq_wl, true_and, and_true, and_false, false_and, and_self, ↓reduceIte, kT_24, kT_25, kT_26, kT_27, kT_28, kT_29, kT_30, kT_31, kT_32, kT_33, kT_34, kT_35, kT_36, kT_37, kT_38, kT_39, kT_40, kT_41, kT_42, kT_43, kT_44, kT_45, kT_46, kT_47, kT_48, kT_49, kT_50, kT_51, kT_52, kT_53, kT_54, kT_55, kT_56, kT_57, kT_58, kT_59, kT_60, kT_61, kL_25, kL_26, kL_27, kL_28, kL_29, kL_30, kL_31, kL_32, kL_33, kL_34, kL_35, kL_36, kL_37, kL_38, kL_39, kL_40, kL_41, kL_42, kL_43, kL_44, kL_45, kL_46, kL_47, kL_48, kL_49, kL_50, kL_51, kL_52, kL_53, kL_54, kL_55, kL_56, kL_57, kL_58, kL_59, kL_60, kL_61, kW_24_1, kW_24_2, kW_24_3, kW_24_4, kW_24_5, kW_24_6, kW_24_7, kW_24_8, kW_24_9, kW_24_10, kW_24_11, kW_24_12, kW_24_14, kW_24_15, kW_24_16, kW_24_17, kW_24_18, kW_24_19, kW_24_21, kW_24_22, kW_24_23, kW_24_25, kW_24_26, kW_24_27, kW_24_28, kW_24_29, kW_24_31, kW_24_32, kW_24_33, kW_24_34, kW_24_36, kW_24_37, kW_24_44, kW_24_49, kW_24_50, kW_24_51, kW_24_52, kI_24, kI_w24, kI_25, kI_w25, kI_26, kI_w26, kI_27, kI_w27, kI_28, kI_w28, kI_29, kI_w29, kI_30, kI_w30, kI_31, kI_w31, kI_32, kI_w32, kI_33, kI_w33, kI_34, kI_w34, kI_35, kI_w35, kI_36, kI_w36, kI_37, kI_w37, kI_38, kI_w38, kI_39, kI_w39, kI_40, kI_w40, kI_41, kI_w41, kI_42, kI_w42, kI_43, kI_w43, kI_44, kI_w44, kI_45, kI_w45, kI_46, kI_w46, kI_47, kI_w47, kI_48, kI_w48, kI_49, kI_w49, kI_50, kI_w50, kI_51, kI_w51, kI_52, kI_w52, kI_53, kI_w53, kI_54, kI_w54, kI_55, kI_w55, kI_56, kI_w56, kI_57, kI_w57, kI_58, kI_w58, kI_59, kI_w59, kI_60, kI_w60, kI_61, kI_w61, ix_in (show a < 2147483648 by omega), ix_nat (show a < 2147483648 by omega), show a < 13 by omega, s17, ix_le (show len < 2147483648 by omega) (show k < 2147483648 by omega), show len ≤ k by omega, v0, show (0 : Int32).toNatClampNeg = 0 by decide, q1, q2, ix_b0]
    simp only [ev] at this
    rcases Bool.eq_false_or_eq_true (W 0) with z1 | z1 <;> rcases Bool.eq_false_or_eq_true (I 0) with z2 | z2 <;> simp only [z1, z2, true_or, or_true, false_or, or_false, not_true_eq_false, not_false_eq_true, true_and, and_true, false_and, and_false, and_self, decide_true, decide_false, ↓reduceIte, Bool.true_and, Bool.false_and, Bool.and_true, Bool.and_false, Bool.not_true, Bool.not_false, Bool.false_eq_true, Bool.true_or, Bool.or_true, Bool.false_or, Bool.or_false, reduceCtorEq, Bool.and_self, Bool.or_self, ne_eq] at this ⊢ <;> exact this
  | m + 1, k, st, op, W, I, T, cnt, lf, cp, nm, s1, hk, hg, hst, ho, hc, hF, hr, hp => by
    have na12 := hG.1.na12
    have a1 : a < 2147483648 := by omega
    have a13 : a < 13 := by omega
    have k1 : k < 2147483648 := by omega
    have o1 : op < 2147483648 := by omega
    have o49 : op < 49 := by omega
    have l1 : len < 2147483648 := by omega
    have s17 : s1 17 a = nI len := by rw [hF.1 17 (by decide) (by decide) (by decide) (by decide)]; exact hl
    have s16 : ∀ k, s1 16 (48 * a + k) = f k := fun k => by rw [hF.1 16 (by decide) (by decide) (by decide) (by decide), hf]
    have m48 : (48 : Int32) * nI a = nI (48 * a) := by rw [show (48 : Int32) = nI 48 by decide]; exact (Int32.ofNat_mul 48 a).symm
    have k2 : 48 * a + k < 2147483648 := by omega
    obtain ⟨p1, p2⟩ := id hr
    obtain ⟨q1, q2, q3⟩ := p1 op (Nat.le_refl _)
    obtain ⟨st', hst', hg'⟩ : ∃ st', gSt st (f k) op = some st' ∧ gF f m (k + 1) st' (gOp (f k) op) = none := by
      unfold gF at hg
      cases hs : gSt st (f k) op with
      | none => rw [hs] at hg; cases hg
      | some st' => rw [hs] at hg; exact ⟨st', rfl, hg⟩
    rw [ex_succ rfl]
    simp only [vb_X12_holds_16, mq_tag, mq_len, mq_i, mq_r, mq_l, mq_nx, mq_wi, mq_wr, mq_wl, true_and, and_true, and_false, false_and, and_self, ↓reduceIte, kT_24, kT_25, kT_26, kT_27, kT_28, kT_29, kT_30, kT_31, kT_32, kT_33, kT_34, kT_35, kT_36, kT_37, kT_38, kT_39, kT_40, kT_41, kT_42, kT_43, kT_44, kT_45, kT_46, kT_47, kT_48, kT_49, kT_50, kT_51, kT_52, kT_53, kT_54, kT_55, kT_56, kT_57, kT_58, kT_59, kT_60, kT_61, kL_25, kL_26, kL_27, kL_28, kL_29, kL_30, kL_31, kL_32, kL_33, kL_34, kL_35, kL_36, kL_37, kL_38, kL_39, kL_40, kL_41, kL_42, kL_43, kL_44, kL_45, kL_46, kL_47, kL_48, kL_49, kL_50, kL_51, kL_52, kL_53, kL_54, kL_55, kL_56, kL_57, kL_58, kL_59, kL_60, kL_61, kW_24_1, kW_24_2, kW_24_3, kW_24_4, kW_24_5, kW_24_6, kW_24_7, kW_24_8, kW_24_9, kW_24_10, kW_24_11, kW_24_12, kW_24_14, kW_24_15, kW_24_16, kW_24_17, kW_24_18, kW_24_19, kW_24_21, kW_24_22, kW_24_23, kW_24_25, kW_24_26, kW_24_27, kW_24_28, kW_24_29, kW_24_31, kW_24_32, kW_24_33, kW_24_34, kW_24_36, kW_24_37, kW_24_44, kW_24_49, kW_24_50, kW_24_51, kW_24_52, kI_24, kI_w24, kI_25, kI_w25, kI_26, kI_w26, kI_27, kI_w27, kI_28, kI_w28, kI_29, kI_w29, kI_30, kI_w30, kI_31, kI_w31, kI_32, kI_w32, kI_33, kI_w33, kI_34, kI_w34, kI_35, kI_w35, kI_36, kI_w36, kI_37, kI_w37, kI_38, kI_w38, kI_39, kI_w39, kI_40, kI_w40, kI_41, kI_w41, kI_42, kI_w42, kI_43, kI_w43, kI_44, kI_w44, kI_45, kI_w45, kI_46, kI_w46, kI_47, kI_w47, kI_48, kI_w48, kI_49, kI_w49, kI_50, kI_w50, kI_51, kI_w51, kI_52, kI_w52, kI_53, kI_w53, kI_54, kI_w54, kI_55, kI_w55, kI_56, kI_w56, kI_57, kI_w57, kI_58, kI_w58, kI_59, kI_w59, kI_60, kI_w60, kI_61, kI_w61, ix_in a1, ix_nat a1, a13, s17, ix_le l1 k1, show ¬ len ≤ k by omega, m48, nI_add, ix_in k2, ix_nat k2, show 48 * a + k < 624 by omega, s16, nI_1, ex_ite, exists_and_left, exists_const, exists_and_right]
    simp only [ev] at hp
    -- what st' is, where the sign isn't a fact's
    have nx : ∀ z : Int32, f k = z → (z = 33 ∨ z = 40 → st' = 0) ∧ (z = 41 → st' = 8) ∧ ((z = 124 ∨ z = 38) → st' = 0) := by
      intro z hz
      rw [hz] at hst'
      unfold gSt at hst'
      refine ⟨fun y => ?_, fun y => ?_, fun y => ?_⟩
      · split at hst'
        · first | (cases hst'; rfl) | (rw [if_pos y] at hst'; cases hst'; rfl)
        · split at hst'
          · rcases y with y | y <;> rw [y] at hst' <;> rw [if_neg (by decide)] at hst' <;> cases hst'
          · split at hst'
            · rename_i y2; rcases y with y | y <;> rw [y] at y2 <;> exact absurd y2.2 (by decide)
            · split at hst'
              · cases hst'
              · rcases y with y | y <;> rw [y] at hst' <;> rw [if_neg (by decide), if_neg (fun h => absurd h.1 (by decide))] at hst' <;> cases hst'
      · subst y
        split at hst'
        · rw [if_neg (by decide), if_neg (by decide)] at hst'; cases hst'
        · split at hst'
          · rw [if_neg (by decide)] at hst'; cases hst'
          · split at hst'
            · rename_i y2; exact absurd y2.2 (by decide)
            · split at hst'
              · cases hst'
              · rw [if_neg (by decide)] at hst'
                split at hst'
                · cases hst'; rfl
                · cases hst'
      · split at hst'
        · rcases y with y | y <;> rw [y] at hst' <;> rw [if_neg (by decide), if_neg (by decide)] at hst' <;> cases hst'
        · split at hst'
          · rcases y with y | y <;> rw [y] at hst' <;> rw [if_neg (by decide)] at hst' <;> cases hst'
          · split at hst'
            · rename_i y2; rcases y with y | y <;> rw [y] at y2 <;> exact absurd y2.2 (by decide)
            · split at hst'
              · cases hst'
              · rw [if_pos (by rcases y with y | y; exact .inr y; exact .inl y)] at hst'; cases hst'; rfl
    have v8 : ∀ m' k', (st' = 8 ∨ st' = 0) → gF f m' k' st' (gOp (f k) op) = none → (st' = 0 ∨ (2 < st' ∧ (m' = 0 ∨ gDig (f k') = false))) := by
      intro m' k' h8 hgn
      rcases h8 with h8 | h8
      · right
        refine ⟨by omega, ?_⟩
        cases m' with
        | zero => exact .inl rfl
        | succ m' =>
          right
          cases hdd : gDig (f k') with
          | false => rfl
          | true =>
            exfalso
            obtain ⟨d38, d124, d41, d40⟩ := gDig_n hdd
            unfold gF at hgn
            have : gSt st' (f k') (gOp (f k) op) = none := by
              unfold gSt
              rw [if_neg (by omega), if_neg (by omega), if_neg (by omega), if_neg (by omega), if_neg (fun z => by rcases z with z | z; exact d38 z; exact d124 z), if_neg (fun z => d41 z.1)]
            rw [this] at hgn; cases hgn
      · exact .inl h8
    rcases Classical.propComplete (f k = 33) with z33 | z33
    · have e33 : f k = 33 := of_eq_true z33
      have eo : gOp (f k) op = op := by rw [e33]; rfl
      have hs0 := (nx 33 e33).1 (.inl rfl)
      have hv := v8 m (k + 1) (.inr hs0) hg'
      rw [eo] at hg'
      simp only [z33, show mj_fact (f k) = false by rw [e33]; decide, show gDig (f k) = false by rw [e33]; decide, show kCs (f k) = false by rw [e33]; decide, Bool.false_eq_true, ↓reduceIte] at hp ⊢
      have J : rM (mj_u2 s1 23 op (mj_b (!T op))) W I (ub T op (!T op)) op cnt := by
        refine ⟨fun j hj => ?_, by rw [mq_u2n (by decide)]; exact p2⟩
        obtain ⟨y1, y2, y3⟩ := p1 j hj
        refine ⟨by rw [mq_u2n (by decide)]; exact y1, by rw [mq_u2n (by decide)]; exact y2, ?_⟩
        by_cases e : j = op
        · subst e; rw [mq_u2s]; simp [ub]
        · rw [mq_u2k e]; simp [ub, e, y3]
      have R := ml_ho hG ha hh hd htu hf hl hlen m (k + 1) st' op W I _ cnt lf cp nm _ (by omega) hg' hv (by omega) (by omega) (hF.trans (rF.w21 (.inr (.inr rfl)) op _)) J hp
      simp only [ix_in o1, ix_nat o1, o49, q3, ix_b0, true_and]
      rcases Bool.eq_false_or_eq_true (T op) with y | y
      · simp only [y, Bool.not_true, Bool.true_eq_false, ↓reduceIte] at R ⊢; exact R
      · simp only [y, Bool.not_false, ↓reduceIte] at R ⊢; exact R
    · rcases Classical.propComplete (f k = 40) with z40 | z40
      · have e40 : f k = 40 := of_eq_true z40
        have eo : gOp (f k) op = op + 1 := by rw [e40]; rfl
        have hs0 := (nx 40 e40).1 (.inr rfl)
        have hv := v8 m (k + 1) (.inr hs0) hg'
        rw [eo] at hg'
        simp only [z33, z40, show (f k = 124) = False by rw [e40]; exact eq_false (by decide), show mj_fact (f k) = false by rw [e40]; decide, show gDig (f k) = false by rw [e40]; decide, show kCs (f k) = false by rw [e40]; decide, Bool.false_eq_true, ↓reduceIte] at hp ⊢
        simp only [m_begin (show op + 1 < 49 by omega), ex_ite, exists_and_left, exists_const, exists_and_right]
        refine ml_ho hG ha hh hd htu hf hl hlen m (k + 1) st' (op + 1) _ _ _ cnt lf cp nm _ (by omega) hg' hv (by omega) (by omega) (((hF.trans (rF.w21 (.inl rfl) _ _)).trans (rF.w21 (.inr (.inl rfl)) _ _)).trans (rF.w21 (.inr (.inr rfl)) _ _)) ⟨fun j hj => ?_, ?_⟩ hp
        · by_cases e : j = op + 1
          · subst e; simp [mq_u2, ub, mj_b]
          · obtain ⟨y1, y2, y3⟩ := p1 j (by omega)
            simp [mq_u2, ub, e, y1, y2, y3]
        · rw [mq_u2n (by decide), mq_u2n (by decide), mq_u2n (by decide)]; exact p2
      · rcases Classical.propComplete (f k = 41) with z41 | z41
        · have e41 : f k = 41 := of_eq_true z41
          have eo : gOp (f k) op = op - 1 := by rw [e41]; rfl
          have hs8 := (nx 41 e41).2.1 rfl
          have hv := v8 m (k + 1) (.inl hs8) hg'
          rw [eo] at hg'
          have op0 : 0 < op := by
            rw [e41, hs8] at hst'
            unfold gSt at hst'
            split at hst'
            · rw [if_neg (by decide), if_neg (by decide)] at hst'; cases hst'
            · split at hst'
              · rw [if_neg (by decide)] at hst'; cases hst'
              · split at hst'
                · rename_i y2; exact absurd y2.2 (by decide)
                · split at hst'
                  · cases hst'
                  · rw [if_neg (by decide)] at hst'
                    split at hst'
                    · rename_i y; exact y.2
                    · cases hst'
          have em : nI op + -1 = nI (op - 1) := by rw [← ix_sub1 op0]; exact (Int32.sub_eq_add_neg _ _).symm
          simp only [z33, z40, z41, show (f k = 124) = False by rw [e41]; exact eq_false (by decide), show mj_fact (f k) = false by rw [e41]; decide, show gDig (f k) = false by rw [e41]; decide, show kCs (f k) = false by rw [e41]; decide, Bool.false_eq_true, ↓reduceIte] at hp ⊢
          have R := ml_ho hG ha hh hd htu hf hl hlen m (k + 1) st' (op - 1) W _ _ cnt lf cp nm _ (by omega) hg' hv (by omega) (by omega) ((hF.trans (rF.w21 (.inr (.inl rfl)) _ _)).trans (rF.w21 (.inr (.inr rfl)) _ _)) (hr.join (Nat.sub_le op 1) (I (op - 1) && ((W op || I op) != T (op - 1)))) hp
          simp only [vb_X12_holds_127, vb_X12_holds_122, mq_tag, mq_len, mq_i, mq_r, mq_l, mq_nx, mq_wi, mq_wr, mq_wl, true_and, and_true, and_false, false_and, and_self, ↓reduceIte, kT_24, kT_25, kT_26, kT_27, kT_28, kT_29, kT_30, kT_31, kT_32, kT_33, kT_34, kT_35, kT_36, kT_37, kT_38, kT_39, kT_40, kT_41, kT_42, kT_43, kT_44, kT_45, kT_46, kT_47, kT_48, kT_49, kT_50, kT_51, kT_52, kT_53, kT_54, kT_55, kT_56, kT_57, kT_58, kT_59, kT_60, kT_61, kL_25, kL_26, kL_27, kL_28, kL_29, kL_30, kL_31, kL_32, kL_33, kL_34, kL_35, kL_36, kL_37, kL_38, kL_39, kL_40, kL_41, kL_42, kL_43, kL_44, kL_45, kL_46, kL_47, kL_48, kL_49, kL_50, kL_51, kL_52, kL_53, kL_54, kL_55, kL_56, kL_57, kL_58, kL_59, kL_60, kL_61, kW_24_1, kW_24_2, kW_24_3, kW_24_4, kW_24_5, kW_24_6, kW_24_7, kW_24_8, kW_24_9, kW_24_10, kW_24_11, kW_24_12, kW_24_14, kW_24_15, kW_24_16, kW_24_17, kW_24_18, kW_24_19, kW_24_21, kW_24_22, kW_24_23, kW_24_25, kW_24_26, kW_24_27, kW_24_28, kW_24_29, kW_24_31, kW_24_32, kW_24_33, kW_24_34, kW_24_36, kW_24_37, kW_24_44, kW_24_49, kW_24_50, kW_24_51, kW_24_52, kI_24, kI_w24, kI_25, kI_w25, kI_26, kI_w26, kI_27, kI_w27, kI_28, kI_w28, kI_29, kI_w29, kI_30, kI_w30, kI_31, kI_w31, kI_32, kI_w32, kI_33, kI_w33, kI_34, kI_w34, kI_35, kI_w35, kI_36, kI_w36, kI_37, kI_w37, kI_38, kI_w38, kI_39, kI_w39, kI_40, kI_w40, kI_41, kI_w41, kI_42, kI_w42, kI_43, kI_w43, kI_44, kI_w44, kI_45, kI_w45, kI_46, kI_w46, kI_47, kI_w47, kI_48, kI_w48, kI_49, kI_w49, kI_50, kI_w50, kI_51, kI_w51, kI_52, kI_w52, kI_53, kI_w53, kI_54, kI_w54, kI_55, kI_w55, kI_56, kI_w56, kI_57, kI_w57, kI_58, kI_w58, kI_59, kI_w59, kI_60, kI_w60, kI_61, kI_w61, ix_in o1, ix_nat o1, o49, q1, q2, ix_b0, em, m_join hr (Nat.sub_le op 1) (show op - 1 < 49 by omega), ex_ite, exists_and_left, exists_const, exists_and_right]
          rcases Bool.eq_false_or_eq_true (W op) with y1 | y1 <;> rcases Bool.eq_false_or_eq_true (I op) with y2 | y2 <;> simp only [y1, y2, Bool.or_self, Bool.true_or, Bool.or_true, Bool.true_eq_false, ↓reduceIte] at R ⊢ <;> exact R
        · rcases Classical.propComplete (f k = 124) with z124 | z124
          · have e124 : f k = 124 := of_eq_true z124
            have eo : gOp (f k) op = op := by rw [e124]; rfl
            have hs0 := (nx 124 e124).2.2 (.inl rfl)
            have hv := v8 m (k + 1) (.inr hs0) hg'
            rw [eo] at hg'
            simp only [z33, z40, z41, z124, show mj_fact (f k) = false by rw [e124]; decide, show gDig (f k) = false by rw [e124]; decide, show kCs (f k) = false by rw [e124]; decide, Bool.false_eq_true, ↓reduceIte] at hp ⊢
            have J : rM (mj_u2 (mj_u2 s1 21 op (mj_b (W op || I op))) 22 op (mj_b true)) (ub W op (W op || I op)) (ub I op true) T op cnt := by
              refine ⟨fun j hj => ?_, by rw [mq_u2n (by decide), mq_u2n (by decide)]; exact p2⟩
              obtain ⟨y1, y2, y3⟩ := p1 j hj
              by_cases e : j = op
              · subst e; simp [mq_u2, ub, y3]
              · simp [mq_u2, ub, e, y1, y2, y3]
            have R := ml_ho hG ha hh hd htu hf hl hlen m (k + 1) st' op _ _ T cnt lf cp nm _ (by omega) hg' hv (by omega) (by omega) ((hF.trans (rF.w21 (.inl rfl) _ _)).trans (rF.w21 (.inr (.inl rfl)) _ _)) J hp
            simp only [vb_X12_holds_181, vb_X12_holds_176, mq_tag, mq_len, mq_i, mq_r, mq_l, mq_nx, mq_wi, mq_wr, mq_wl, true_and, and_true, and_false, false_and, and_self, ↓reduceIte, kT_24, kT_25, kT_26, kT_27, kT_28, kT_29, kT_30, kT_31, kT_32, kT_33, kT_34, kT_35, kT_36, kT_37, kT_38, kT_39, kT_40, kT_41, kT_42, kT_43, kT_44, kT_45, kT_46, kT_47, kT_48, kT_49, kT_50, kT_51, kT_52, kT_53, kT_54, kT_55, kT_56, kT_57, kT_58, kT_59, kT_60, kT_61, kL_25, kL_26, kL_27, kL_28, kL_29, kL_30, kL_31, kL_32, kL_33, kL_34, kL_35, kL_36, kL_37, kL_38, kL_39, kL_40, kL_41, kL_42, kL_43, kL_44, kL_45, kL_46, kL_47, kL_48, kL_49, kL_50, kL_51, kL_52, kL_53, kL_54, kL_55, kL_56, kL_57, kL_58, kL_59, kL_60, kL_61, kW_24_1, kW_24_2, kW_24_3, kW_24_4, kW_24_5, kW_24_6, kW_24_7, kW_24_8, kW_24_9, kW_24_10, kW_24_11, kW_24_12, kW_24_14, kW_24_15, kW_24_16, kW_24_17, kW_24_18, kW_24_19, kW_24_21, kW_24_22, kW_24_23, kW_24_25, kW_24_26, kW_24_27, kW_24_28, kW_24_29, kW_24_31, kW_24_32, kW_24_33, kW_24_34, kW_24_36, kW_24_37, kW_24_44, kW_24_49, kW_24_50, kW_24_51, kW_24_52, kI_24, kI_w24, kI_25, kI_w25, kI_26, kI_w26, kI_27, kI_w27, kI_28, kI_w28, kI_29, kI_w29, kI_30, kI_w30, kI_31, kI_w31, kI_32, kI_w32, kI_33, kI_w33, kI_34, kI_w34, kI_35, kI_w35, kI_36, kI_w36, kI_37, kI_w37, kI_38, kI_w38, kI_39, kI_w39, kI_40, kI_w40, kI_41, kI_w41, kI_42, kI_w42, kI_43, kI_w43, kI_44, kI_w44, kI_45, kI_w45, kI_46, kI_w46, kI_47, kI_w47, kI_48, kI_w48, kI_49, kI_w49, kI_50, kI_w50, kI_51, kI_w51, kI_52, kI_w52, kI_53, kI_w53, kI_54, kI_w54, kI_55, kI_w55, kI_56, kI_w56, kI_57, kI_w57, kI_58, kI_w58, kI_59, kI_w59, kI_60, kI_w60, kI_61, kI_w61, ix_in o1, ix_nat o1, o49, q1, q2, ix_b0, ex_ite, exists_and_left, exists_const, exists_and_right]
            rcases Bool.eq_false_or_eq_true (W op) with y1 | y1 <;> rcases Bool.eq_false_or_eq_true (I op) with y2 | y2 <;> simp only [y1, y2, Bool.or_self, Bool.true_or, Bool.or_true, Bool.true_eq_false, ↓reduceIte] at R ⊢ <;> exact R
          · rcases Classical.propComplete (f k = 38) with z38 | z38
            · have e38 : f k = 38 := of_eq_true z38
              have eo : gOp (f k) op = op := by rw [e38]; rfl
              have hs0 := (nx 38 e38).2.2 (.inr rfl)
              have hv := v8 m (k + 1) (.inr hs0) hg'
              rw [eo] at hg'
              simp only [z33, z40, z41, z124, z38, show mj_fact (f k) = false by rw [e38]; decide, show gDig (f k) = false by rw [e38]; decide, show kCs (f k) = false by rw [e38]; decide, Bool.false_eq_true, ↓reduceIte] at hp ⊢
              exact ml_ho hG ha hh hd htu hf hl hlen m (k + 1) st' op W I T cnt lf cp nm s1 (by omega) hg' hv (by omega) (by omega) hF hr hp
            · -- a comparison
              have n33 := of_eq_false z33
              have n40 := of_eq_false z40
              have n41 := of_eq_false z41
              have n124 := of_eq_false z124
              have n38 := of_eq_false z38
              have hst0 : st = 0 ∧ mj_fact (f k) = true ∧ st' = 1 := by
                rcases hst with z | ⟨z1, z2⟩
                · subst z
                  unfold gSt at hst'
                  rw [if_pos rfl, if_neg (fun y => by rcases y with y | y; exact n33 y; exact n40 y)] at hst'
                  split at hst'
                  · rename_i y; cases hst'; exact ⟨rfl, y, rfl⟩
                  · cases hst'
                · exfalso
                  have hdd : gDig (f k) = false := by rcases z2 with y | y; omega; exact y
                  unfold gSt at hst'
                  rw [if_neg (by omega), if_neg (by omega), if_neg (fun y => by rw [hdd] at y; exact absurd y.2 (by decide)), if_neg (by omega), if_neg (fun y => by rcases y with y | y; exact n38 y; exact n124 y), if_neg (fun y => n41 y.1)] at hst'
                  cases hst'
              obtain ⟨_, hfc, hs1⟩ := hst0
              subst hs1
              have eo : gOp (f k) op = op := by unfold gOp; rw [if_neg n40, if_neg n41]
              rw [eo] at hg'
              -- the comparing sign
              obtain ⟨m1, rfl⟩ : ∃ m1, m = m1 + 1 := by
                cases m with
                | zero => unfold gF at hg'; rw [if_neg (by omega)] at hg'; cases hg'
                | succ m => exact ⟨m, rfl⟩
              obtain ⟨hcs, hg2⟩ : kCs (f (k + 1)) = true ∧ gF f m1 (k + 2) 2 op = none := by
                unfold gF at hg'
                cases hs : gSt 1 (f (k + 1)) op with
                | none => rw [hs] at hg'; cases hg'
                | some st2 =>
                  rw [hs] at hg'
                  unfold gSt at hs
                  rw [if_neg (by decide), if_pos rfl] at hs
                  split at hs
                  · rename_i y
                    cases hs
                    have eo2 : gOp (f (k + 1)) op = op := by unfold gOp; rw [if_neg (fun z => by rw [z] at y; exact absurd y (by decide)), if_neg (fun z => by rw [z] at y; exact absurd y (by decide))]
                    rw [eo2] at hg'
                    exact ⟨decide_eq_true y, hg'⟩
                  · cases hs
              obtain ⟨m2, rfl⟩ : ∃ m2, m1 = m2 + 1 := by
                cases m1 with
                | zero => unfold gF at hg2; rw [if_neg (by omega)] at hg2; cases hg2
                | succ m => exact ⟨m, rfl⟩
              have hdg : gDig (f (k + 2)) = true := by
                cases hdd : gDig (f (k + 2)) with
                | true => rfl
                | false =>
                  exfalso
                  unfold gF at hg2
                  have : gSt 2 (f (k + 2)) op = none := by
                    unfold gSt
                    rw [if_neg (by decide), if_neg (by decide), if_neg (fun y => by rw [hdd] at y; exact absurd y.2 (by decide)), if_pos rfl]
                  rw [this] at hg2; cases hg2
              obtain ⟨m', k', st2, nm', r1, r2, r3, r4, r5, r6, r7, r8⟩ := ml_dg (B := B) (x := x2) (t := t2) (l := l2) (u := u2) (i := i2) (c := c) (r := r2) (q := q) (g := g) (w := w) (a := a) (by omega) hlen (fun ch => kFc s h ch d) tu m2 (k + 2) 2 op 0 (by omega) hg2 hdg (by omega)
              have hnf : mj_fact (f (k + 1)) = false := by
                cases z : mj_fact (f (k + 1)) with
                | false => rfl
                | true =>
                  simp only [kCs, decide_eq_true_eq] at hcs
                  rcases hcs with y | y | y <;> rw [y] at z <;> exact absurd z (by decide)
              have hnd : gDig (f (k + 1)) = false := by
                cases z : gDig (f (k + 1)) with
                | false => rfl
                | true =>
                  simp only [kCs, decide_eq_true_eq] at hcs
                  rcases hcs with y | y | y <;> rw [y] at z <;> exact absurd z (by decide)
              have eE : ev f (fun ch => kFc s h ch d) tu (m2 + 1 + 1) (k + 1) W I T op cnt (kFc s h (f k) d) cp nm = ev f (fun ch => kFc s h ch d) tu m' k' W (ub I op (I op && ((kCo (kFc s h (f k) d) (f (k + 1)) nm' != tu cnt) != T op))) (ub T op false) op (cnt + 1) (kFc s h (f k) d) (f (k + 1)) nm' := by
                rw [← r7]
                show (if mj_fact (f (k + 1)) = true then _ else _) = _
                rw [if_neg (by rw [hnf]; decide), if_neg (by rw [hnd]; decide), if_pos hcs]
              simp only [hfc, ↓reduceIte] at hp
              rw [eE] at hp
              have k3 : 48 * a + (k + 1) < 2147483648 := by omega
              simp only [z33, z40, z41, z124, z38, ↓reduceIte, ix_in k3, show 48 * a + (k + 1) < 624 by omega, ix_nat k3, s16, true_and]
              have r8' := fun K => r8 K post (nI h) d v (nI op) (f k) (f (k + 1)) s1 s17 (fun k _ => s16 k)
              simp only [r8']
              simp only [vb_X12_holds_278, vb_X12_holds_344, vb_X12_holds_365, vb_X12_holds_373, mq_tag, mq_len, mq_i, mq_r, mq_l, mq_nx, mq_wi, mq_wr, mq_wl, true_and, and_true, and_false, false_and, and_self, ↓reduceIte, kT_24, kT_25, kT_26, kT_27, kT_28, kT_29, kT_30, kT_31, kT_32, kT_33, kT_34, kT_35, kT_36, kT_37, kT_38, kT_39, kT_40, kT_41, kT_42, kT_43, kT_44, kT_45, kT_46, kT_47, kT_48, kT_49, kT_50, kT_51, kT_52, kT_53, kT_54, kT_55, kT_56, kT_57, kT_58, kT_59, kT_60, kT_61, kL_25, kL_26, kL_27, kL_28, kL_29, kL_30, kL_31, kL_32, kL_33, kL_34, kL_35, kL_36, kL_37, kL_38, kL_39, kL_40, kL_41, kL_42, kL_43, kL_44, kL_45, kL_46, kL_47, kL_48, kL_49, kL_50, kL_51, kL_52, kL_53, kL_54, kL_55, kL_56, kL_57, kL_58, kL_59, kL_60, kL_61, kW_24_1, kW_24_2, kW_24_3, kW_24_4, kW_24_5, kW_24_6, kW_24_7, kW_24_8, kW_24_9, kW_24_10, kW_24_11, kW_24_12, kW_24_14, kW_24_15, kW_24_16, kW_24_17, kW_24_18, kW_24_19, kW_24_21, kW_24_22, kW_24_23, kW_24_25, kW_24_26, kW_24_27, kW_24_28, kW_24_29, kW_24_31, kW_24_32, kW_24_33, kW_24_34, kW_24_36, kW_24_37, kW_24_44, kW_24_49, kW_24_50, kW_24_51, kW_24_52, kI_24, kI_w24, kI_25, kI_w25, kI_26, kI_w26, kI_27, kI_w27, kI_28, kI_w28, kI_29, kI_w29, kI_30, kI_w30, kI_31, kI_w31, kI_32, kI_w32, kI_33, kI_w33, kI_34, kI_w34, kI_35, kI_w35, kI_36, kI_w36, kI_37, kI_w37, kI_38, kI_w38, kI_39, kI_w39, kI_40, kI_w40, kI_41, kI_w41, kI_42, kI_w42, kI_43, kI_w43, kI_44, kI_w44, kI_45, kI_w45, kI_46, kI_w46, kI_47, kI_w47, kI_48, kI_w48, kI_49, kI_w49, kI_50, kI_w50, kI_51, kI_w51, kI_52, kI_w52, kI_53, kI_w53, kI_54, kI_w54, kI_55, kI_w55, kI_56, kI_w56, kI_57, kI_w57, kI_58, kI_w58, kI_59, kI_w59, kI_60, kI_w60, kI_61, kI_w61, m_factOf hG (s' := s1) (fun j j1 j2 => hF.1 j (by omega) (by omega) (by omega) (by omega)) hh hd, p2, htu cnt (by omega), ix_b, m_join hr (Nat.le_refl op) o49, mq_u2n, ne_eq, Nat.reduceEqDiff, not_false_eq_true, nI_1, ex_ite, exists_and_left, exists_const, exists_and_right]
              have J : rM (mj_u2 (mj_u2 (mj_u2 s1 22 op (mj_b (I op && ((kCo (kFc s h (f k) d) (f (k + 1)) nm' != tu cnt) != T op)))) 23 op 0) 0 24 (nI (cnt + 1))) W (ub I op (I op && ((kCo (kFc s h (f k) d) (f (k + 1)) nm' != tu cnt) != T op))) (ub T op false) op (cnt + 1) := by
                have J0 := hr.join (Nat.le_refl op) (I op && ((kCo (kFc s h (f k) d) (f (k + 1)) nm' != tu cnt) != T op))
                refine ⟨fun j hj => ?_, mq_u2s⟩
                rw [mq_u2n (by decide), mq_u2n (by decide), mq_u2n (by decide)]
                exact J0.1 j hj
              have R := ml_ho hG ha hh hd htu hf hl hlen m' k' st2 op W _ _ (cnt + 1) (kFc s h (f k) d) (f (k + 1)) nm' _ r1 r4 (.inr ⟨r5, r6⟩) (by omega) (by omega) (((hF.trans (rF.w21 (.inr (.inl rfl)) _ _)).trans (rF.w21 (.inr (.inr rfl)) _ _)).trans (rF.w24 _)) J hp
              have kk : kCo (kFc s h (f k) d) (f (k + 1)) nm' = if f (k + 1) = 60 then decide (kFc s h (f k) d < nm') else if f (k + 1) = 62 then decide (nm' < kFc s h (f k) d) else decide (kFc s h (f k) d = nm') := rfl
              rw [kk] at R
              simp only [← i_nle (a := nm') (b := kFc s h (f k) d), ← i_nle (a := kFc s h (f k) d) (b := nm')] at R
              rcases Classical.propComplete (f (k + 1) = 60) with y1 | y1 <;> rcases Classical.propComplete (f (k + 1) = 62) with y2 | y2 <;> rcases Classical.propComplete (nm' ≤ kFc s h (f k) d) with y3 | y3 <;> rcases Classical.propComplete (kFc s h (f k) d ≤ nm') with y4 | y4 <;> rcases Classical.propComplete (kFc s h (f k) d = nm') with y5 | y5 <;> rcases Bool.eq_false_or_eq_true (tu cnt) with y6 | y6 <;> simp only [y1, y2, y3, y4, y5, y6, not_true_eq_false, not_false_eq_true, decide_true, decide_false, Bool.false_eq_true, Bool.true_eq_false, ↓reduceIte, show ((true : Bool) != true) = false from rfl, show ((true : Bool) != false) = true from rfl, show ((false : Bool) != true) = true from rfl, show ((false : Bool) != false) = false from rfl] at R ⊢ <;> exact R
end

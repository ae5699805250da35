/-! STAGE B: buying the whole -/
def kxBo (s : Nat → Nat → Int32) (fl : Int32) : Nat → Int32 → Bool
  | 0, _ => true
  | f + 1, v => if v < 0 then true else decide (s 2 v.toNatClampNeg = fl) && kxBo s fl f (s 1 v.toNatClampNeg)
def kxTp (s : Nat → Nat → Int32) : Nat → Nat → Nat
  | 0, k => k
  | f + 1, k => if s 1 k < 0 then k else kxTp s f (s 1 k).toNatClampNeg
def kxCl (d : Int32) : Nat → Nat → (Nat → Nat → Int32) → Nat → Nat → Int32
  | 0, _, s => s
  | f + 1, k, s => if s 1 k < 0 then s else kxCl d f (s 1 k).toNatClampNeg (mj_u2 (mj_u2 s 6 k 5) 5 k d)
def kxFl (n : Nat) (d : Int32) : Nat → Nat → (Nat → Nat → Int32) → Nat → Nat → Int32
  | 0, _, s => s
  | f + 1, k, s => if s 1 k < 0 then s else kxFl n d f (s 1 k).toNatClampNeg (kFa s (fun h => kHg s (nI k) d n h) n 0 (-6) d)
theorem kxTp_to {s s' : Nat → Nat → Int32} (h1 : s' 1 = s 1) : ∀ (f k : Nat), kxTp s' f k = kxTp s f k
  | 0, _ => rfl
  | f + 1, k => by unfold kxTp; rw [h1, kxTp_to h1 f]
theorem kxTp_f {s : Nat → Nat → Int32} {n : Nat} {rk : Nat → Nat} (h40 : n ≤ 40) (hout : ∀ h, h < n → s 1 h = -1 ∨ ∃ k, k < n ∧ s 1 h = nI k) (R : ∀ h, h < n → rk h < n ∧ ∀ k, k < n → s 1 h = nI k → rk k < rk h) : ∀ (f h : Nat), h < n → rk h < f → kxTp s f h < n ∧ s 1 (kxTp s f h) = -1 ∧ rk (kxTp s f h) ≤ rk h
  | 0, _, _, h2 => by omega
  | f + 1, h, hh, h2 => by
    rcases hout h hh with z | ⟨k, hk, z⟩
    · have e : kxTp s (f + 1) h = h := by unfold kxTp; rw [if_pos (by rw [z]; decide)]
      rw [e]; exact ⟨hh, z, Nat.le_refl _⟩
    · have r := (R h hh).2 k hk z
      have e : kxTp s (f + 1) h = kxTp s f k := by
        show (if s 1 h < 0 then h else kxTp s f (s 1 h).toNatClampNeg) = _
        rw [if_neg (by rw [z]; exact nI_pos (by omega)), z, ix_nat (by omega)]
      rw [e]
      obtain ⟨q1, q2, q3⟩ := kxTp_f h40 hout R f k hk (by omega)
      exact ⟨q1, q2, by omega⟩
theorem kFa_o {e : Nat → Nat → Int32} {F : Nat → Bool} {m k : Nat} {v d : Int32} {j : Nat} (h5 : j ≠ 5) (h6 : j ≠ 6) (h12 : j ≠ 12) : kFa e F m k v d j = e j := by
  funext h; unfold kFa; simp only [h5, h6, h12, ↓reduceIte, ite_self]
section
variable {B x n na nn : Nat} {A AA AT AN : Nat → Nat} {t l u : Nat → Nat} {c s : Nat → Nat → Int32} {r : Nat → Nat → Nat} {q g w : Nat → Nat → Int64}
theorem cl_cbo {i e : Nat → Nat → Int32} (H : kCD B A AA AT AN n na nn e t l i r x) {rk : Nat → Nat} (R : ∀ h, h < n → rk h < n ∧ ∀ k, k < n → e 1 h = nI k → rk k < rk h) {h0 : Nat} (hh0 : h0 < n) {post : Bool → mj_M → Prop} : ∀ f (v : Int32), kV n v → (∀ k, k < n → v = nI k → rk k < f) → (∃ fe, vb_X4_canBuyOut_5 post fe (A h0) (kR A v) (kT B t, kL B l, kI B i c s, kW B r u, kI B q g w, x)) = post (kxBo e (e 2 h0) f v) (kT B t, kL B l, kI B i c s, kW B r u, kI B q g w, x)
  | f, v, hv, hr => by
    have h40 := H.n40
    rcases hv with z | ⟨k, hk, z⟩
    · have e1 : kxBo e (e 2 h0) f v = true := by
        cases f with
        | zero => rfl
        | succ f => unfold kxBo; rw [if_pos z]
      rw [ex_succ rfl, e1]
      simp only [vb_X4_canBuyOut_5, kR_n z, ↓reduceIte, ex_ite, exists_and_left, exists_const, exists_and_right]
    · have k1 : k < 2147483648 := by omega
      have rr := hr k hk z
      obtain ⟨f', rfl⟩ : ∃ f', f = f' + 1 := ⟨f - 1, by omega⟩
      have I := cl_cbo H R hh0 (post := post) f' (e 1 k) (H.V1 hk) (fun p hp hz => by have := (R k hk).2 p hp hz; omega)
      subst z
      have e1 : kxBo e (e 2 h0) (f' + 1) (nI k) = (decide (e 2 k = e 2 h0) && kxBo e (e 2 h0) f' (e 1 k)) := by
        show (if nI k < 0 then true else decide (e 2 (nI k).toNatClampNeg = e 2 h0) && kxBo e (e 2 h0) f' (e 1 (nI k).toNatClampNeg)) = _
        rw [if_neg (nI_pos k1), ix_nat k1]
      rw [ex_succ rfl, e1]
      simp only [vb_X4_canBuyOut_5, kR_I k1, mq_tag, mq_len, mq_i, mq_r, mq_l, mq_nx, mq_wi, mq_wr, mq_wl, true_and, and_true, and_false, false_and, and_self, ↓reduceIte, kT_0, kT_1, kT_2, kT_3, kT_4, kT_5, kT_6, kT_7, kT_8, kT_9, kT_10, kT_11, kT_12, kT_13, kT_14, kT_15, kT_16, kT_17, kT_18, kT_19, kT_20, kT_21, kT_22, kT_23, kL_2, kL_3, kL_5, kL_10, kL_11, kL_12, kL_14, kL_15, kL_17, kL_18, kL_19, kL_20, kL_21, kL_22, kL_23, kW_0_0, kW_0_1, kW_0_2, kW_0_3, kW_0_4, kW_0_5, kW_0_6, kW_0_7, kW_1_4, kW_1_5, kW_4_0, kW_4_1, kW_9_0, kW_9_1, kW_9_2, kW_13_0, kW_13_1, kW_16_0, kW_16_1, kW_16_2, kW_16_3, kW_16_4, kW_16_5, kW_1_1, kW_1_2, kW_4_4, kW_8_0, kW_8_1, kW_w1_1, kW_w1_2, kW_w4_4, kW_w8_0, kW_w8_1, kI_0, kI_w0, kI_1, kI_w1, kI_2, kI_w2, kI_3, kI_w3, kI_4, kI_w4, kI_5, kI_w5, kI_6, kI_w6, kI_7, kI_w7, kI_8, kI_w8, kI_9, kI_w9, kI_10, kI_w10, kI_11, kI_w11, kI_12, kI_w12, kI_13, kI_w13, kI_14, kI_w14, kI_15, kI_w15, kI_16, kI_w16, kI_17, kI_w17, kI_18, kI_w18, kI_19, kI_w19, kI_20, kI_w20, kI_21, kI_w21, kI_22, kI_w22, kI_23, kI_w23, H.atT hk, H.atI hk, H.atW hk, H.atT hh0, H.atI hh0, H.atW hh0, ex_ite, exists_and_left, exists_const, exists_and_right, I]
      by_cases y : e 2 k = e 2 h0 <;> simp only [y, true_or, or_true, false_or, or_false, not_true_eq_false, not_false_eq_true, true_and, and_true, false_and, and_false, and_self, decide_true, decide_false, ↓reduceIte, Bool.true_and, Bool.false_and, Bool.and_true, Bool.and_false, Bool.not_true, Bool.not_false, Bool.false_eq_true, Bool.true_or, Bool.or_true, Bool.false_or, Bool.or_false, reduceCtorEq, Bool.and_self, Bool.or_self, ne_eq]
  termination_by f => f
theorem ml_all {i s : Nat → Nat → Int32} (h40 : n ≤ 40) (hout : ∀ h, h < n → s 1 h = -1 ∨ ∃ k, k < n ∧ s 1 h = nI k) {rk : Nat → Nat} (R : ∀ h, h < n → rk h < n ∧ ∀ k, k < n → s 1 h = nI k → rk k < rk h) {h0 : Nat} (hh0 : h0 < n) {post : Bool → mj_M → Prop} : ∀ f (v : Int32) (all : Bool), (v = -1 ∨ ∃ k, k < n ∧ v = nI k) → (∀ k, k < n → v = nI k → rk k < f) → (∃ fe, vb_X12_hasAll_9 post fe (B + 24) (nI h0) all v (kT B t, kL B l, kI B i c s, kW B r u, kI B q g w, x)) = post (all && kxBo s (s 2 h0) f v) (kT B t, kL B l, kI B i c s, kW B r u, kI B q g w, x)
  | f, v, all, hv, hr => by
    have h01 : h0 < 2147483648 := by omega
    rcases hv with z | ⟨k, hk, z⟩
    · have e1 : kxBo s (s 2 h0) f v = true := by
        cases f with
        | zero => rfl
        | succ f => unfold kxBo; rw [if_pos (by rw [z]; decide)]
      have z2 : ((-1 : Int32) < 0) = True := eq_true (by decide)
      rw [ex_succ rfl, e1]
      simp only [vb_X12_hasAll_9, z, z2, ↓reduceIte, ex_ite, exists_and_left, exists_const, exists_and_right, Bool.and_true]
    · have k1 : k < 2147483648 := by omega
      have rr := hr k hk z
      obtain ⟨f', rfl⟩ : ∃ f', f = f' + 1 := ⟨f - 1, by omega⟩
      have I := fun all => ml_all (i := i) h40 hout R hh0 (post := post) f' (s 1 k) all (hout k hk) (fun p hp hz => by have := (R k hk).2 p hp hz; omega)
      subst z
      have e1 : kxBo s (s 2 h0) (f' + 1) (nI k) = (decide (s 2 k = s 2 h0) && kxBo s (s 2 h0) f' (s 1 k)) := by
        show (if nI k < 0 then true else decide (s 2 (nI k).toNatClampNeg = s 2 h0) && kxBo s (s 2 h0) f' (s 1 (nI k).toNatClampNeg)) = _
        rw [if_neg (nI_pos k1), ix_nat k1]
      rw [ex_succ rfl, e1]
      simp only [vb_X12_hasAll_9, vb_X12_hasAll_36, vb_X12_hasAll_37, mq_tag, mq_len, mq_i, mq_r, mq_l, mq_nx, mq_wi, mq_wr, mq_wl, true_and, and_true, and_false, false_and, and_self, ↓reduceIte, kT_24, kT_25, kT_26, kT_27, kT_28, kT_29, kT_30, kT_31, kT_32, kT_33, kT_34, kT_35, kT_36, kT_37, kT_38, kT_39, kT_40, kT_41, kT_42, kT_43, kT_44, kT_45, kT_46, kT_47, kT_48, kT_49, kT_50, kT_51, kT_52, kT_53, kT_54, kT_55, kT_56, kT_57, kT_58, kT_59, kT_60, kT_61, kL_25, kL_26, kL_27, kL_28, kL_29, kL_30, kL_31, kL_32, kL_33, kL_34, kL_35, kL_36, kL_37, kL_38, kL_39, kL_40, kL_41, kL_42, kL_43, kL_44, kL_45, kL_46, kL_47, kL_48, kL_49, kL_50, kL_51, kL_52, kL_53, kL_54, kL_55, kL_56, kL_57, kL_58, kL_59, kL_60, kL_61, kW_24_1, kW_24_2, kW_24_3, kW_24_4, kW_24_5, kW_24_6, kW_24_7, kW_24_8, kW_24_9, kW_24_10, kW_24_11, kW_24_12, kW_24_14, kW_24_15, kW_24_16, kW_24_17, kW_24_18, kW_24_19, kW_24_21, kW_24_22, kW_24_23, kW_24_25, kW_24_26, kW_24_27, kW_24_28, kW_24_29, kW_24_31, kW_24_32, kW_24_33, kW_24_34, kW_24_36, kW_24_37, kW_24_44, kW_24_49, kW_24_50, kW_24_51, kW_24_52, kI_24, kI_w24, kI_25, kI_w25, kI_26, kI_w26, kI_27, kI_w27, kI_28, kI_w28, kI_29, kI_w29, kI_30, kI_w30, kI_31, kI_w31, kI_32, kI_w32, kI_33, kI_w33, kI_34, kI_w34, kI_35, kI_w35, kI_36, kI_w36, kI_37, kI_w37, kI_38, kI_w38, kI_39, kI_w39, kI_40, kI_w40, kI_41, kI_w41, kI_42, kI_w42, kI_43, kI_w43, kI_44, kI_w44, kI_45, kI_w45, kI_46, kI_w46, kI_47, kI_w47, kI_48, kI_w48, kI_49, kI_w49, kI_50, kI_w50, kI_51, kI_w51, kI_52, kI_w52, kI_53, kI_w53, kI_54, kI_w54, kI_55, kI_w55, kI_56, kI_w56, kI_57, kI_w57, kI_58, kI_w58, kI_59, kI_w59, kI_60, kI_w60, kI_61, kI_w61, ix_neg k1, ix_in k1, ix_nat k1, show k < 40 by omega, ix_in h01, ix_nat h01, show h0 < 40 by omega, Bool.false_eq_true, ex_ite, exists_and_left, exists_const, exists_and_right, I]
      cases all <;> by_cases y : s 2 k = s 2 h0 <;> simp only [y, true_or, or_true, false_or, or_false, not_true_eq_false, not_false_eq_true, true_and, and_true, false_and, and_false, and_self, decide_true, decide_false, ↓reduceIte, Bool.true_and, Bool.false_and, Bool.and_true, Bool.and_false, Bool.not_true, Bool.not_false, Bool.false_eq_true, Bool.true_or, Bool.or_true, Bool.false_or, Bool.or_false, reduceCtorEq, Bool.and_self, Bool.or_self, ne_eq]
  termination_by f => f
theorem ml_top {i s : Nat → Nat → Int32} (h40 : n ≤ 40) (hout : ∀ h, h < n → s 1 h = -1 ∨ ∃ k, k < n ∧ s 1 h = nI k) {rk : Nat → Nat} (R : ∀ h, h < n → rk h < n ∧ ∀ k, k < n → s 1 h = nI k → rk k < rk h) {post : Int32 → mj_M → Prop} : ∀ f h, h < n → rk h < f → (∃ fe, vb_X12_wholeOf_2 post fe (B + 24) (nI h) (kT B t, kL B l, kI B i c s, kW B r u, kI B q g w, x)) = post (nI (kxTp s f h)) (kT B t, kL B l, kI B i c s, kW B r u, kI B q g w, x)
  | 0, _, _, h2 => by omega
  | f + 1, h, hh, h2 => by
    have h1 : h < 2147483648 := by omega
    rcases hout h hh with z | ⟨k, hk, z⟩
    · have z2 : ((-1 : Int32) < 0) = True := eq_true (by decide)
      have e : kxTp s (f + 1) h = h := by unfold kxTp; rw [if_pos (by rw [z]; decide)]
      rw [ex_succ rfl, e]
      simp only [vb_X12_wholeOf_2, mq_tag, mq_len, mq_i, mq_r, mq_l, mq_nx, mq_wi, mq_wr, mq_wl, true_and, and_true, and_false, false_and, and_self, ↓reduceIte, kT_24, kT_25, kT_26, kT_27, kT_28, kT_29, kT_30, kT_31, kT_32, kT_33, kT_34, kT_35, kT_36, kT_37, kT_38, kT_39, kT_40, kT_41, kT_42, kT_43, kT_44, kT_45, kT_46, kT_47, kT_48, kT_49, kT_50, kT_51, kT_52, kT_53, kT_54, kT_55, kT_56, kT_57, kT_58, kT_59, kT_60, kT_61, kL_25, kL_26, kL_27, kL_28, kL_29, kL_30, kL_31, kL_32, kL_33, kL_34, kL_35, kL_36, kL_37, kL_38, kL_39, kL_40, kL_41, kL_42, kL_43, kL_44, kL_45, kL_46, kL_47, kL_48, kL_49, kL_50, kL_51, kL_52, kL_53, kL_54, kL_55, kL_56, kL_57, kL_58, kL_59, kL_60, kL_61, kW_24_1, kW_24_2, kW_24_3, kW_24_4, kW_24_5, kW_24_6, kW_24_7, kW_24_8, kW_24_9, kW_24_10, kW_24_11, kW_24_12, kW_24_14, kW_24_15, kW_24_16, kW_24_17, kW_24_18, kW_24_19, kW_24_21, kW_24_22, kW_24_23, kW_24_25, kW_24_26, kW_24_27, kW_24_28, kW_24_29, kW_24_31, kW_24_32, kW_24_33, kW_24_34, kW_24_36, kW_24_37, kW_24_44, kW_24_49, kW_24_50, kW_24_51, kW_24_52, kI_24, kI_w24, kI_25, kI_w25, kI_26, kI_w26, kI_27, kI_w27, kI_28, kI_w28, kI_29, kI_w29, kI_30, kI_w30, kI_31, kI_w31, kI_32, kI_w32, kI_33, kI_w33, kI_34, kI_w34, kI_35, kI_w35, kI_36, kI_w36, kI_37, kI_w37, kI_38, kI_w38, kI_39, kI_w39, kI_40, kI_w40, kI_41, kI_w41, kI_42, kI_w42, kI_43, kI_w43, kI_44, kI_w44, kI_45, kI_w45, kI_46, kI_w46, kI_47, kI_w47, kI_48, kI_w48, kI_49, kI_w49, kI_50, kI_w50, kI_51, kI_w51, kI_52, kI_w52, kI_53, kI_w53, kI_54, kI_w54, kI_55, kI_w55, kI_56, kI_w56, kI_57, kI_w57, kI_58, kI_w58, kI_59, kI_w59, kI_60, kI_w60, kI_61, kI_w61, ix_in h1, ix_nat h1, show h < 40 by omega, z, z2, ex_ite, exists_and_left, exists_const, exists_and_right]
    · have k1 : k < 2147483648 := by omega
      have r := (R h hh).2 k hk z
      have I := ml_top (i := i) h40 hout R (post := post) f k hk (by omega)
      have e : kxTp s (f + 1) h = kxTp s f k := by
        show (if s 1 h < 0 then h else kxTp s f (s 1 h).toNatClampNeg) = _
        rw [if_neg (by rw [z]; exact nI_pos k1), z, ix_nat k1]
      rw [ex_succ rfl, e]
      simp only [vb_X12_wholeOf_2, mq_tag, mq_len, mq_i, mq_r, mq_l, mq_nx, mq_wi, mq_wr, mq_wl, true_and, and_true, and_false, false_and, and_self, ↓reduceIte, kT_24, kT_25, kT_26, kT_27, kT_28, kT_29, kT_30, kT_31, kT_32, kT_33, kT_34, kT_35, kT_36, kT_37, kT_38, kT_39, kT_40, kT_41, kT_42, kT_43, kT_44, kT_45, kT_46, kT_47, kT_48, kT_49, kT_50, kT_51, kT_52, kT_53, kT_54, kT_55, kT_56, kT_57, kT_58, kT_59, kT_60, kT_61, kL_25, kL_26, kL_27, kL_28, kL_29, kL_30, kL_31, kL_32, kL_33, kL_34, kL_35, kL_36, kL_37, kL_38, kL_39, kL_40, kL_41, kL_42, kL_43, kL_44, kL_45, kL_46, kL_47, kL_48, kL_49, kL_50, kL_51, kL_52, kL_53, kL_54, kL_55, kL_56, kL_57, kL_58, kL_59, kL_60, kL_61, kW_24_1, kW_24_2, kW_24_3, kW_24_4, kW_24_5, kW_24_6, kW_24_7, kW_24_8, kW_24_9, kW_24_10, kW_24_11, kW_24_12, kW_24_14, kW_24_15, kW_24_16, kW_24_17, kW_24_18, kW_24_19, kW_24_21, kW_24_22, kW_24_23, kW_24_25, kW_24_26, kW_24_27, kW_24_28, kW_24_29, kW_24_31, kW_24_32, kW_24_33, kW_24_34, kW_24_36, kW_24_37, kW_24_44, kW_24_49, kW_24_50, kW_24_51, kW_24_52, kI_24, kI_w24, kI_25, kI_w25, kI_26, kI_w26, kI_27, kI_w27, kI_28, kI_w28, kI_29, kI_w29, kI_30, kI_w30, kI_31, kI_w31, kI_32, kI_w32, kI_33, kI_w33, kI_34, kI_w34, kI_35, kI_w35, kI_36, kI_w36, kI_37, kI_w37, kI_38, kI_w38, kI_39, kI_w39, kI_40, kI_w40, kI_41, kI_w41, kI_42, kI_w42, kI_43, kI_w43, kI_44, kI_w44, kI_45, kI_w45, kI_46, kI_w46, kI_47, kI_w47, kI_48, kI_w48, kI_49, kI_w49, kI_50, kI_w50, kI_51, kI_w51, kI_52, kI_w52, kI_53, kI_w53, kI_54, kI_w54, kI_55, kI_w55, kI_56, kI_w56, kI_57, kI_w57, kI_58, kI_w58, kI_59, kI_w59, kI_60, kI_w60, kI_61, kI_w61, ix_in h1, ix_nat h1, show h < 40 by omega, z, ix_neg k1, ex_ite, exists_and_left, exists_const, exists_and_right, I]
theorem cl_by1 {rk : Nat → Nat} {h0 : Nat} {Q : Nat → Prop} {post : Unit → mj_M → Prop} : ∀ f k la (e i : Nat → Nat → Int32), kCD B A AA AT AN n na nn e t l i r x → (∀ h, h < n → rk h < n ∧ ∀ k, k < n → e 1 h = nI k → rk k < rk h) → (∀ h p, h < n → p < n → Q h → e 1 h = nI p → e 3 h ≤ c 1 0 ∧ Q p) → k < n → rk k < f → Q k →
    (∀ i', kCD B A AA AT AN n na nn (kxCl (c 1 0) f k e) t l i' r x → ∃ fe, vb_X4_buyOut_13 post fe (B + 1) (A h0) (A (kxTp e f k)) 0 (kT B t, kL B l, kI B i' c s, kW B r u, kI B q g w, x)) → ∃ fe, vb_X4_buyOut_13 post fe (B + 1) (A h0) (A la) (A k) (kT B t, kL B l, kI B i c s, kW B r u, kI B q g w, x)
  | 0, _, _, _, _, _, _, _, _, h2, _, _ => by omega
  | f + 1, k, la, e, i, H, R, hQ, hk, h2, q0, hp => by
    have h40 := H.n40
    rcases H.V1 hk with z | ⟨p, hpn, z⟩
    · have e1 : kxTp e (f + 1) k = k := by unfold kxTp; rw [if_pos z]
      have e2 : kxCl (c 1 0) (f + 1) k e = e := by unfold kxCl; rw [if_pos z]
      rw [e1, e2] at hp
      obtain ⟨fe, I⟩ := hp i H
      refine ⟨fe + 1, ?_⟩
      simp only [vb_X4_buyOut_13, vb_X4_buyOut_30, mq_tag, mq_len, mq_i, mq_r, mq_l, mq_nx, mq_wi, mq_wr, mq_wl, true_and, and_true, and_false, false_and, and_self, ↓reduceIte, kT_0, kT_1, kT_2, kT_3, kT_4, kT_5, kT_6, kT_7, kT_8, kT_9, kT_10, kT_11, kT_12, kT_13, kT_14, kT_15, kT_16, kT_17, kT_18, kT_19, kT_20, kT_21, kT_22, kT_23, kL_2, kL_3, kL_5, kL_10, kL_11, kL_12, kL_14, kL_15, kL_17, kL_18, kL_19, kL_20, kL_21, kL_22, kL_23, kW_0_0, kW_0_1, kW_0_2, kW_0_3, kW_0_4, kW_0_5, kW_0_6, kW_0_7, kW_1_4, kW_1_5, kW_4_0, kW_4_1, kW_9_0, kW_9_1, kW_9_2, kW_13_0, kW_13_1, kW_16_0, kW_16_1, kW_16_2, kW_16_3, kW_16_4, kW_16_5, kW_1_1, kW_1_2, kW_4_4, kW_8_0, kW_8_1, kW_w1_1, kW_w1_2, kW_w4_4, kW_w8_0, kW_w8_1, kI_0, kI_w0, kI_1, kI_w1, kI_2, kI_w2, kI_3, kI_w3, kI_4, kI_w4, kI_5, kI_w5, kI_6, kI_w6, kI_7, kI_w7, kI_8, kI_w8, kI_9, kI_w9, kI_10, kI_w10, kI_11, kI_w11, kI_12, kI_w12, kI_13, kI_w13, kI_14, kI_w14, kI_15, kI_w15, kI_16, kI_w16, kI_17, kI_w17, kI_18, kI_w18, kI_19, kI_w19, kI_20, kI_w20, kI_21, kI_w21, kI_22, kI_w22, kI_23, kI_w23, H.atT hk, H.atI hk, H.atW hk, kR_n z]
      exact I
    · have p1 : p < 2147483648 := by omega
      have rr := (R k hk).2 p hpn z
      obtain ⟨le3, qp⟩ := hQ k p hk hpn q0 z
      have im : imx (c 1 0) (e 3 k) = c 1 0 := by
        rcases imx_or (c 1 0) (e 3 k) with ⟨m, _⟩ | ⟨_, m⟩
        · exact m
        · rw [i_lt] at m; rw [i_le] at le3; omega
      have c1 : mj_u2 (mj_u2 e 6 k 5) 5 k (c 1 0) 1 = e 1 := by rw [mj_u2_ne _ (by decide), mj_u2_ne _ (by decide)]
      have c3 : mj_u2 (mj_u2 e 6 k 5) 5 k (c 1 0) 3 = e 3 := by rw [mj_u2_ne _ (by decide), mj_u2_ne _ (by decide)]
      have e1 : kxTp e (f + 1) k = kxTp (mj_u2 (mj_u2 e 6 k 5) 5 k (c 1 0)) f p := by
        rw [kxTp_to c1]
        show (if e 1 k < 0 then k else kxTp e f (e 1 k).toNatClampNeg) = _
        rw [if_neg (by rw [z]; exact nI_pos p1), z, ix_nat p1]
      have e2 : kxCl (c 1 0) (f + 1) k e = kxCl (c 1 0) f p (mj_u2 (mj_u2 e 6 k 5) 5 k (c 1 0)) := by
        show (if e 1 k < 0 then e else kxCl (c 1 0) f (e 1 k).toNatClampNeg (mj_u2 (mj_u2 e 6 k 5) 5 k (c 1 0))) = _
        rw [if_neg (by rw [z]; exact nI_pos p1), z, ix_nat p1]
      rw [e1, e2] at hp
      obtain ⟨fe, I⟩ := cl_by1 (Q := Q) (post := post) f p k _ _ (H.close hk 5 (c 1 0)) (by rw [c1]; exact R) (by rw [c1, c3]; exact hQ) hpn (by omega) qp hp
      refine ⟨fe + 1, ?_⟩
      simp only [vb_X4_buyOut_13, vb_X4_buyOut_30, mq_tag, mq_len, mq_i, mq_r, mq_l, mq_nx, mq_wi, mq_wr, mq_wl, true_and, and_true, and_false, false_and, and_self, ↓reduceIte, kT_0, kT_1, kT_2, kT_3, kT_4, kT_5, kT_6, kT_7, kT_8, kT_9, kT_10, kT_11, kT_12, kT_13, kT_14, kT_15, kT_16, kT_17, kT_18, kT_19, kT_20, kT_21, kT_22, kT_23, kL_2, kL_3, kL_5, kL_10, kL_11, kL_12, kL_14, kL_15, kL_17, kL_18, kL_19, kL_20, kL_21, kL_22, kL_23, kW_0_0, kW_0_1, kW_0_2, kW_0_3, kW_0_4, kW_0_5, kW_0_6, kW_0_7, kW_1_4, kW_1_5, kW_4_0, kW_4_1, kW_9_0, kW_9_1, kW_9_2, kW_13_0, kW_13_1, kW_16_0, kW_16_1, kW_16_2, kW_16_3, kW_16_4, kW_16_5, kW_1_1, kW_1_2, kW_4_4, kW_8_0, kW_8_1, kW_w1_1, kW_w1_2, kW_w4_4, kW_w8_0, kW_w8_1, kI_0, kI_w0, kI_1, kI_w1, kI_2, kI_w2, kI_3, kI_w3, kI_4, kI_w4, kI_5, kI_w5, kI_6, kI_w6, kI_7, kI_w7, kI_8, kI_w8, kI_9, kI_w9, kI_10, kI_w10, kI_11, kI_w11, kI_12, kI_w12, kI_13, kI_w13, kI_14, kI_w14, kI_15, kI_w15, kI_16, kI_w16, kI_17, kI_w17, kI_18, kI_w18, kI_19, kI_w19, kI_20, kI_w20, kI_21, kI_w21, kI_22, kI_w22, kI_23, kI_w23, H.atT hk, H.atW hk, z, kR_I p1, H.H0 hpn, c_close H hk, im]
      exact I
theorem ml_by1 {i : Nat → Nat → Int32} (h40 : n ≤ 40) {rk : Nat → Nat} {hv : Int32} {post : Unit → mj_M → Prop} : ∀ f k (s : Nat → Nat → Int32), (∀ h, h < n → s 1 h = -1 ∨ ∃ k, k < n ∧ s 1 h = nI k) → (∀ h, h < n → rk h < n ∧ ∀ k, k < n → s 1 h = nI k → rk k < rk h) → k < n → rk k < f →
    (∃ fe, vb_X12_buy_30 post fe (B + 24) hv (nI (kxTp s f k)) (nI k) (kT B t, kL B l, kI B i c s, kW B r u, kI B q g w, x)) = (∃ fe, vb_X12_buy_30 post fe (B + 24) hv (nI (kxTp s f k)) (nI (kxTp s f k)) (kT B t, kL B l, kI B i c (kxCl (s 0 0) f k s), kW B r u, kI B q g w, x))
  | 0, _, _, _, _, _, h2 => by omega
  | f + 1, k, s, hout, R, hk, h2 => by
    have k1 : k < 2147483648 := by omega
    rcases hout k hk with z | ⟨p, hpn, z⟩
    · have e1 : kxTp s (f + 1) k = k := by unfold kxTp; rw [if_pos (by rw [z]; decide)]
      have e2 : kxCl (s 0 0) (f + 1) k s = s := by unfold kxCl; rw [if_pos (by rw [z]; decide)]
      rw [e1, e2]
    · have p1 : p < 2147483648 := by omega
      have rr := (R k hk).2 p hpn z
      have c1 : mj_u2 (mj_u2 s 6 k 5) 5 k (s 0 0) 1 = s 1 := by rw [mj_u2_ne _ (by decide), mj_u2_ne _ (by decide)]
      have c0 : mj_u2 (mj_u2 s 6 k 5) 5 k (s 0 0) 0 = s 0 := by rw [mj_u2_ne _ (by decide), mj_u2_ne _ (by decide)]
      have e1 : kxTp s (f + 1) k = kxTp s f p := by
        show (if s 1 k < 0 then k else kxTp s f (s 1 k).toNatClampNeg) = _
        rw [if_neg (by rw [z]; exact nI_pos p1), z, ix_nat p1]
      have e2 : kxCl (s 0 0) (f + 1) k s = kxCl (s 0 0) f p (mj_u2 (mj_u2 s 6 k 5) 5 k (s 0 0)) := by
        show (if s 1 k < 0 then s else kxCl (s 0 0) f (s 1 k).toNatClampNeg (mj_u2 (mj_u2 s 6 k 5) 5 k (s 0 0))) = _
        rw [if_neg (by rw [z]; exact nI_pos p1), z, ix_nat p1]
      obtain ⟨t1, t2, t3⟩ := kxTp_f h40 hout R f p hpn (by omega)
      have tk : ¬ k = kxTp s f p := fun y => by rw [← y] at t3; omega
      have I := ml_by1 (i := i) h40 (hv := hv) (post := post) f p (mj_u2 (mj_u2 s 6 k 5) 5 k (s 0 0)) (by rw [c1]; exact hout) (by rw [c1]; exact R) hpn (by omega)
      rw [kxTp_to c1, c0] at I
      rw [e1, e2]
      generalize hQ : (∃ fe, vb_X12_buy_30 post fe (B + 24) hv (nI (kxTp s f p)) (nI (kxTp s f p)) (kT B t, kL B l, kI B i c (kxCl (s 0 0) f p (mj_u2 (mj_u2 s 6 k 5) 5 k (s 0 0))), kW B r u, kI B q g w, x)) = P at I ⊢
      rw [ex_succ rfl]
      simp only [vb_X12_buy_30, mq_tag, mq_len, mq_i, mq_r, mq_l, mq_nx, mq_wi, mq_wr, mq_wl, true_and, and_true, and_false, false_and, and_self, ↓reduceIte, kT_24, kT_25, kT_26, kT_27, kT_28, kT_29, kT_30, kT_31, kT_32, kT_33, kT_34, kT_35, kT_36, kT_37, kT_38, kT_39, kT_40, kT_41, kT_42, kT_43, kT_44, kT_45, kT_46, kT_47, kT_48, kT_49, kT_50, kT_51, kT_52, kT_53, kT_54, kT_55, kT_56, kT_57, kT_58, kT_59, kT_60, kT_61, kL_25, kL_26, kL_27, kL_28, kL_29, kL_30, kL_31, kL_32, kL_33, kL_34, kL_35, kL_36, kL_37, kL_38, kL_39, kL_40, kL_41, kL_42, kL_43, kL_44, kL_45, kL_46, kL_47, kL_48, kL_49, kL_50, kL_51, kL_52, kL_53, kL_54, kL_55, kL_56, kL_57, kL_58, kL_59, kL_60, kL_61, kW_24_1, kW_24_2, kW_24_3, kW_24_4, kW_24_5, kW_24_6, kW_24_7, kW_24_8, kW_24_9, kW_24_10, kW_24_11, kW_24_12, kW_24_14, kW_24_15, kW_24_16, kW_24_17, kW_24_18, kW_24_19, kW_24_21, kW_24_22, kW_24_23, kW_24_25, kW_24_26, kW_24_27, kW_24_28, kW_24_29, kW_24_31, kW_24_32, kW_24_33, kW_24_34, kW_24_36, kW_24_37, kW_24_44, kW_24_49, kW_24_50, kW_24_51, kW_24_52, kI_24, kI_w24, kI_25, kI_w25, kI_26, kI_w26, kI_27, kI_w27, kI_28, kI_w28, kI_29, kI_w29, kI_30, kI_w30, kI_31, kI_w31, kI_32, kI_w32, kI_33, kI_w33, kI_34, kI_w34, kI_35, kI_w35, kI_36, kI_w36, kI_37, kI_w37, kI_38, kI_w38, kI_39, kI_w39, kI_40, kI_w40, kI_41, kI_w41, kI_42, kI_w42, kI_43, kI_w43, kI_44, kI_w44, kI_45, kI_w45, kI_46, kI_w46, kI_47, kI_w47, kI_48, kI_w48, kI_49, kI_w49, kI_50, kI_w50, kI_51, kI_w51, kI_52, kI_w52, kI_53, kI_w53, kI_54, kI_w54, kI_55, kI_w55, kI_56, kI_w56, kI_57, kI_w57, kI_58, kI_w58, kI_59, kI_w59, kI_60, kI_w60, kI_61, kI_w61, ix_eq k1 (show kxTp s f p < 2147483648 by omega), tk, m_close (show k < 40 by omega), ix_in k1, ix_nat k1, show k < 40 by omega, mq_u2n, ne_eq, Nat.reduceEqDiff, not_false_eq_true, z, ex_ite, exists_and_left, exists_const, exists_and_right]
      exact I
theorem cl_fl (U : kU A AA AN n na nn u) {rk : Nat → Nat} {post : Unit → mj_M → Prop} : ∀ f k (e i : Nat → Nat → Int32) (r : Nat → Nat → Nat), kCD B A AA AT AN n na nn e t l i r x → (∀ h, h < n → rk h < n ∧ ∀ k, k < n → e 1 h = nI k → rk k < rk h) → k < n → rk k < f →
    (∀ i' r', kCD B A AA AT AN n na nn (kxFl n (c 1 0) f k e) t l i' r' x → post () (kT B t, kL B l, kI B i' c s, kW B r' u, kI B q g w, x)) → vb_X4_buyOut_68 post f (B + 1) (A k) (kT B t, kL B l, kI B i c s, kW B r u, kI B q g w, x)
  | 0, _, _, _, _, _, _, _, h2, _ => by omega
  | f + 1, k, e, i, r, H, R, hk, h2, hp => by
    have h40 := H.n40
    rcases H.V1 hk with z | ⟨p, hpn, z⟩
    · have e2 : kxFl n (c 1 0) (f + 1) k e = e := by unfold kxFl; rw [if_pos z]
      rw [e2] at hp
      simp only [vb_X4_buyOut_68, mq_tag, mq_len, mq_i, mq_r, mq_l, mq_nx, mq_wi, mq_wr, mq_wl, true_and, and_true, and_false, false_and, and_self, ↓reduceIte, kT_0, kT_1, kT_2, kT_3, kT_4, kT_5, kT_6, kT_7, kT_8, kT_9, kT_10, kT_11, kT_12, kT_13, kT_14, kT_15, kT_16, kT_17, kT_18, kT_19, kT_20, kT_21, kT_22, kT_23, kL_2, kL_3, kL_5, kL_10, kL_11, kL_12, kL_14, kL_15, kL_17, kL_18, kL_19, kL_20, kL_21, kL_22, kL_23, kW_0_0, kW_0_1, kW_0_2, kW_0_3, kW_0_4, kW_0_5, kW_0_6, kW_0_7, kW_1_4, kW_1_5, kW_4_0, kW_4_1, kW_9_0, kW_9_1, kW_9_2, kW_13_0, kW_13_1, kW_16_0, kW_16_1, kW_16_2, kW_16_3, kW_16_4, kW_16_5, kW_1_1, kW_1_2, kW_4_4, kW_8_0, kW_8_1, kW_w1_1, kW_w1_2, kW_w4_4, kW_w8_0, kW_w8_1, kI_0, kI_w0, kI_1, kI_w1, kI_2, kI_w2, kI_3, kI_w3, kI_4, kI_w4, kI_5, kI_w5, kI_6, kI_w6, kI_7, kI_w7, kI_8, kI_w8, kI_9, kI_w9, kI_10, kI_w10, kI_11, kI_w11, kI_12, kI_w12, kI_13, kI_w13, kI_14, kI_w14, kI_15, kI_w15, kI_16, kI_w16, kI_17, kI_w17, kI_18, kI_w18, kI_19, kI_w19, kI_20, kI_w20, kI_21, kI_w21, kI_22, kI_w22, kI_23, kI_w23, H.atT hk, H.atI hk, H.atW hk, kR_n z]
      exact hp i r H
    · have p1 : p < 2147483648 := by omega
      have rr := (R k hk).2 p hpn z
      have e2 : kxFl n (c 1 0) (f + 1) k e = kxFl n (c 1 0) f p (kFa e (fun h => kHg e (nI k) (c 1 0) n h) n 0 (-6) (c 1 0)) := by
        show (if e 1 k < 0 then e else kxFl n (c 1 0) f (e 1 k).toNatClampNeg _) = _
        rw [if_neg (by rw [z]; exact nI_pos p1), z, ix_nat p1]
      rw [e2] at hp
      simp only [vb_X4_buyOut_68, mq_tag, mq_len, mq_i, mq_r, mq_l, mq_nx, mq_wi, mq_wr, mq_wl, true_and, and_true, and_false, false_and, and_self, ↓reduceIte, kT_0, kT_1, kT_2, kT_3, kT_4, kT_5, kT_6, kT_7, kT_8, kT_9, kT_10, kT_11, kT_12, kT_13, kT_14, kT_15, kT_16, kT_17, kT_18, kT_19, kT_20, kT_21, kT_22, kT_23, kL_2, kL_3, kL_5, kL_10, kL_11, kL_12, kL_14, kL_15, kL_17, kL_18, kL_19, kL_20, kL_21, kL_22, kL_23, kW_0_0, kW_0_1, kW_0_2, kW_0_3, kW_0_4, kW_0_5, kW_0_6, kW_0_7, kW_1_4, kW_1_5, kW_4_0, kW_4_1, kW_9_0, kW_9_1, kW_9_2, kW_13_0, kW_13_1, kW_16_0, kW_16_1, kW_16_2, kW_16_3, kW_16_4, kW_16_5, kW_1_1, kW_1_2, kW_4_4, kW_8_0, kW_8_1, kW_w1_1, kW_w1_2, kW_w4_4, kW_w8_0, kW_w8_1, kI_0, kI_w0, kI_1, kI_w1, kI_2, kI_w2, kI_3, kI_w3, kI_4, kI_w4, kI_5, kI_w5, kI_6, kI_w6, kI_7, kI_w7, kI_8, kI_w8, kI_9, kI_w9, kI_10, kI_w10, kI_11, kI_w11, kI_12, kI_w12, kI_13, kI_w13, kI_14, kI_w14, kI_15, kI_w15, kI_16, kI_w16, kI_17, kI_w17, kI_18, kI_w18, kI_19, kI_w19, kI_20, kI_w20, kI_21, kI_w21, kI_22, kI_w22, kI_23, kI_w23, H.atT hk, H.atW hk, z, kR_I p1, H.H0 hpn]
      refine c_letFall H U R hk (v := -6) kR_m6.symm kV_m6 fun i' r' H2 => ?_
      have c1 : kFa e (fun h => kHg e (nI k) (c 1 0) n h) n 0 (-6) (c 1 0) 1 = e 1 := kFa_o (by decide) (by decide) (by decide)
      simp only [mq_tag, mq_len, mq_i, mq_r, mq_l, mq_nx, mq_wi, mq_wr, mq_wl, true_and, and_true, and_false, false_and, and_self, ↓reduceIte, kT_0, kT_1, kT_2, kT_3, kT_4, kT_5, kT_6, kT_7, kT_8, kT_9, kT_10, kT_11, kT_12, kT_13, kT_14, kT_15, kT_16, kT_17, kT_18, kT_19, kT_20, kT_21, kT_22, kT_23, kL_2, kL_3, kL_5, kL_10, kL_11, kL_12, kL_14, kL_15, kL_17, kL_18, kL_19, kL_20, kL_21, kL_22, kL_23, kW_0_0, kW_0_1, kW_0_2, kW_0_3, kW_0_4, kW_0_5, kW_0_6, kW_0_7, kW_1_4, kW_1_5, kW_4_0, kW_4_1, kW_9_0, kW_9_1, kW_9_2, kW_13_0, kW_13_1, kW_16_0, kW_16_1, kW_16_2, kW_16_3, kW_16_4, kW_16_5, kW_1_1, kW_1_2, kW_4_4, kW_8_0, kW_8_1, kW_w1_1, kW_w1_2, kW_w4_4, kW_w8_0, kW_w8_1, kI_0, kI_w0, kI_1, kI_w1, kI_2, kI_w2, kI_3, kI_w3, kI_4, kI_w4, kI_5, kI_w5, kI_6, kI_w6, kI_7, kI_w7, kI_8, kI_w8, kI_9, kI_w9, kI_10, kI_w10, kI_11, kI_w11, kI_12, kI_w12, kI_13, kI_w13, kI_14, kI_w14, kI_15, kI_w15, kI_16, kI_w16, kI_17, kI_w17, kI_18, kI_w18, kI_19, kI_w19, kI_20, kI_w20, kI_21, kI_w21, kI_22, kI_w22, kI_23, kI_w23, H2.atT hk, H2.atW hk, c1, z, kR_I p1]
      exact cl_fl U f p _ i' r' H2 (by rw [c1]; exact R) hpn (by omega) hp
end

/-! STAGE B: a longer term -/
def kxLo (s : Nat → Nat → Int32) (n : Nat) (th : Int32) : Nat → Nat → Bool
  | 0, _ => true
  | f + 1, h => if s 1 h < 0 then true else !kAny (kAno s (s 1 h) h (s 2 h) (s 4 h) th) n 0 && kxLo s n th f (s 1 h).toNatClampNeg
def kxLr (th : Int32) : Nat → Nat → (Nat → Nat → Int32) → Nat → Nat → Int32
  | 0, _, s => s
  | f + 1, h, s => if s 1 h < 0 then s else kxLr th f (s 1 h).toNatClampNeg (mj_u2 s 4 h (imx (s 4 h) th))
/-- those from one upwards, without the whole -/
def kCn (s : Nat → Nat → Int32) : Nat → Nat → Nat → Bool
  | 0, _, _ => false
  | f + 1, h, x => decide (0 ≤ s 1 h) && (decide (x = h) || kCn s f (s 1 h).toNatClampNeg x)
theorem kHo.onup {s : Nat → Nat → Int32} {n h k : Nat} (H : kHo s n) (hh : h < n) (hk : k < n) (ho : s 1 h = nI k) (hon : kon s h (s 0 0) = true) : s 6 h = 0 ∧ kon s k (s 0 0) = true := by
  obtain ⟨u1, u2, u3, u4, u5, u6⟩ := H.up hh hk ho hon
  refine ⟨u1, ?_⟩
  unfold kon kun
  rw [if_pos u4]
  exact decide_eq_true ⟨u5, by rw [i_lt] at u3 ⊢; rw [i_le] at u6; omega⟩
theorem kAno_le {s : Nat → Nat → Int32} {o f a b : Int32} {h n : Nat} (hb : b ≤ a) : kAny (kAno s o h f a b) n 0 = false := by
  rw [Bool.eq_false_iff]
  intro hk
  obtain ⟨x, _, _, h1⟩ := kAny_iff.mp hk
  simp only [kAno, kmt, Bool.and_eq_true, decide_eq_true_eq] at h1
  have h2 := h1.2.2.2
  rcases imx_or (s 3 x) a with ⟨m1, m2⟩ | ⟨m1, m2⟩ <;> rw [m1, i_lt] at h2 <;> unfold imn at h2 <;> split at h2 <;> rename_i z <;> first | rw [i_le] at m2 hb; rw [i_lt] at z; omega | rw [i_lt] at m2 z; rw [i_le] at hb; omega
theorem kxLr_o {th : Int32} : ∀ (f h : Nat) (s : Nat → Nat → Int32) {j : Nat}, j ≠ 4 → kxLr th f h s j = s j
  | 0, _, _, _, _ => rfl
  | f + 1, h, s, j, hj => by
    unfold kxLr
    split
    · rfl
    · rw [kxLr_o f _ _ hj, mj_u2_ne _ hj]
section
variable {s s' : Nat → Nat → Int32} {n : Nat} {rk : Nat → Nat}
theorem kCn_to (h1 : s' 1 = s 1) : ∀ (f h x : Nat), kCn s' f h x = kCn s f h x
  | 0, _, _ => rfl
  | f + 1, h, x => by unfold kCn; rw [h1, kCn_to h1 f]
theorem kCn_r (h40 : n ≤ 40) (hout : ∀ h, h < n → s 1 h = -1 ∨ ∃ k, k < n ∧ s 1 h = nI k) (R : ∀ h, h < n → rk h < n ∧ ∀ k, k < n → s 1 h = nI k → rk k < rk h) : ∀ (f h x : Nat), h < n → kCn s f h x = true → x < n ∧ rk x ≤ rk h ∧ 0 ≤ s 1 x
  | 0, _, _, _, e => by cases e
  | f + 1, h, x, hh, e => by
    unfold kCn at e
    simp only [Bool.and_eq_true, Bool.or_eq_true, decide_eq_true_eq] at e
    obtain ⟨e1, e2⟩ := e
    rcases e2 with rfl | e2
    · exact ⟨hh, Nat.le_refl _, e1⟩
    · rcases hout h hh with z | ⟨k, hk, z⟩
      · rw [z] at e1; exact absurd e1 (by decide)
      · rw [z, ix_nat (by omega)] at e2
        obtain ⟨q1, q2, q3⟩ := kCn_r h40 hout R f k x hk e2
        have := (R h hh).2 k hk z
        exact ⟨q1, by omega, q3⟩
/-- it goes on upwards -/
theorem kCn_up (h40 : n ≤ 40) (hout : ∀ h, h < n → s 1 h = -1 ∨ ∃ k, k < n ∧ s 1 h = nI k) (R : ∀ h, h < n → rk h < n ∧ ∀ k, k < n → s 1 h = nI k → rk k < rk h) : ∀ (f h x k : Nat), h < n → k < n → rk h < f → kCn s f h x = true → s 1 x = nI k → 0 ≤ s 1 k → kCn s f h k = true
  | 0, _, _, _, _, _, _, e, _, _ => by cases e
  | f + 1, h, x, k, hh, hk, hf, e, hx, h0 => by
    unfold kCn at e ⊢
    simp only [Bool.and_eq_true, Bool.or_eq_true, decide_eq_true_eq] at e ⊢
    obtain ⟨e1, e2⟩ := e
    refine ⟨e1, .inr ?_⟩
    rcases e2 with rfl | e2
    · have r := (R x hh).2 k hk hx
      rw [hx, ix_nat (by omega)]
      obtain ⟨f', rfl⟩ : ∃ f', f = f' + 1 := ⟨f - 1, by omega⟩
      unfold kCn
      simp only [Bool.and_eq_true, Bool.or_eq_true, decide_eq_true_eq]
      exact ⟨h0, .inl trivial⟩
    · rcases hout h hh with z | ⟨p, hp, z⟩
      · rw [z] at e1; exact absurd e1 (by decide)
      · have r := (R h hh).2 p hp z
        rw [z, ix_nat (by omega)] at e2 ⊢
        exact kCn_up h40 hout R f p x k hp hk (by omega) e2 hx h0
theorem kCn_q (h40 : n ≤ 40) (hout : ∀ h, h < n → s 1 h = -1 ∨ ∃ k, k < n ∧ s 1 h = nI k) {Q : Nat → Prop} (hQ : ∀ h k, h < n → k < n → Q h → s 1 h = nI k → Q k) : ∀ (f h x : Nat), h < n → Q h → kCn s f h x = true → Q x
  | 0, _, _, _, _, e => by cases e
  | f + 1, h, x, hh, q, e => by
    unfold kCn at e
    simp only [Bool.and_eq_true, Bool.or_eq_true, decide_eq_true_eq] at e
    obtain ⟨e1, e2⟩ := e
    rcases e2 with rfl | e2
    · exact q
    · rcases hout h hh with z | ⟨k, hk, z⟩
      · rw [z] at e1; exact absurd e1 (by decide)
      · rw [z, ix_nat (by omega)] at e2
        exact kCn_q h40 hout hQ f k x hk (hQ h k hh hk q z) e2
theorem kxLr_4 (h40 : n ≤ 40) {th : Int32} : ∀ (f h : Nat) (s : Nat → Nat → Int32), h < n → (∀ h, h < n → s 1 h = -1 ∨ ∃ k, k < n ∧ s 1 h = nI k) → (∀ h, h < n → rk h < n ∧ ∀ k, k < n → s 1 h = nI k → rk k < rk h) → ∀ x, kxLr th f h s 4 x = if kCn s f h x = true then imx (s 4 x) th else s 4 x
  | 0, _, _, _, _, _, x => by rw [if_neg (by intro e; cases e)]; rfl
  | f + 1, h, s, hh, hout, R, x => by
    rcases hout h hh with z | ⟨k, hk, z⟩
    · have z2 : s 1 h < 0 := by rw [z]; decide
      have c : kCn s (f + 1) h x = false := by
        unfold kCn
        rw [z, show decide ((0 : Int32) ≤ -1) = false by decide, Bool.false_and]
      unfold kxLr
      rw [if_pos z2, c]; rfl
    · have k1 : k < 2147483648 := by omega
      have z2 : ¬ s 1 h < 0 := by rw [z]; exact nI_pos k1
      have e1 : mj_u2 s 4 h (imx (s 4 h) th) 1 = s 1 := mj_u2_ne _ (by decide)
      have I := kxLr_4 h40 (th := th) f k (mj_u2 s 4 h (imx (s 4 h) th)) hk (by rw [e1]; exact hout) (by rw [e1]; exact R) x
      have c : kCn s (f + 1) h x = (decide (x = h) || kCn s f k x) := by
        show (decide (0 ≤ s 1 h) && (decide (x = h) || kCn s f (s 1 h).toNatClampNeg x)) = _
        rw [z, ix_nat k1, show decide ((0 : Int32) ≤ nI k) = true from decide_eq_true (nI_pos' k1), Bool.true_and]
      unfold kxLr
      rw [if_neg z2, z, ix_nat k1, I, kCn_to e1, c]
      by_cases y : x = h
      · subst y
        have nc : kCn s f k x = false := by
          rw [Bool.eq_false_iff]; intro e
          have := (kCn_r h40 hout R f k x hk e).2.1
          have := (R x hh).2 k hk z
          omega
        rw [nc, mq_u2s]; simp
      · rw [mq_u2k y]; simp [y]
end
/-- terms made longer -/
theorem kHo.lng {s s' : Nat → Nat → Int32} {n : Nat} {th : Int32} {C : Nat → Bool} (H : kHo s n) (h40 : n ≤ 40) (h0 : s' 0 0 = s 0 0) (hs : ∀ j, 1 ≤ j → j ≤ 12 → j ≠ 4 → j ≠ 9 → s' j = s j) (h4 : ∀ x, s' 4 x = if C x = true then imx (s 4 x) th else s 4 x) (h9 : ∀ x, x < n → 0 ≤ s' 9 x ∧ s' 9 x ≤ 100000) (hth : th ≤ 73000)
    (hC : ∀ x, x < n → C x = true → s 6 x = 0 ∧ ∃ k, k < n ∧ s 1 x = nI k ∧ s 6 k = 0 ∧ (C k = true ∨ s 1 k = -1)) : kHo s' n := by
  obtain ⟨a1, a2, a3, a4⟩ := H
  have e1 := hs 1 (by decide) (by decide) (by decide) (by decide)
  have e2 := hs 2 (by decide) (by decide) (by decide) (by decide)
  have e3 := hs 3 (by decide) (by decide) (by decide) (by decide)
  have e5 := hs 5 (by decide) (by decide) (by decide) (by decide)
  have e6 := hs 6 (by decide) (by decide) (by decide) (by decide)
  have e12 := hs 12 (by decide) (by decide) (by decide) (by decide)
  have ge : ∀ x, s 4 x ≤ s' 4 x := fun x => by
    rw [h4]; split
    · rcases imx_or (s 4 x) th with ⟨m, _⟩ | ⟨m, m2⟩
      · rw [m]; exact Int32.le_refl _
      · rw [m]; exact Int32.le_of_lt m2
    · exact Int32.le_refl _
  have le73 : ∀ x, s 4 x ≤ 73000 → s' 4 x ≤ 73000 := fun x hx => by
    rw [h4]; split
    · rcases imx_or (s 4 x) th with ⟨m, _⟩ | ⟨m, m2⟩ <;> rw [m] <;> assumption
    · exact hx
  have mono : ∀ h k, h < n → k < n → s 1 h = nI k → s' 4 h ≤ s' 4 k := by
    intro h k hh hk he
    have p1 := ((a4 h hh).2.2.2.2 k hk he).1
    by_cases c : C h = true
    · obtain ⟨_, k', hk', b1, _, b3⟩ := hC h hh c
      rw [he, ix_eq (by omega) (by omega)] at b1
      subst b1
      rw [h4 h, if_pos c]
      have hk3 : imx (s 4 h) th ≤ imx (s 4 k) th := by
        rcases imx_or (s 4 h) th with ⟨m, m2⟩ | ⟨m, m2⟩ <;> rcases imx_or (s 4 k) th with ⟨m3, m4⟩ | ⟨m3, m4⟩ <;> rw [m, m3]
        · exact p1
        · rw [i_le] at *; rw [i_lt] at m4; omega
        · exact m4
        · exact Int32.le_refl _
      rcases b3 with b3 | b3
      · rw [h4 k, if_pos b3]; exact hk3
      · have t := ((a4 k hk).2.2.2.1 b3).2.1
        refine Int32.le_trans ?_ (ge k)
        rw [t]
        rcases imx_or (s 4 h) th with ⟨m, _⟩ | ⟨m, _⟩ <;> rw [m]
        · exact (a2 h hh).2.2.1.2.2
        · exact hth
    · rw [h4 h, if_neg c]; exact Int32.le_trans p1 (ge k)
  refine ⟨by rw [h0]; exact a1, fun h hh => ?_, by rw [e1]; exact a3, fun h hh => ?_⟩
  · obtain ⟨q1, q2, q3, q4, q5, q6, q7, q8, q9, q10, q11⟩ := a2 h hh
    unfold kR1
    rw [e1, e2, e3, e5, e6, e12, hs 7 (by decide) (by decide) (by decide) (by decide), hs 8 (by decide) (by decide) (by decide) (by decide), hs 10 (by decide) (by decide) (by decide) (by decide), hs 11 (by decide) (by decide) (by decide) (by decide)]
    refine ⟨q1, q2, ⟨q3.1, ?_, le73 h q3.2.2⟩, q4, q5, q6, q7, h9 h hh, q9, q10, q11⟩
    have := ge h
    have := q3.2.1
    rw [i_lt] at *; rw [i_le] at *; omega
  · obtain ⟨q1, q2, q3, q4, q5⟩ := a4 h hh
    unfold kR2
    rw [h0, e1, e3, e5, e6, e12]
    refine ⟨q1, q2, q3, fun z => ?_, fun k hk he => ?_⟩
    · obtain ⟨y1, y2, y3⟩ := q4 z
      refine ⟨y1, ?_, y3⟩
      have c : ¬ C h = true := fun c => by
        obtain ⟨_, k, hk, b1, _⟩ := hC h hh c
        rw [z] at b1; exact absurd b1.symm (by rw [ix_m1 (by omega)]; exact id)
      rw [h4, if_neg c]; exact y2
    · obtain ⟨p1, p2, p3, p4, p5⟩ := q5 k hk he
      have kd : ∀ x, kun s' x = if s 6 x = 0 then s' 4 x else s 5 x := fun x => by unfold kun; rw [e5, e6]
      have un : s 6 k ≠ 0 → s' 4 h = s 4 h := fun y => by
        have c : ¬ C h = true := fun c => by
          obtain ⟨_, k', hk', b1, b2, _⟩ := hC h hh c
          rw [he, ix_eq (by omega) (by omega)] at b1
          subst b1; exact y b2
        rw [h4, if_neg c]
      refine ⟨mono h k hh hk he, p2, fun y1 y2 => ?_, fun y1 y2 => ?_, p5⟩
      · rw [kd]
        by_cases w0 : s 6 k = 0
        · rw [if_pos w0]; exact mono h k hh hk he
        · rw [if_neg w0]
          rw [un w0] at y2 ⊢
          have := p3 y1 y2
          unfold kun at this; rw [if_neg w0] at this; exact this
      · by_cases w0 : s 6 k = 0
        · exact w0
        · rw [un w0] at y2; exact p4 y1 y2
section
variable {B x n na nn : Nat} {A AA AT AN : Nat → Nat} {t l u : Nat → Nat} {c s : Nat → Nat → Int32} {r : Nat → Nat → Nat} {q g w : Nat → Nat → Int64}
theorem cl_clen {i e : Nat → Nat → Int32} (H : kCD B A AA AT AN n na nn e t l i r x) (U : kU A AA AN n na nn u) {rk : Nat → Nat} (R : ∀ h, h < n → rk h < n ∧ ∀ k, k < n → e 1 h = nI k → rk k < rk h) {th : Int32} {post : Bool → mj_M → Prop} : ∀ f h, h < n → rk h < f → (∃ fe, vb_X4_canLengthen_8 post fe (B + 1) th (A h) (kT B t, kL B l, kI B i c s, kW B r u, kI B q g w, x)) = post (kxLo e n th f h) (kT B t, kL B l, kI B i c s, kW B r u, kI B q g w, x)
  | 0, h, _, h2 => by omega
  | f + 1, h, h1, h2 => by
    have h40 := H.n40
    rcases H.V1 h1 with z | ⟨k, hk, z⟩
    · rw [ex_succ rfl]
      simp only [vb_X4_canLengthen_8, mq_tag, mq_len, mq_i, mq_r, mq_l, mq_nx, mq_wi, mq_wr, mq_wl, true_and, and_true, and_false, false_and, and_self, ↓reduceIte, kT_0, kT_1, kT_2, kT_3, kT_4, kT_5, kT_6, kT_7, kT_8, kT_9, kT_10, kT_11, kT_12, kT_13, kT_14, kT_15, kT_16, kT_17, kT_18, kT_19, kT_20, kT_21, kT_22, kT_23, kL_2, kL_3, kL_5, kL_10, kL_11, kL_12, kL_14, kL_15, kL_17, kL_18, kL_19, kL_20, kL_21, kL_22, kL_23, kW_0_0, kW_0_1, kW_0_2, kW_0_3, kW_0_4, kW_0_5, kW_0_6, kW_0_7, kW_1_4, kW_1_5, kW_4_0, kW_4_1, kW_9_0, kW_9_1, kW_9_2, kW_13_0, kW_13_1, kW_16_0, kW_16_1, kW_16_2, kW_16_3, kW_16_4, kW_16_5, kW_1_1, kW_1_2, kW_4_4, kW_8_0, kW_8_1, kW_w1_1, kW_w1_2, kW_w4_4, kW_w8_0, kW_w8_1, kI_0, kI_w0, kI_1, kI_w1, kI_2, kI_w2, kI_3, kI_w3, kI_4, kI_w4, kI_5, kI_w5, kI_6, kI_w6, kI_7, kI_w7, kI_8, kI_w8, kI_9, kI_w9, kI_10, kI_w10, kI_11, kI_w11, kI_12, kI_w12, kI_13, kI_w13, kI_14, kI_w14, kI_15, kI_w15, kI_16, kI_w16, kI_17, kI_w17, kI_18, kI_w18, kI_19, kI_w19, kI_20, kI_w20, kI_21, kI_w21, kI_22, kI_w22, kI_23, kI_w23, H.atT h1, H.atI h1, H.atW h1, kR_n z, ex_ite, exists_and_left, exists_const, exists_and_right, kxLo, z]
    · have k1 : k < 2147483648 := by omega
      have := (R h h1).2 k hk z
      have I := cl_clen H U R (th := th) (post := post) f k hk (by omega)
      rw [ex_succ rfl]
      simp only [vb_X4_canLengthen_8, mq_tag, mq_len, mq_i, mq_r, mq_l, mq_nx, mq_wi, mq_wr, mq_wl, true_and, and_true, and_false, false_and, and_self, ↓reduceIte, kT_0, kT_1, kT_2, kT_3, kT_4, kT_5, kT_6, kT_7, kT_8, kT_9, kT_10, kT_11, kT_12, kT_13, kT_14, kT_15, kT_16, kT_17, kT_18, kT_19, kT_20, kT_21, kT_22, kT_23, kL_2, kL_3, kL_5, kL_10, kL_11, kL_12, kL_14, kL_15, kL_17, kL_18, kL_19, kL_20, kL_21, kL_22, kL_23, kW_0_0, kW_0_1, kW_0_2, kW_0_3, kW_0_4, kW_0_5, kW_0_6, kW_0_7, kW_1_4, kW_1_5, kW_4_0, kW_4_1, kW_9_0, kW_9_1, kW_9_2, kW_13_0, kW_13_1, kW_16_0, kW_16_1, kW_16_2, kW_16_3, kW_16_4, kW_16_5, kW_1_1, kW_1_2, kW_4_4, kW_8_0, kW_8_1, kW_w1_1, kW_w1_2, kW_w4_4, kW_w8_0, kW_w8_1, kI_0, kI_w0, kI_1, kI_w1, kI_2, kI_w2, kI_3, kI_w3, kI_4, kI_w4, kI_5, kI_w5, kI_6, kI_w6, kI_7, kI_w7, kI_8, kI_w8, kI_9, kI_w9, kI_10, kI_w10, kI_11, kI_w11, kI_12, kI_w12, kI_13, kI_w13, kI_14, kI_w14, kI_15, kI_w15, kI_16, kI_w16, kI_17, kI_w17, kI_18, kI_w18, kI_19, kI_w19, kI_20, kI_w20, kI_21, kI_w21, kI_22, kI_w22, kI_23, kI_w23, H.atT h1, H.atI h1, H.atW h1, z, kR_I k1, H.H0 hk, c_way H U h1 hk z, ex_ite, exists_and_left, exists_const, exists_and_right, kxLo, ix_neg k1, ix_nat k1, I]
      rcases Bool.eq_false_or_eq_true (kAny (kAno e (nI k) h (e 2 h) (e 4 h) th) n 0) with y | y <;> simp only [y, true_or, or_true, false_or, or_false, not_true_eq_false, not_false_eq_true, true_and, and_true, false_and, and_false, and_self, decide_true, decide_false, ↓reduceIte, Bool.true_and, Bool.false_and, Bool.and_true, Bool.and_false, Bool.not_true, Bool.not_false, Bool.false_eq_true, Bool.true_or, Bool.or_true, Bool.false_or, Bool.or_false, reduceCtorEq, Bool.and_self, Bool.or_self, ne_eq]
theorem ml_clen {i s : Nat → Nat → Int32} (H : kHo s n) (hn : s 0 13 = nI n) (h40 : n ≤ 40) {rk : Nat → Nat} (R : ∀ h, h < n → rk h < n ∧ ∀ k, k < n → s 1 h = nI k → rk k < rk h) {th : Int32} {post : Bool → mj_M → Prop} : ∀ f h (can : Bool), h < n → rk h < f → kon s h (s 0 0) = true → (∃ fe, vb_X12_canLonger_5 post fe (B + 24) th can (nI h) (kT B t, kL B l, kI B i c s, kW B r u, kI B q g w, x)) = post (can && kxLo s n th f h) (kT B t, kL B l, kI B i c s, kW B r u, kI B q g w, x)
  | 0, h, _, _, h2, _ => by omega
  | f + 1, h, can, h1, h2, hon => by
    have hh1 : h < 2147483648 := by omega
    have hw : ∀ h, h < n → 0 ≤ s 6 h := fun k hk => (H.2.1 k hk).2.2.2.2.1.1
    rcases (H.2.1 h h1).1 with z | ⟨k, hk, z⟩
    · have z2 : ((-1 : Int32) < 0) = True := eq_true (by decide)
      rw [ex_succ rfl]
      simp only [vb_X12_canLonger_5, mq_tag, mq_len, mq_i, mq_r, mq_l, mq_nx, mq_wi, mq_wr, mq_wl, true_and, and_true, and_false, false_and, and_self, ↓reduceIte, kT_24, kT_25, kT_26, kT_27, kT_28, kT_29, kT_30, kT_31, kT_32, kT_33, kT_34, kT_35, kT_36, kT_37, kT_38, kT_39, kT_40, kT_41, kT_42, kT_43, kT_44, kT_45, kT_46, kT_47, kT_48, kT_49, kT_50, kT_51, kT_52, kT_53, kT_54, kT_55, kT_56, kT_57, kT_58, kT_59, kT_60, kT_61, kL_25, kL_26, kL_27, kL_28, kL_29, kL_30, kL_31, kL_32, kL_33, kL_34, kL_35, kL_36, kL_37, kL_38, kL_39, kL_40, kL_41, kL_42, kL_43, kL_44, kL_45, kL_46, kL_47, kL_48, kL_49, kL_50, kL_51, kL_52, kL_53, kL_54, kL_55, kL_56, kL_57, kL_58, kL_59, kL_60, kL_61, kW_24_1, kW_24_2, kW_24_3, kW_24_4, kW_24_5, kW_24_6, kW_24_7, kW_24_8, kW_24_9, kW_24_10, kW_24_11, kW_24_12, kW_24_14, kW_24_15, kW_24_16, kW_24_17, kW_24_18, kW_24_19, kW_24_21, kW_24_22, kW_24_23, kW_24_25, kW_24_26, kW_24_27, kW_24_28, kW_24_29, kW_24_31, kW_24_32, kW_24_33, kW_24_34, kW_24_36, kW_24_37, kW_24_44, kW_24_49, kW_24_50, kW_24_51, kW_24_52, kI_24, kI_w24, kI_25, kI_w25, kI_26, kI_w26, kI_27, kI_w27, kI_28, kI_w28, kI_29, kI_w29, kI_30, kI_w30, kI_31, kI_w31, kI_32, kI_w32, kI_33, kI_w33, kI_34, kI_w34, kI_35, kI_w35, kI_36, kI_w36, kI_37, kI_w37, kI_38, kI_w38, kI_39, kI_w39, kI_40, kI_w40, kI_41, kI_w41, kI_42, kI_w42, kI_43, kI_w43, kI_44, kI_w44, kI_45, kI_w45, kI_46, kI_w46, kI_47, kI_w47, kI_48, kI_w48, kI_49, kI_w49, kI_50, kI_w50, kI_51, kI_w51, kI_52, kI_w52, kI_53, kI_w53, kI_54, kI_w54, kI_55, kI_w55, kI_56, kI_w56, kI_57, kI_w57, kI_58, kI_w58, kI_59, kI_w59, kI_60, kI_w60, kI_61, kI_w61, ix_in hh1, ix_nat hh1, show h < 40 by omega, z, z2, ex_ite, exists_and_left, exists_const, exists_and_right, kxLo, Bool.and_true]
    · have k1 : k < 2147483648 := by omega
      have rr := (R h h1).2 k hk z
      obtain ⟨w0, honk⟩ := H.onup h1 hk z hon
      have I := fun can => ml_clen (i := i) H hn h40 R (th := th) (post := post) f k can hk (by omega) honk
      have ku : kun s h = s 4 h := if_pos w0
      rw [ex_succ rfl]
      simp only [vb_X12_canLonger_5, vb_X12_canLonger_45, vb_X12_canLonger_49, vb_X12_canLonger_50, mq_tag, mq_len, mq_i, mq_r, mq_l, mq_nx, mq_wi, mq_wr, mq_wl, true_and, and_true, and_false, false_and, and_self, ↓reduceIte, kT_24, kT_25, kT_26, kT_27, kT_28, kT_29, kT_30, kT_31, kT_32, kT_33, kT_34, kT_35, kT_36, kT_37, kT_38, kT_39, kT_40, kT_41, kT_42, kT_43, kT_44, kT_45, kT_46, kT_47, kT_48, kT_49, kT_50, kT_51, kT_52, kT_53, kT_54, kT_55, kT_56, kT_57, kT_58, kT_59, kT_60, kT_61, kL_25, kL_26, kL_27, kL_28, kL_29, kL_30, kL_31, kL_32, kL_33, kL_34, kL_35, kL_36, kL_37, kL_38, kL_39, kL_40, kL_41, kL_42, kL_43, kL_44, kL_45, kL_46, kL_47, kL_48, kL_49, kL_50, kL_51, kL_52, kL_53, kL_54, kL_55, kL_56, kL_57, kL_58, kL_59, kL_60, kL_61, kW_24_1, kW_24_2, kW_24_3, kW_24_4, kW_24_5, kW_24_6, kW_24_7, kW_24_8, kW_24_9, kW_24_10, kW_24_11, kW_24_12, kW_24_14, kW_24_15, kW_24_16, kW_24_17, kW_24_18, kW_24_19, kW_24_21, kW_24_22, kW_24_23, kW_24_25, kW_24_26, kW_24_27, kW_24_28, kW_24_29, kW_24_31, kW_24_32, kW_24_33, kW_24_34, kW_24_36, kW_24_37, kW_24_44, kW_24_49, kW_24_50, kW_24_51, kW_24_52, kI_24, kI_w24, kI_25, kI_w25, kI_26, kI_w26, kI_27, kI_w27, kI_28, kI_w28, kI_29, kI_w29, kI_30, kI_w30, kI_31, kI_w31, kI_32, kI_w32, kI_33, kI_w33, kI_34, kI_w34, kI_35, kI_w35, kI_36, kI_w36, kI_37, kI_w37, kI_38, kI_w38, kI_39, kI_w39, kI_40, kI_w40, kI_41, kI_w41, kI_42, kI_w42, kI_43, kI_w43, kI_44, kI_w44, kI_45, kI_w45, kI_46, kI_w46, kI_47, kI_w47, kI_48, kI_w48, kI_49, kI_w49, kI_50, kI_w50, kI_51, kI_w51, kI_52, kI_w52, kI_53, kI_w53, kI_54, kI_w54, kI_55, kI_w55, kI_56, kI_w56, kI_57, kI_w57, kI_58, kI_w58, kI_59, kI_w59, kI_60, kI_w60, kI_61, kI_w61, ix_in hh1, ix_nat hh1, show h < 40 by omega, z, ix_neg k1, m_until (show h < 40 by omega) (hw h h1), ku, m_barred hn h40 hw h1, Bool.false_eq_true, ex_ite, exists_and_left, exists_const, exists_and_right, kxLo, ix_nat k1, I]
      cases can with
      | false => simp only [Bool.false_eq_true, ↓reduceIte, Bool.false_and]
      | true =>
        by_cases y : th ≤ s 4 h
        · rw [kAno_le y]
          simp only [y, true_or, or_true, false_or, or_false, not_true_eq_false, not_false_eq_true, true_and, and_true, false_and, and_false, and_self, decide_true, decide_false, ↓reduceIte, Bool.true_and, Bool.false_and, Bool.and_true, Bool.and_false, Bool.not_true, Bool.not_false, Bool.false_eq_true, Bool.true_or, Bool.or_true, Bool.false_or, Bool.or_false, reduceCtorEq, Bool.and_self, Bool.or_self, ne_eq]
        · rcases Bool.eq_false_or_eq_true (kAny (kAno s (nI k) h (s 2 h) (s 4 h) th) n 0) with v | v <;> simp only [y, v, true_or, or_true, false_or, or_false, not_true_eq_false, not_false_eq_true, true_and, and_true, false_and, and_false, and_self, decide_true, decide_false, ↓reduceIte, Bool.true_and, Bool.false_and, Bool.and_true, Bool.and_false, Bool.not_true, Bool.not_false, Bool.false_eq_true, Bool.true_or, Bool.or_true, Bool.false_or, Bool.or_false, reduceCtorEq, Bool.and_self, Bool.or_self, ne_eq]
theorem cl_lng {rk : Nat → Nat} {th : Int32} {h0 : Nat} (hh0 : h0 < n) {post : Unit → mj_M → Prop} : ∀ f h (e i : Nat → Nat → Int32), kCD B A AA AT AN n na nn e t l i r x → (∀ h, h < n → rk h < n ∧ ∀ k, k < n → e 1 h = nI k → rk k < rk h) → h < n → rk h < f →
    (∀ i', kCD B A AA AT AN n na nn (kxLr th f h e) t l i' r x → post () (kT B t, kL B l, kI B (mj_u2 i' (A h0) 10 0) c s, kW B r u, kI B q g w, x)) → ∃ fe, vb_X4_lengthen_8 post fe (A h0) th (A h) (kT B t, kL B l, kI B i c s, kW B r u, kI B q g w, x)
  | 0, h, _, _, _, _, _, h2, _ => by omega
  | f + 1, h, e, i, H, R, h1, h2, hp => by
    have h40 := H.n40
    rcases H.V1 h1 with z | ⟨k, hk, z⟩
    · refine ⟨1, ?_⟩
      have hp' := hp i (by unfold kxLr; rw [if_pos z]; exact H)
      simp only [vb_X4_lengthen_8, mq_tag, mq_len, mq_i, mq_r, mq_l, mq_nx, mq_wi, mq_wr, mq_wl, true_and, and_true, and_false, false_and, and_self, ↓reduceIte, kT_0, kT_1, kT_2, kT_3, kT_4, kT_5, kT_6, kT_7, kT_8, kT_9, kT_10, kT_11, kT_12, kT_13, kT_14, kT_15, kT_16, kT_17, kT_18, kT_19, kT_20, kT_21, kT_22, kT_23, kL_2, kL_3, kL_5, kL_10, kL_11, kL_12, kL_14, kL_15, kL_17, kL_18, kL_19, kL_20, kL_21, kL_22, kL_23, kW_0_0, kW_0_1, kW_0_2, kW_0_3, kW_0_4, kW_0_5, kW_0_6, kW_0_7, kW_1_4, kW_1_5, kW_4_0, kW_4_1, kW_9_0, kW_9_1, kW_9_2, kW_13_0, kW_13_1, kW_16_0, kW_16_1, kW_16_2, kW_16_3, kW_16_4, kW_16_5, kW_1_1, kW_1_2, kW_4_4, kW_8_0, kW_8_1, kW_w1_1, kW_w1_2, kW_w4_4, kW_w8_0, kW_w8_1, kI_0, kI_w0, kI_1, kI_w1, kI_2, kI_w2, kI_3, kI_w3, kI_4, kI_w4, kI_5, kI_w5, kI_6, kI_w6, kI_7, kI_w7, kI_8, kI_w8, kI_9, kI_w9, kI_10, kI_w10, kI_11, kI_w11, kI_12, kI_w12, kI_13, kI_w13, kI_14, kI_w14, kI_15, kI_w15, kI_16, kI_w16, kI_17, kI_w17, kI_18, kI_w18, kI_19, kI_w19, kI_20, kI_w20, kI_21, kI_w21, kI_22, kI_w22, kI_23, kI_w23, H.atT h1, H.atI h1, H.atW h1, H.atT hh0, kR_n z, kI_wo (H.AH hh0)]
      exact hp'
    · have k1 : k < 2147483648 := by omega
      have rr := (R h h1).2 k hk z
      have e1 : mj_u2 e 4 h (imx (e 4 h) th) 1 = e 1 := mj_u2_ne _ (by decide)
      have H2 : kCD B A AA AT AN n na nn (mj_u2 e 4 h (imx (e 4 h) th)) t l (mj_u2 i (A h) 5 (imx (e 4 h) th)) r x := H.wi h1 (j := 4) (by decide) _
      obtain ⟨fe, I⟩ := cl_lng hh0 (th := th) (post := post) f k _ _ H2 (by rw [e1]; exact R) hk (by omega) (fun i' Hi => hp i' (by
        unfold kxLr
        rw [if_neg (by rw [z]; exact nI_pos k1), z, ix_nat k1]; exact Hi))
      refine ⟨fe + 1, ?_⟩
      simp only [vb_X4_lengthen_8, mq_tag, mq_len, mq_i, mq_r, mq_l, mq_nx, mq_wi, mq_wr, mq_wl, true_and, and_true, and_false, false_and, and_self, ↓reduceIte, kT_0, kT_1, kT_2, kT_3, kT_4, kT_5, kT_6, kT_7, kT_8, kT_9, kT_10, kT_11, kT_12, kT_13, kT_14, kT_15, kT_16, kT_17, kT_18, kT_19, kT_20, kT_21, kT_22, kT_23, kL_2, kL_3, kL_5, kL_10, kL_11, kL_12, kL_14, kL_15, kL_17, kL_18, kL_19, kL_20, kL_21, kL_22, kL_23, kW_0_0, kW_0_1, kW_0_2, kW_0_3, kW_0_4, kW_0_5, kW_0_6, kW_0_7, kW_1_4, kW_1_5, kW_4_0, kW_4_1, kW_9_0, kW_9_1, kW_9_2, kW_13_0, kW_13_1, kW_16_0, kW_16_1, kW_16_2, kW_16_3, kW_16_4, kW_16_5, kW_1_1, kW_1_2, kW_4_4, kW_8_0, kW_8_1, kW_w1_1, kW_w1_2, kW_w4_4, kW_w8_0, kW_w8_1, kI_0, kI_w0, kI_1, kI_w1, kI_2, kI_w2, kI_3, kI_w3, kI_4, kI_w4, kI_5, kI_w5, kI_6, kI_w6, kI_7, kI_w7, kI_8, kI_w8, kI_9, kI_w9, kI_10, kI_w10, kI_11, kI_w11, kI_12, kI_w12, kI_13, kI_w13, kI_14, kI_w14, kI_15, kI_w15, kI_16, kI_w16, kI_17, kI_w17, kI_18, kI_w18, kI_19, kI_w19, kI_20, kI_w20, kI_21, kI_w21, kI_22, kI_w22, kI_23, kI_w23, H.atT h1, H.atI h1, H.atW h1, z, kR_I k1, H.H0 hk, e_max, kI_wo (H.AH h1)]
      exact I
theorem ml_lng {i : Nat → Nat → Int32} (h40 : n ≤ 40) {rk : Nat → Nat} {th : Int32} {h0 : Nat} (hh0 : h0 < n) {Q : Nat → Prop} {post : Bool → mj_M → Prop} : ∀ f h (s : Nat → Nat → Int32), (∀ h, h < n → s 1 h = -1 ∨ ∃ k, k < n ∧ s 1 h = nI k) → (∀ h, h < n → rk h < n ∧ ∀ k, k < n → s 1 h = nI k → rk k < rk h) → (∀ h k, h < n → k < n → Q h → s 1 h = nI k → s 6 h = 0 ∧ Q k) → h < n → rk h < f → Q h →
    (∃ fe, vb_X12_longer_29 post fe (B + 24) (nI h0) th (nI h) (kT B t, kL B l, kI B i c s, kW B r u, kI B q g w, x)) = post true (kT B t, kL B l, kI B i c (mj_u2 (kxLr th f h s) 9 h0 0), kW B r u, kI B q g w, x)
  | 0, h, _, _, _, _, _, h2, _ => by omega
  | f + 1, h, s, hout, R, hQ, h1, h2, q0 => by
    have hh1 : h < 2147483648 := by omega
    have h01 : h0 < 2147483648 := by omega
    rcases hout h h1 with z | ⟨k, hk, z⟩
    · have z2 : ((-1 : Int32) < 0) = True := eq_true (by decide)
      have e : kxLr th (f + 1) h s = s := by unfold kxLr; rw [if_pos (by rw [z]; decide)]
      rw [ex_succ rfl, e]
      simp only [vb_X12_longer_29, mq_tag, mq_len, mq_i, mq_r, mq_l, mq_nx, mq_wi, mq_wr, mq_wl, true_and, and_true, and_false, false_and, and_self, ↓reduceIte, kT_24, kT_25, kT_26, kT_27, kT_28, kT_29, kT_30, kT_31, kT_32, kT_33, kT_34, kT_35, kT_36, kT_37, kT_38, kT_39, kT_40, kT_41, kT_42, kT_43, kT_44, kT_45, kT_46, kT_47, kT_48, kT_49, kT_50, kT_51, kT_52, kT_53, kT_54, kT_55, kT_56, kT_57, kT_58, kT_59, kT_60, kT_61, kL_25, kL_26, kL_27, kL_28, kL_29, kL_30, kL_31, kL_32, kL_33, kL_34, kL_35, kL_36, kL_37, kL_38, kL_39, kL_40, kL_41, kL_42, kL_43, kL_44, kL_45, kL_46, kL_47, kL_48, kL_49, kL_50, kL_51, kL_52, kL_53, kL_54, kL_55, kL_56, kL_57, kL_58, kL_59, kL_60, kL_61, kW_24_1, kW_24_2, kW_24_3, kW_24_4, kW_24_5, kW_24_6, kW_24_7, kW_24_8, kW_24_9, kW_24_10, kW_24_11, kW_24_12, kW_24_14, kW_24_15, kW_24_16, kW_24_17, kW_24_18, kW_24_19, kW_24_21, kW_24_22, kW_24_23, kW_24_25, kW_24_26, kW_24_27, kW_24_28, kW_24_29, kW_24_31, kW_24_32, kW_24_33, kW_24_34, kW_24_36, kW_24_37, kW_24_44, kW_24_49, kW_24_50, kW_24_51, kW_24_52, kI_24, kI_w24, kI_25, kI_w25, kI_26, kI_w26, kI_27, kI_w27, kI_28, kI_w28, kI_29, kI_w29, kI_30, kI_w30, kI_31, kI_w31, kI_32, kI_w32, kI_33, kI_w33, kI_34, kI_w34, kI_35, kI_w35, kI_36, kI_w36, kI_37, kI_w37, kI_38, kI_w38, kI_39, kI_w39, kI_40, kI_w40, kI_41, kI_w41, kI_42, kI_w42, kI_43, kI_w43, kI_44, kI_w44, kI_45, kI_w45, kI_46, kI_w46, kI_47, kI_w47, kI_48, kI_w48, kI_49, kI_w49, kI_50, kI_w50, kI_51, kI_w51, kI_52, kI_w52, kI_53, kI_w53, kI_54, kI_w54, kI_55, kI_w55, kI_56, kI_w56, kI_57, kI_w57, kI_58, kI_w58, kI_59, kI_w59, kI_60, kI_w60, kI_61, kI_w61, ix_in hh1, ix_nat hh1, show h < 40 by omega, z, z2, ix_in h01, ix_nat h01, show h0 < 40 by omega, ex_ite, exists_and_left, exists_const, exists_and_right]
    · have k1 : k < 2147483648 := by omega
      have rr := (R h h1).2 k hk z
      obtain ⟨w0, qk⟩ := hQ h k h1 hk q0 z
      have ku : kun s h = s 4 h := if_pos w0
      have hw0 : 0 ≤ s 6 h := by rw [w0]; decide
      have e1 : mj_u2 s 4 h (imx (s 4 h) th) 1 = s 1 := mj_u2_ne _ (by decide)
      have e6 : mj_u2 s 4 h (imx (s 4 h) th) 6 = s 6 := mj_u2_ne _ (by decide)
      have I := ml_lng (i := i) h40 (th := th) hh0 (Q := Q) (post := post) f k (mj_u2 s 4 h (imx (s 4 h) th)) (by rw [e1]; exact hout) (by rw [e1]; exact R) (by rw [e1, e6]; exact hQ) hk (by omega) qk
      have e : kxLr th (f + 1) h s = kxLr th f k (mj_u2 s 4 h (imx (s 4 h) th)) := by
        show (if s 1 h < 0 then s else kxLr th f (s 1 h).toNatClampNeg (mj_u2 s 4 h (imx (s 4 h) th))) = _
        rw [if_neg (by rw [z]; exact nI_pos k1), z, ix_nat k1]
      rw [ex_succ rfl, e, ← I]
      simp only [vb_X12_longer_29, vb_X12_longer_62, mq_tag, mq_len, mq_i, mq_r, mq_l, mq_nx, mq_wi, mq_wr, mq_wl, true_and, and_true, and_false, false_and, and_self, ↓reduceIte, kT_24, kT_25, kT_26, kT_27, kT_28, kT_29, kT_30, kT_31, kT_32, kT_33, kT_34, kT_35, kT_36, kT_37, kT_38, kT_39, kT_40, kT_41, kT_42, kT_43, kT_44, kT_45, kT_46, kT_47, kT_48, kT_49, kT_50, kT_51, kT_52, kT_53, kT_54, kT_55, kT_56, kT_57, kT_58, kT_59, kT_60, kT_61, kL_25, kL_26, kL_27, kL_28, kL_29, kL_30, kL_31, kL_32, kL_33, kL_34, kL_35, kL_36, kL_37, kL_38, kL_39, kL_40, kL_41, kL_42, kL_43, kL_44, kL_45, kL_46, kL_47, kL_48, kL_49, kL_50, kL_51, kL_52, kL_53, kL_54, kL_55, kL_56, kL_57, kL_58, kL_59, kL_60, kL_61, kW_24_1, kW_24_2, kW_24_3, kW_24_4, kW_24_5, kW_24_6, kW_24_7, kW_24_8, kW_24_9, kW_24_10, kW_24_11, kW_24_12, kW_24_14, kW_24_15, kW_24_16, kW_24_17, kW_24_18, kW_24_19, kW_24_21, kW_24_22, kW_24_23, kW_24_25, kW_24_26, kW_24_27, kW_24_28, kW_24_29, kW_24_31, kW_24_32, kW_24_33, kW_24_34, kW_24_36, kW_24_37, kW_24_44, kW_24_49, kW_24_50, kW_24_51, kW_24_52, kI_24, kI_w24, kI_25, kI_w25, kI_26, kI_w26, kI_27, kI_w27, kI_28, kI_w28, kI_29, kI_w29, kI_30, kI_w30, kI_31, kI_w31, kI_32, kI_w32, kI_33, kI_w33, kI_34, kI_w34, kI_35, kI_w35, kI_36, kI_w36, kI_37, kI_w37, kI_38, kI_w38, kI_39, kI_w39, kI_40, kI_w40, kI_41, kI_w41, kI_42, kI_w42, kI_43, kI_w43, kI_44, kI_w44, kI_45, kI_w45, kI_46, kI_w46, kI_47, kI_w47, kI_48, kI_w48, kI_49, kI_w49, kI_50, kI_w50, kI_51, kI_w51, kI_52, kI_w52, kI_53, kI_w53, kI_54, kI_w54, kI_55, kI_w55, kI_56, kI_w56, kI_57, kI_w57, kI_58, kI_w58, kI_59, kI_w59, kI_60, kI_w60, kI_61, kI_w61, ix_in hh1, ix_nat hh1, show h < 40 by omega, z, ix_neg k1, m_until (show h < 40 by omega) hw0, ku, mq_u2n, ne_eq, Nat.reduceEqDiff, not_false_eq_true, ex_ite, exists_and_left, exists_const, exists_and_right]
      rcases imx_or (s 4 h) th with ⟨m, m2⟩ | ⟨m, m2⟩
      · rw [if_pos m2, m]
      · rw [if_neg (Int32.not_le.mpr m2), m]
end

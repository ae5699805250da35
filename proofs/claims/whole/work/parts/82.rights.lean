/-! STAGE B: rights -/
def gFr (f : Nat → Int32) (m k st : Nat) : Prop := st = 0 ∨ (2 < st ∧ (m = 0 ∨ gDig (f k) = false))
/-- a sign at a place where a part may begin or has ended: a fact's, or one that leads to such a place -/
theorem gFr_step {f : Nat → Int32} {m k st op : Nat} (hst : gFr f (m + 1) k st) (hg : gF f (m + 1) k st op = none) :
    (mj_fact (f k) = true ∧ gF f m (k + 1) 1 op = none) ∨ (mj_fact (f k) = false ∧ gDig (f k) = false ∧ kCs (f k) = false ∧ ∃ st', gFr f m (k + 1) st' ∧ gF f m (k + 1) st' (gOp (f k) op) = none) := by
  obtain ⟨st', hst', hg'⟩ : ∃ st', gSt st (f k) op = some st' ∧ gF f m (k + 1) st' (gOp (f k) op) = none := by
    unfold gF at hg
    cases hs : gSt st (f k) op with
    | none => rw [hs] at hg; cases hg
    | some st' => rw [hs] at hg; exact ⟨st', rfl, hg⟩
  have v8 : (st' = 8 ∨ st' = 0) → gFr f m (k + 1) st' := by
    intro h8
    rcases h8 with h8 | h8
    · right
      refine ⟨by omega, ?_⟩
      cases m with
      | zero => exact .inl rfl
      | succ m' =>
        right
        cases hdd : gDig (f (k + 1)) with
        | false => rfl
        | true =>
          exfalso
          obtain ⟨d38, d124, d41, d40⟩ := gDig_n hdd
          unfold gF at hg'
          have : gSt st' (f (k + 1)) (gOp (f k) op) = none := by
            unfold gSt
            rw [if_neg (by omega), if_neg (by omega), if_neg (by omega), if_neg (by omega), if_neg (fun z => by rcases z with z | z; exact d38 z; exact d124 z), if_neg (fun z => d41 z.1)]
          rw [this] at hg'; cases hg'
    · exact .inl h8
  rcases hst with z | ⟨z1, z2⟩
  · subst z
    unfold gSt at hst'
    rw [if_pos rfl] at hst'
    by_cases y : f k = 33 ∨ f k = 40
    · rw [if_pos y] at hst'; cases hst'
      right
      refine ⟨?_, ?_, ?_, 0, v8 (.inr rfl), hg'⟩ <;> rcases y with y | y <;> rw [y] <;> decide
    · rw [if_neg y] at hst'
      split at hst'
      · rename_i hfc
        cases hst'
        obtain ⟨n40, n33, n41⟩ := gFact_n hfc
        have eo : gOp (f k) op = op := by unfold gOp; rw [if_neg n40, if_neg n41]
        rw [eo] at hg'
        exact .inl ⟨hfc, hg'⟩
      · cases hst'
  · have hdd : gDig (f k) = false := by rcases z2 with y | y; omega; exact y
    right
    unfold gSt at hst'
    rw [if_neg (by omega), if_neg (by omega), if_neg (fun y => by rw [hdd] at y; exact absurd y.2 (by decide)), if_neg (by omega)] at hst'
    by_cases y : f k = 38 ∨ f k = 124
    · rw [if_pos y] at hst'; cases hst'
      refine ⟨?_, hdd, ?_, 0, v8 (.inr rfl), hg'⟩ <;> rcases y with y | y <;> rw [y] <;> decide
    · rw [if_neg y] at hst'
      split at hst'
      · rename_i y2
        cases hst'
        refine ⟨?_, hdd, ?_, 8, v8 (.inl rfl), hg'⟩ <;> rw [y2.1] <;> decide
      · cases hst'
theorem gF_cmp {f : Nat → Int32} {m k op : Nat} (hg' : gF f m k 1 op = none) : ∃ m1, m = m1 + 1 ∧ kCs (f k) = true ∧ mj_fact (f k) = false ∧ gDig (f k) = false := by
  obtain ⟨m1, rfl⟩ : ∃ m1, m = m1 + 1 := by
    cases m with
    | zero => unfold gF at hg'; rw [if_neg (by omega)] at hg'; cases hg'
    | succ m => exact ⟨m, rfl⟩
  have hcs : kCs (f k) = true := by
    unfold gF at hg'
    cases hs : gSt 1 (f k) op with
    | none => rw [hs] at hg'; cases hg'
    | some st2 =>
      unfold gSt at hs
      rw [if_neg (by decide), if_pos rfl] at hs
      split at hs
      · rename_i y; exact decide_eq_true y
      · cases hs
  refine ⟨m1, rfl, hcs, ?_, ?_⟩
  · cases z : mj_fact (f k) with
    | false => rfl
    | true =>
      simp only [kCs, decide_eq_true_eq] at hcs
      rcases hcs with y | y | y <;> rw [y] at z <;> exact absurd z (by decide)
  · cases z : gDig (f k) with
    | false => rfl
    | true =>
      simp only [kCs, decide_eq_true_eq] at hcs
      rcases hcs with y | y | y <;> rw [y] at z <;> exact absurd z (by decide)
theorem ev_free {f : Nat → Int32} {fc : Int32 → Int32} {tu : Nat → Bool} : ∀ (m k st op : Nat) (W I T : Nat → Bool) (cnt : Nat) (lf cp nm lf' cp' nm' : Int32), gFr f m k st → gF f m k st op = none → ev f fc tu m k W I T op cnt lf cp nm = ev f fc tu m k W I T op cnt lf' cp' nm'
  | 0, _, _, _, _, _, _, _, _, _, _, _, _, _, _, _ => rfl
  | m + 1, k, st, op, W, I, T, cnt, lf, cp, nm, lf', cp', nm', hst, hg => by
    rcases gFr_step hst hg with ⟨hfc, hg1⟩ | ⟨h1, h2, h3, st', hst', hg'⟩
    · obtain ⟨m1, rfl, c1, c2, c3⟩ := gF_cmp hg1
      simp only [ev, hfc, c1, c2, c3, Bool.false_eq_true, ↓reduceIte]
    · simp only [ev, h1, h2, h3, Bool.false_eq_true, ↓reduceIte]
      have I1 := fun W I T op' (ho : gOp (f k) op = op') => ev_free (fc := fc) (tu := tu) m (k + 1) st' op' W I T cnt lf cp nm lf' cp' nm' hst' (by rw [← ho]; exact hg')
      by_cases c33 : f k = 33
      · rw [if_pos c33, if_pos c33]; exact I1 _ _ _ _ (by rw [c33]; rfl)
      · rw [if_neg c33, if_neg c33]
        by_cases c124 : f k = 124
        · rw [if_pos c124, if_pos c124]; exact I1 _ _ _ _ (by rw [c124]; rfl)
        · rw [if_neg c124, if_neg c124]
          by_cases c40 : f k = 40
          · rw [if_pos c40, if_pos c40]; exact I1 _ _ _ _ (by rw [c40]; rfl)
          · rw [if_neg c40, if_neg c40]
            by_cases c41 : f k = 41
            · rw [if_pos c41, if_pos c41]; exact I1 _ _ _ _ (by rw [c41]; rfl)
            · rw [if_neg c41, if_neg c41]; exact I1 _ _ _ _ (by unfold gOp; rw [if_neg c40, if_neg c41])
/-- whether a text is so, and how many comparisons it has -/
def kTx (s : Nat → Nat → Int32) (a h : Nat) (d : Int32) (tu : Nat → Bool) : Bool × Nat := ev (fun k => s 16 (48 * a + k)) (fun ch => kFc s h ch d) tu (s 17 a).toNatClampNeg 0 (fun _ => false) (fun _ => true) (fun _ => false) 0 0 0 0 0
section
variable {B : Nat} {A AA AT AN N t l u : Nat → Nat} {i c s s1 : Nat → Nat → Int32} {r : Nat → Nat → Nat} {q g w : Nat → Nat → Int64} {x : Nat}
theorem c_isSo (hG : kG B A AA AT AN N c s t l i r u x) {a h : Nat} (ha : a < N 1) (hh : h < N 0) {d v : Int32} (hd : 0 ≤ d ∧ d ≤ 73000) {tu : Nat → Bool} (htu : ∀ k, k ≤ 48 → (nI k = v) = (tu k = true)) {post : Bool → mj_M → Prop}
    (hp : ∀ c' g', (∀ j, j ≠ 7 → c' j = c j) → c' 7 4 = nI (kTx s a h d tu).2 → post (kTx s a h d tu).1 (kT B t, kL B l, kI B i c' s1, kW B r u, kI B q g' w, x)) :
    vc_X8_isSo (B + 7) (AT a) (B + 1) (A h) d v (kT B t, kL B l, kI B i c s1, kW B r u, kI B q g w, x) post := by
  obtain ⟨_, _, m, m48, hm, hgf⟩ := hG.2.2.2.2.2.2.2.2.1 a ha
  have kA := hG.1.2.2.2.2.2.1 a ha
  have lm : l (AT a) = m := by
    have := kA.2.2.2.2.1
    rw [hm, ix_eq (by have := kA.2.2.2.2.2.1; omega) (by omega)] at this; exact this
  have e0 : (1 : Int64) <<< ((0 : Int32).toInt64 &&& 63) = bm 0 := by rw [← nI_0]; rfl
  have c3 : mj_u2 (mj_u2 c 7 3 0) 7 4 0 7 3 = 0 := by simp [mq_u2]
  have eT : ∀ lf cp nm, ev (fun k => s 16 (48 * a + k)) (fun ch => kFc s h ch d) tu m 0 (fun _ => false) (fun _ => true) (fun _ => false) 0 0 lf cp nm = kTx s a h d tu := by
    intro lf cp nm
    unfold kTx
    rw [hm, ix_nat (by omega)]
    exact ev_free m 0 0 0 _ _ _ 0 _ _ _ _ _ _ (.inl rfl) hgf
  simp only [vc_X8_isSo, vc_X8_restart, vc_X8_openText, mq_tag, mq_len, mq_i, mq_r, mq_l, mq_nx, mq_wi, mq_wr, mq_wl, true_and, and_true, and_false, false_and, and_self, ↓reduceIte, kT_0, kT_1, kT_2, kT_3, kT_4, kT_5, kT_6, kT_7, kT_8, kT_9, kT_10, kT_11, kT_12, kT_13, kT_14, kT_15, kT_16, kT_17, kT_18, kT_19, kT_20, kT_21, kT_22, kT_23, kL_2, kL_3, kL_5, kL_10, kL_11, kL_12, kL_14, kL_15, kL_17, kL_18, kL_19, kL_20, kL_21, kL_22, kL_23, kW_0_0, kW_0_1, kW_0_2, kW_0_3, kW_0_4, kW_0_5, kW_0_6, kW_0_7, kW_1_4, kW_1_5, kW_4_0, kW_4_1, kW_9_0, kW_9_1, kW_9_2, kW_13_0, kW_13_1, kW_16_0, kW_16_1, kW_16_2, kW_16_3, kW_16_4, kW_16_5, kW_1_1, kW_1_2, kW_4_4, kW_8_0, kW_8_1, kW_w1_1, kW_w1_2, kW_w4_4, kW_w8_0, kW_w8_1, kI_0, kI_w0, kI_1, kI_w1, kI_2, kI_w2, kI_3, kI_w3, kI_4, kI_w4, kI_5, kI_w5, kI_6, kI_w6, kI_7, kI_w7, kI_8, kI_w8, kI_9, kI_w9, kI_10, kI_w10, kI_11, kI_w11, kI_12, kI_w12, kI_13, kI_w13, kI_14, kI_w14, kI_15, kI_w15, kI_16, kI_w16, kI_17, kI_w17, kI_18, kI_w18, kI_19, kI_w19, kI_20, kI_w20, kI_21, kI_w21, kI_22, kI_w22, kI_23, kI_w23, c3, e0, mq_u2s, mq_u2k, ne_eq, Nat.reduceEqDiff, not_false_eq_true]
  have F2 : ∀ j, j ≠ 7 → mj_u2 (mj_u2 c 7 3 0) 7 4 0 j = c j := fun j hj => by rw [mj_u2_ne _ hj, mj_u2_ne _ hj]
  have R := cl_so (B := B) (t := t) (l := l) (u := u) (i := i) (s1 := s1) (r := r) (q := q) (w := w) (x := x) (v := v) ha hh hd htu (f := fun k => s 16 (48 * a + k)) (fun _ => rfl) (post := post) m 0 0 0 (fun _ => false) (fun _ => true) (fun _ => false) 0 (c 7 5) (c 7 6) (c 7 7) (mj_u2 (mj_u2 c 7 3 0) 7 4 0) (mj_u2 (mj_u2 (mj_u2 g 7 0 (g 7 0 &&& (bm 0 ^^^ -1))) 7 1 (g 7 1 ||| bm 0)) 7 2 (g 7 2 &&& (bm 0 ^^^ -1)))
    (hG.scr (fun j _ j7 _ => F2 j j7) (fun _ _ _ _ _ _ => rfl) (fun _ _ _ => rfl)) (by omega) hgf (Nat.le_refl _) (Nat.le_refl _)
    ⟨fun j hj => by
      have j0 : j = 0 := by omega
      subst j0
      have s0 : mj_u2 (mj_u2 (mj_u2 g 7 0 (g 7 0 &&& (bm 0 ^^^ -1))) 7 1 (g 7 1 ||| bm 0)) 7 2 (g 7 2 &&& (bm 0 ^^^ -1)) 7 0 = g 7 0 &&& (bm 0 ^^^ -1) := by simp [mq_u2]
      have s1' : mj_u2 (mj_u2 (mj_u2 g 7 0 (g 7 0 &&& (bm 0 ^^^ -1))) 7 1 (g 7 1 ||| bm 0)) 7 2 (g 7 2 &&& (bm 0 ^^^ -1)) 7 1 = g 7 1 ||| bm 0 := by simp [mq_u2]
      have s2 : mj_u2 (mj_u2 (mj_u2 g 7 0 (g 7 0 &&& (bm 0 ^^^ -1))) 7 1 (g 7 1 ||| bm 0)) 7 2 (g 7 2 &&& (bm 0 ^^^ -1)) 7 2 = g 7 2 &&& (bm 0 ^^^ -1) := by simp [mq_u2]
      rw [s0, s1', s2, bt_an (by decide) (by decide), bt_or (by decide), bt_an (by decide) (by decide)]
      simp, by simp [mq_u2, nI_0], by simp [mq_u2, nI_0], by simp [mq_u2], by simp [mq_u2], by simp [mq_u2]⟩
    (fun c' g' h1 h2 => by
      rw [eT] at h2 ⊢
      exact hp c' g' (fun j hj => (h1 j hj).trans (F2 j hj)) h2)
  rw [nI_0] at R; exact R
theorem m_holds {t2 l2 u2 : Nat → Nat} {i2 : Nat → Nat → Int32} {r2 : Nat → Nat → Nat} {x2 : Nat} (hG : kG B A AA AT AN N c s t l i r u x) (hF : rF s s1) {c' : Nat → Nat → Int32} {a h : Nat} (ha : a < N 1) (hh : h < N 0) {d v : Int32} (hd : 0 ≤ d ∧ d ≤ 73000) {tu : Nat → Bool} (htu : ∀ k, k ≤ 48 → (nI k = v) = (tu k = true)) {post : Bool → mj_M → Prop}
    (hp : ∀ s', rF s s' → s' 0 24 = nI (kTx s a h d tu).2 → post (kTx s a h d tu).1 (kT B t2, kL B l2, kI B i2 c' s', kW B r2 u2, kI B q g w, x2)) :
    vc_X12_holds (B + 24) (nI a) (nI h) d v (kT B t2, kL B l2, kI B i2 c' s1, kW B r2 u2, kI B q g w, x2) post := by
  obtain ⟨_, _, m, m48, hm, hgf⟩ := hG.2.2.2.2.2.2.2.2.1 a ha
  have eT : ∀ lf cp nm, ev (fun k => s 16 (48 * a + k)) (fun ch => kFc s h ch d) tu m 0 (fun _ => false) (fun _ => true) (fun _ => false) 0 0 lf cp nm = kTx s a h d tu := by
    intro lf cp nm
    unfold kTx
    rw [hm, ix_nat (by omega)]
    exact ev_free m 0 0 0 _ _ _ 0 _ _ _ _ _ _ (.inl rfl) hgf
  have R := ml_ho (B := B) (t2 := t2) (l2 := l2) (u2 := u2) (i2 := i2) (c := c') (r2 := r2) (x2 := x2) (q := q) (g := g) (w := w) (v := v) hG ha hh hd htu (f := fun k => s 16 (48 * a + k)) (fun _ => rfl) hm m48 (post := post) m 0 0 0 (fun _ => false) (fun _ => true) (fun _ => false) 0 0 0 0
  have R2 := R (mj_u2 (mj_u2 (mj_u2 (mj_u2 s1 0 24 0) 21 0 0) 22 0 1) 23 0 0) (by omega) hgf (.inl rfl) (Nat.le_refl _) (Nat.le_refl _) ((((hF.trans (rF.w24 _)).trans (rF.w21 (.inl rfl) _ _)).trans (rF.w21 (.inr (.inl rfl)) _ _)).trans (rF.w21 (.inr (.inr rfl)) _ _))
    ⟨fun j hj => by
      have j0 : j = 0 := by omega
      subst j0
      simp [mq_u2, mj_b], by simp [mq_u2, nI_0]⟩ (fun s' h1 h2 => by rw [eT] at h2 ⊢; exact hp s' h1 h2)
  simp only [vc_X12_holds, mq_tag, mq_len, mq_i, mq_r, mq_l, mq_nx, mq_wi, mq_wr, mq_wl, true_and, and_true, and_false, false_and, and_self, ↓reduceIte, kT_24, kT_25, kT_26, kT_27, kT_28, kT_29, kT_30, kT_31, kT_32, kT_33, kT_34, kT_35, kT_36, kT_37, kT_38, kT_39, kT_40, kT_41, kT_42, kT_43, kT_44, kT_45, kT_46, kT_47, kT_48, kT_49, kT_50, kT_51, kT_52, kT_53, kT_54, kT_55, kT_56, kT_57, kT_58, kT_59, kT_60, kT_61, kL_25, kL_26, kL_27, kL_28, kL_29, kL_30, kL_31, kL_32, kL_33, kL_34, kL_35, kL_36, kL_37, kL_38, kL_39, kL_40, kL_41, kL_42, kL_43, kL_44, kL_45, kL_46, kL_47, kL_48, kL_49, kL_50, kL_51, kL_52, kL_53, kL_54, kL_55, kL_56, kL_57, kL_58, kL_59, kL_60, kL_61, kW_24_1, kW_24_2, kW_24_3, kW_24_4, kW_24_5, kW_24_6, kW_24_7, kW_24_8, kW_24_9, kW_24_10, kW_24_11, kW_24_12, kW_24_14, kW_24_15, kW_24_16, kW_24_17, kW_24_18, kW_24_19, kW_24_21, kW_24_22, kW_24_23, kW_24_25, kW_24_26, kW_24_27, kW_24_28, kW_24_29, kW_24_31, kW_24_32, kW_24_33, kW_24_34, kW_24_36, kW_24_37, kW_24_44, kW_24_49, kW_24_50, kW_24_51, kW_24_52, kI_24, kI_w24, kI_25, kI_w25, kI_26, kI_w26, kI_27, kI_w27, kI_28, kI_w28, kI_29, kI_w29, kI_30, kI_w30, kI_31, kI_w31, kI_32, kI_w32, kI_33, kI_w33, kI_34, kI_w34, kI_35, kI_w35, kI_36, kI_w36, kI_37, kI_w37, kI_38, kI_w38, kI_39, kI_w39, kI_40, kI_w40, kI_41, kI_w41, kI_42, kI_w42, kI_43, kI_w43, kI_44, kI_w44, kI_45, kI_w45, kI_46, kI_w46, kI_47, kI_w47, kI_48, kI_w48, kI_49, kI_w49, kI_50, kI_w50, kI_51, kI_w51, kI_52, kI_w52, kI_53, kI_w53, kI_54, kI_w54, kI_55, kI_w55, kI_56, kI_w56, kI_57, kI_w57, kI_58, kI_w58, kI_59, kI_w59, kI_60, kI_w60, kI_61, kI_w61]
  have e := m_begin (B := B) (x := x2) (t := t2) (l := l2) (u := u2) (i := i2) (c := c') (r := r2) (q := q) (g := g) (w := w) (s := mj_u2 s1 0 24 0) (D := 0) (by decide) (post := fun _ M69 => ∃ fe, vb_X12_holds_16 post fe (B + 24) (nI a) (nI h) d v 0 0 M69)
  rw [nI_0] at e R2
  rw [e]; exact R2
def kNo1 (_ : Nat) : Bool := false
theorem tu_no {v : Int32} (h : v < 0) : ∀ k, k ≤ 48 → (nI k = v) = (kNo1 k = true) := fun k hk => by
  rw [show (kNo1 k = true) = False by simp [kNo1]]
  exact eq_false (fun z => by rw [← z] at h; exact nI_pos (by omega) h)
theorem tu_at {j : Nat} (hj : j ≤ 48) : ∀ k, k ≤ 48 → (nI k = nI j) = ((fun k => decide (k = j)) k = true) := fun k hk => by
  rw [ix_eq (by omega) (by omega)]; simp
/-- the right of a holding on a day -/
def kRi (s : Nat → Nat → Int32) (na h : Nat) (kd d : Int32) : Int32 := match kBe s kd d na with
  | none => -6
  | some a => if (kTx s a h d kNo1).1 = true then 1 else 0
def kHr (s : Nat → Nat → Int32) (na h : Nat) (kd d : Int32) : Bool := match kBe s kd d na with
  | none => false
  | some a => kon s h d && (kTx s a h d kNo1).1
theorem kBe_to {s s' : Nat → Nat → Int32} (h1 : s' 18 = s 18) (h2 : s' 19 = s 19) (kd d : Int32) : ∀ a, kBe s' kd d a = kBe s kd d a
  | 0 => rfl
  | a + 1 => by
    have e : ∀ b, kGe s' b = kGe s b := fun b => by unfold kGe; rw [h2]
    unfold kBe
    rw [kBe_to h1 h2 kd d a, h1, h2, e]
theorem m_right {t2 l2 u2 : Nat → Nat} {i2 : Nat → Nat → Int32} {r2 : Nat → Nat → Nat} {x2 : Nat} (hG : kG B A AA AT AN N c s t l i r u x) (hF : rF s s1) {c' : Nat → Nat → Int32} {h : Nat} (hh : h < N 0) {kd d : Int32} (hd : 0 ≤ d ∧ d ≤ 73000) {post : Int32 → mj_M → Prop}
    (hp : ∀ s', rF s s' → post (kRi s (N 1) h kd d) (kT B t2, kL B l2, kI B i2 c' s', kW B r2 u2, kI B q g w, x2)) :
    vc_X12_rightOn (B + 24) (nI h) kd d (kT B t2, kL B l2, kI B i2 c' s1, kW B r2 u2, kI B q g w, x2) post := by
  have h20 : s1 0 20 = nI (N 1) := by rw [hF.2 20 (by decide)]; exact hG.2.2.2.1.2.2.2.2.2.1
  have eb : kBe s1 kd d (N 1) = kBe s kd d (N 1) := kBe_to (hF.1 18 (by decide) (by decide) (by decide) (by decide)) (hF.1 19 (by decide) (by decide) (by decide) (by decide)) kd d (N 1)
  simp only [vc_X12_rightOn, mq_tag, mq_len, mq_i, mq_r, mq_l, mq_nx, mq_wi, mq_wr, mq_wl, true_and, and_true, and_false, false_and, and_self, ↓reduceIte, kT_24, kT_25, kT_26, kT_27, kT_28, kT_29, kT_30, kT_31, kT_32, kT_33, kT_34, kT_35, kT_36, kT_37, kT_38, kT_39, kT_40, kT_41, kT_42, kT_43, kT_44, kT_45, kT_46, kT_47, kT_48, kT_49, kT_50, kT_51, kT_52, kT_53, kT_54, kT_55, kT_56, kT_57, kT_58, kT_59, kT_60, kT_61, kL_25, kL_26, kL_27, kL_28, kL_29, kL_30, kL_31, kL_32, kL_33, kL_34, kL_35, kL_36, kL_37, kL_38, kL_39, kL_40, kL_41, kL_42, kL_43, kL_44, kL_45, kL_46, kL_47, kL_48, kL_49, kL_50, kL_51, kL_52, kL_53, kL_54, kL_55, kL_56, kL_57, kL_58, kL_59, kL_60, kL_61, kW_24_1, kW_24_2, kW_24_3, kW_24_4, kW_24_5, kW_24_6, kW_24_7, kW_24_8, kW_24_9, kW_24_10, kW_24_11, kW_24_12, kW_24_14, kW_24_15, kW_24_16, kW_24_17, kW_24_18, kW_24_19, kW_24_21, kW_24_22, kW_24_23, kW_24_25, kW_24_26, kW_24_27, kW_24_28, kW_24_29, kW_24_31, kW_24_32, kW_24_33, kW_24_34, kW_24_36, kW_24_37, kW_24_44, kW_24_49, kW_24_50, kW_24_51, kW_24_52, kI_24, kI_w24, kI_25, kI_w25, kI_26, kI_w26, kI_27, kI_w27, kI_28, kI_w28, kI_29, kI_w29, kI_30, kI_w30, kI_31, kI_w31, kI_32, kI_w32, kI_33, kI_w33, kI_34, kI_w34, kI_35, kI_w35, kI_36, kI_w36, kI_37, kI_w37, kI_38, kI_w38, kI_39, kI_w39, kI_40, kI_w40, kI_41, kI_w41, kI_42, kI_w42, kI_43, kI_w43, kI_44, kI_w44, kI_45, kI_w45, kI_46, kI_w46, kI_47, kI_w47, kI_48, kI_w48, kI_49, kI_w49, kI_50, kI_w50, kI_51, kI_w51, kI_52, kI_w52, kI_53, kI_w53, kI_54, kI_w54, kI_55, kI_w55, kI_56, kI_w56, kI_57, kI_w57, kI_58, kI_w58, kI_59, kI_w59, kI_60, kI_w60, kI_61, kI_w61, m_on h20 hG.1.na12, eb]
  cases hb : kBe s kd d (N 1) with
  | none =>
    simp only [kFn, show ((0 : Int32) ≤ -1) = False from eq_false (by decide), ↓reduceIte]
    have := hp s1 hF
    simp only [kRi, hb] at this; exact this
  | some a =>
    have ha := (kBe_some hb).1
    have na12 := hG.1.na12
    simp only [kFn, ix_nn (show a < 2147483648 by omega), ↓reduceIte]
    refine m_holds hG hF ha hh hd (tu_no (by decide)) fun s' h1 h2 => ?_
    have := hp s' h1
    simp only [kRi, hb] at this
    rcases Bool.eq_false_or_eq_true (kTx s a h d kNo1).1 with z | z <;> simp only [z, Bool.false_eq_true, ↓reduceIte] at this ⊢ <;> exact this
theorem c_hasRight (hG : kG B A AA AT AN N c s t l i r u x) {h : Nat} (hh : h < N 0) {kd d : Int32} (hd : 0 ≤ d ∧ d ≤ 73000) {post : Bool → mj_M → Prop}
    (hp : ∀ c' g', (∀ j, j ≠ 7 → c' j = c j) → post (kHr s (N 1) h kd d) (kT B t, kL B l, kI B i c' s1, kW B r u, kI B q g' w, x)) :
    vc_X11_hasRight B (A h) kd d (kT B t, kL B l, kI B i c s1, kW B r u, kI B q g w, x) post := by
  simp only [vc_X11_hasRight, mq_tag, mq_len, mq_i, mq_r, mq_l, mq_nx, mq_wi, mq_wr, mq_wl, true_and, and_true, and_false, false_and, and_self, ↓reduceIte, kT_0, kT_1, kT_2, kT_3, kT_4, kT_5, kT_6, kT_7, kT_8, kT_9, kT_10, kT_11, kT_12, kT_13, kT_14, kT_15, kT_16, kT_17, kT_18, kT_19, kT_20, kT_21, kT_22, kT_23, kL_2, kL_3, kL_5, kL_10, kL_11, kL_12, kL_14, kL_15, kL_17, kL_18, kL_19, kL_20, kL_21, kL_22, kL_23, kW_0_0, kW_0_1, kW_0_2, kW_0_3, kW_0_4, kW_0_5, kW_0_6, kW_0_7, kW_1_4, kW_1_5, kW_4_0, kW_4_1, kW_9_0, kW_9_1, kW_9_2, kW_13_0, kW_13_1, kW_16_0, kW_16_1, kW_16_2, kW_16_3, kW_16_4, kW_16_5, kW_1_1, kW_1_2, kW_4_4, kW_8_0, kW_8_1, kW_w1_1, kW_w1_2, kW_w4_4, kW_w8_0, kW_w8_1, kI_0, kI_w0, kI_1, kI_w1, kI_2, kI_w2, kI_3, kI_w3, kI_4, kI_w4, kI_5, kI_w5, kI_6, kI_w6, kI_7, kI_w7, kI_8, kI_w8, kI_9, kI_w9, kI_10, kI_w10, kI_11, kI_w11, kI_12, kI_w12, kI_13, kI_w13, kI_14, kI_w14, kI_15, kI_w15, kI_16, kI_w16, kI_17, kI_w17, kI_18, kI_w18, kI_19, kI_w19, kI_20, kI_w20, kI_21, kI_w21, kI_22, kI_w22, kI_23, kI_w23, c_force hG.1 hG.2.1]
  cases hb : kBe s kd d (N 1) with
  | none =>
    simp only [kFp, ↓reduceIte]
    have := hp c g (fun _ _ => rfl)
    simp only [kHr, hb] at this; exact this
  | some a =>
    have ha := (kBe_some hb).1
    have A0 : (AA a = 0) = False := hG.1.A0 ha
    simp only [kFp, A0, ↓reduceIte, mq_tag, mq_len, mq_i, mq_r, mq_l, mq_nx, mq_wi, mq_wr, mq_wl, true_and, and_true, and_false, false_and, and_self, ↓reduceIte, kT_0, kT_1, kT_2, kT_3, kT_4, kT_5, kT_6, kT_7, kT_8, kT_9, kT_10, kT_11, kT_12, kT_13, kT_14, kT_15, kT_16, kT_17, kT_18, kT_19, kT_20, kT_21, kT_22, kT_23, kL_2, kL_3, kL_5, kL_10, kL_11, kL_12, kL_14, kL_15, kL_17, kL_18, kL_19, kL_20, kL_21, kL_22, kL_23, kW_0_0, kW_0_1, kW_0_2, kW_0_3, kW_0_4, kW_0_5, kW_0_6, kW_0_7, kW_1_4, kW_1_5, kW_4_0, kW_4_1, kW_9_0, kW_9_1, kW_9_2, kW_13_0, kW_13_1, kW_16_0, kW_16_1, kW_16_2, kW_16_3, kW_16_4, kW_16_5, kW_1_1, kW_1_2, kW_4_4, kW_8_0, kW_8_1, kW_w1_1, kW_w1_2, kW_w4_4, kW_w8_0, kW_w8_1, kI_0, kI_w0, kI_1, kI_w1, kI_2, kI_w2, kI_3, kI_w3, kI_4, kI_w4, kI_5, kI_w5, kI_6, kI_w6, kI_7, kI_w7, kI_8, kI_w8, kI_9, kI_w9, kI_10, kI_w10, kI_11, kI_w11, kI_12, kI_w12, kI_13, kI_w13, kI_14, kI_w14, kI_15, kI_w15, kI_16, kI_w16, kI_17, kI_w17, kI_18, kI_w18, kI_19, kI_w19, kI_20, kI_w20, kI_21, kI_w21, kI_22, kI_w22, kI_23, kI_w23, hG.1.atT hh, c_inforce hG.1 hh]
    rcases Bool.eq_false_or_eq_true (kon s h d) with hon | hon
    · simp only [hon, ↓reduceIte, hG.1.atAT ha, hG.1.atAW ha, mq_tag, mq_len, mq_i, mq_r, mq_l, mq_nx, mq_wi, mq_wr, mq_wl, true_and, and_true, and_false, false_and, and_self, ↓reduceIte, kT_0, kT_1, kT_2, kT_3, kT_4, kT_5, kT_6, kT_7, kT_8, kT_9, kT_10, kT_11, kT_12, kT_13, kT_14, kT_15, kT_16, kT_17, kT_18, kT_19, kT_20, kT_21, kT_22, kT_23, kL_2, kL_3, kL_5, kL_10, kL_11, kL_12, kL_14, kL_15, kL_17, kL_18, kL_19, kL_20, kL_21, kL_22, kL_23, kW_0_0, kW_0_1, kW_0_2, kW_0_3, kW_0_4, kW_0_5, kW_0_6, kW_0_7, kW_1_4, kW_1_5, kW_4_0, kW_4_1, kW_9_0, kW_9_1, kW_9_2, kW_13_0, kW_13_1, kW_16_0, kW_16_1, kW_16_2, kW_16_3, kW_16_4, kW_16_5, kW_1_1, kW_1_2, kW_4_4, kW_8_0, kW_8_1, kW_w1_1, kW_w1_2, kW_w4_4, kW_w8_0, kW_w8_1, kI_0, kI_w0, kI_1, kI_w1, kI_2, kI_w2, kI_3, kI_w3, kI_4, kI_w4, kI_5, kI_w5, kI_6, kI_w6, kI_7, kI_w7, kI_8, kI_w8, kI_9, kI_w9, kI_10, kI_w10, kI_11, kI_w11, kI_12, kI_w12, kI_13, kI_w13, kI_14, kI_w14, kI_15, kI_w15, kI_16, kI_w16, kI_17, kI_w17, kI_18, kI_w18, kI_19, kI_w19, kI_20, kI_w20, kI_21, kI_w21, kI_22, kI_w22, kI_23, kI_w23]
      refine c_isSo hG ha hh hd (tu_no (by decide)) fun c' g' h1 h2 => ?_
      have := hp c' g' h1
      simp only [kHr, hb, hon, Bool.true_and] at this
      rcases Bool.eq_false_or_eq_true (kTx s a h d kNo1).1 with z | z <;> simp only [z, Bool.false_eq_true, ↓reduceIte] at this ⊢ <;> exact this
    · simp only [hon, Bool.false_eq_true, ↓reduceIte]
      have := hp c g (fun _ _ => rfl)
      simp only [kHr, hb, hon, Bool.false_and] at this; exact this
theorem kG.rf (hG : kG B A AA AT AN N c s t l i r u x) {c' s' : Nat → Nat → Int32} (hc : ∀ j, j ≠ 7 → c' j = c j) (hs : rF s s') : kG B A AA AT AN N c' s' t l i r u x := hG.scr (fun j _ j7 _ => hc j j7) (fun j a b c d _ => hs.1 j a b c d) (fun j a _ => hs.2 j a)
end
section
variable {B : Nat} {M : mj_M} {K : Int32 → Int32 → mj_M → Prop}
theorem T_right (h : kJ B M) (a b : Int32) (hK : ∀ v M', kJ B M' → K v v M') : vc_X11_right B a b M (fun v M1 => mj_tag M1 (B + 24) = 13 ∧ vc_X12_right (B + 24) a b M1 (fun v' M2 => K v v' M2)) := by
  obtain ⟨A, AA, AT, AN, N, t, l, u, i, c, s, r, q, g, w, x, rfl, hG⟩ := h
  obtain ⟨g1, g2, g3, g4, g5, g6, g7, g8, g9, g10⟩ := id hG
  have h40 := hG.n40
  by_cases hv : 0 ≤ a ∧ a < nI (N 0)
  · obtain ⟨k, hk, rfl⟩ := ix_ofl (by omega) hv.1 hv.2
    have A0 : (A k = 0) = False := g1.H0 hk
    by_cases hb : 0 ≤ b ∧ b ≤ 3
    · rcases Bool.eq_false_or_eq_true (kon s k (s 0 0)) with hon | hon
      · simp only [vc_X11_right, vb_X11_right_46, vc_X11_refusalOfRight, mq_tag, mq_len, mq_i, mq_r, mq_l, mq_nx, mq_wi, mq_wr, mq_wl, true_and, and_true, and_false, false_and, and_self, ↓reduceIte, kT_0, kT_1, kT_2, kT_3, kT_4, kT_5, kT_6, kT_7, kT_8, kT_9, kT_10, kT_11, kT_12, kT_13, kT_14, kT_15, kT_16, kT_17, kT_18, kT_19, kT_20, kT_21, kT_22, kT_23, kL_2, kL_3, kL_5, kL_10, kL_11, kL_12, kL_14, kL_15, kL_17, kL_18, kL_19, kL_20, kL_21, kL_22, kL_23, kW_0_0, kW_0_1, kW_0_2, kW_0_3, kW_0_4, kW_0_5, kW_0_6, kW_0_7, kW_1_4, kW_1_5, kW_4_0, kW_4_1, kW_9_0, kW_9_1, kW_9_2, kW_13_0, kW_13_1, kW_16_0, kW_16_1, kW_16_2, kW_16_3, kW_16_4, kW_16_5, kW_1_1, kW_1_2, kW_4_4, kW_8_0, kW_8_1, kW_w1_1, kW_w1_2, kW_w4_4, kW_w8_0, kW_w8_1, kI_0, kI_w0, kI_1, kI_w1, kI_2, kI_w2, kI_3, kI_w3, kI_4, kI_w4, kI_5, kI_w5, kI_6, kI_w6, kI_7, kI_w7, kI_8, kI_w8, kI_9, kI_w9, kI_10, kI_w10, kI_11, kI_w11, kI_12, kI_w12, kI_13, kI_w13, kI_14, kI_w14, kI_15, kI_w15, kI_16, kI_w16, kI_17, kI_w17, kI_18, kI_w18, kI_19, kI_w19, kI_20, kI_w20, kI_21, kI_w21, kI_22, kI_w22, kI_23, kI_w23, c_find g1 g2 hk, c_force g1 g2, hG.hd, A0, c_on g1 hk, hon, c_isKind, hb, decide_true]
        cases hbe : kBe s b (s 0 0) (N 1) with
        | none =>
          simp only [kFp, ↓reduceIte]
          refine ⟨kT_24, ?_⟩
          simp only [vc_X12_right, mq_tag, mq_len, mq_i, mq_r, mq_l, mq_nx, mq_wi, mq_wr, mq_wl, true_and, and_true, and_false, false_and, and_self, ↓reduceIte, kT_24, kT_25, kT_26, kT_27, kT_28, kT_29, kT_30, kT_31, kT_32, kT_33, kT_34, kT_35, kT_36, kT_37, kT_38, kT_39, kT_40, kT_41, kT_42, kT_43, kT_44, kT_45, kT_46, kT_47, kT_48, kT_49, kT_50, kT_51, kT_52, kT_53, kT_54, kT_55, kT_56, kT_57, kT_58, kT_59, kT_60, kT_61, kL_25, kL_26, kL_27, kL_28, kL_29, kL_30, kL_31, kL_32, kL_33, kL_34, kL_35, kL_36, kL_37, kL_38, kL_39, kL_40, kL_41, kL_42, kL_43, kL_44, kL_45, kL_46, kL_47, kL_48, kL_49, kL_50, kL_51, kL_52, kL_53, kL_54, kL_55, kL_56, kL_57, kL_58, kL_59, kL_60, kL_61, kW_24_1, kW_24_2, kW_24_3, kW_24_4, kW_24_5, kW_24_6, kW_24_7, kW_24_8, kW_24_9, kW_24_10, kW_24_11, kW_24_12, kW_24_14, kW_24_15, kW_24_16, kW_24_17, kW_24_18, kW_24_19, kW_24_21, kW_24_22, kW_24_23, kW_24_25, kW_24_26, kW_24_27, kW_24_28, kW_24_29, kW_24_31, kW_24_32, kW_24_33, kW_24_34, kW_24_36, kW_24_37, kW_24_44, kW_24_49, kW_24_50, kW_24_51, kW_24_52, kI_24, kI_w24, kI_25, kI_w25, kI_26, kI_w26, kI_27, kI_w27, kI_28, kI_w28, kI_29, kI_w29, kI_30, kI_w30, kI_31, kI_w31, kI_32, kI_w32, kI_33, kI_w33, kI_34, kI_w34, kI_35, kI_w35, kI_36, kI_w36, kI_37, kI_w37, kI_38, kI_w38, kI_39, kI_w39, kI_40, kI_w40, kI_41, kI_w41, kI_42, kI_w42, kI_43, kI_w43, kI_44, kI_w44, kI_45, kI_w45, kI_46, kI_w46, kI_47, kI_w47, kI_48, kI_w48, kI_49, kI_w49, kI_50, kI_w50, kI_51, kI_w51, kI_52, kI_w52, kI_53, kI_w53, kI_54, kI_w54, kI_55, kI_w55, kI_56, kI_w56, kI_57, kI_w57, kI_58, kI_w58, kI_59, kI_w59, kI_60, kI_w60, kI_61, kI_w61, m_isHolding hG.hn h40, hv, m_isKind, hb, m_isOn (show k < 40 by omega) (hG.hw k hk), hon, decide_true]
          refine m_right hG (rF.refl s) hk g8.1 fun s' h1 => ?_
          simp only [kRi, hbe]
          exact hK _ _ (kJ.mk (hG.rf (fun _ _ => rfl) h1))
        | some a =>
          have ha := (kBe_some hbe).1
          simp only [kFp, g1.A0 ha, ↓reduceIte, g1.atAT ha, g1.atAW ha, mq_tag, mq_len, mq_i, mq_r, mq_l, mq_nx, mq_wi, mq_wr, mq_wl, true_and, and_true, and_false, false_and, and_self, ↓reduceIte, kT_0, kT_1, kT_2, kT_3, kT_4, kT_5, kT_6, kT_7, kT_8, kT_9, kT_10, kT_11, kT_12, kT_13, kT_14, kT_15, kT_16, kT_17, kT_18, kT_19, kT_20, kT_21, kT_22, kT_23, kL_2, kL_3, kL_5, kL_10, kL_11, kL_12, kL_14, kL_15, kL_17, kL_18, kL_19, kL_20, kL_21, kL_22, kL_23, kW_0_0, kW_0_1, kW_0_2, kW_0_3, kW_0_4, kW_0_5, kW_0_6, kW_0_7, kW_1_4, kW_1_5, kW_4_0, kW_4_1, kW_9_0, kW_9_1, kW_9_2, kW_13_0, kW_13_1, kW_16_0, kW_16_1, kW_16_2, kW_16_3, kW_16_4, kW_16_5, kW_1_1, kW_1_2, kW_4_4, kW_8_0, kW_8_1, kW_w1_1, kW_w1_2, kW_w4_4, kW_w8_0, kW_w8_1, kI_0, kI_w0, kI_1, kI_w1, kI_2, kI_w2, kI_3, kI_w3, kI_4, kI_w4, kI_5, kI_w5, kI_6, kI_w6, kI_7, kI_w7, kI_8, kI_w8, kI_9, kI_w9, kI_10, kI_w10, kI_11, kI_w11, kI_12, kI_w12, kI_13, kI_w13, kI_14, kI_w14, kI_15, kI_w15, kI_16, kI_w16, kI_17, kI_w17, kI_18, kI_w18, kI_19, kI_w19, kI_20, kI_w20, kI_21, kI_w21, kI_22, kI_w22, kI_23, kI_w23, hG.hd]
          refine c_isSo hG ha hk g8.1 (tu_no (by decide)) fun c' g' h1 h2 => ?_
          rcases Bool.eq_false_or_eq_true (kTx s a k (s 0 0) kNo1).1 with z | z
          · simp only [z, ↓reduceIte]
            refine ⟨kT_24, ?_⟩
            simp only [vc_X12_right, mq_tag, mq_len, mq_i, mq_r, mq_l, mq_nx, mq_wi, mq_wr, mq_wl, true_and, and_true, and_false, false_and, and_self, ↓reduceIte, kT_24, kT_25, kT_26, kT_27, kT_28, kT_29, kT_30, kT_31, kT_32, kT_33, kT_34, kT_35, kT_36, kT_37, kT_38, kT_39, kT_40, kT_41, kT_42, kT_43, kT_44, kT_45, kT_46, kT_47, kT_48, kT_49, kT_50, kT_51, kT_52, kT_53, kT_54, kT_55, kT_56, kT_57, kT_58, kT_59, kT_60, kT_61, kL_25, kL_26, kL_27, kL_28, kL_29, kL_30, kL_31, kL_32, kL_33, kL_34, kL_35, kL_36, kL_37, kL_38, kL_39, kL_40, kL_41, kL_42, kL_43, kL_44, kL_45, kL_46, kL_47, kL_48, kL_49, kL_50, kL_51, kL_52, kL_53, kL_54, kL_55, kL_56, kL_57, kL_58, kL_59, kL_60, kL_61, kW_24_1, kW_24_2, kW_24_3, kW_24_4, kW_24_5, kW_24_6, kW_24_7, kW_24_8, kW_24_9, kW_24_10, kW_24_11, kW_24_12, kW_24_14, kW_24_15, kW_24_16, kW_24_17, kW_24_18, kW_24_19, kW_24_21, kW_24_22, kW_24_23, kW_24_25, kW_24_26, kW_24_27, kW_24_28, kW_24_29, kW_24_31, kW_24_32, kW_24_33, kW_24_34, kW_24_36, kW_24_37, kW_24_44, kW_24_49, kW_24_50, kW_24_51, kW_24_52, kI_24, kI_w24, kI_25, kI_w25, kI_26, kI_w26, kI_27, kI_w27, kI_28, kI_w28, kI_29, kI_w29, kI_30, kI_w30, kI_31, kI_w31, kI_32, kI_w32, kI_33, kI_w33, kI_34, kI_w34, kI_35, kI_w35, kI_36, kI_w36, kI_37, kI_w37, kI_38, kI_w38, kI_39, kI_w39, kI_40, kI_w40, kI_41, kI_w41, kI_42, kI_w42, kI_43, kI_w43, kI_44, kI_w44, kI_45, kI_w45, kI_46, kI_w46, kI_47, kI_w47, kI_48, kI_w48, kI_49, kI_w49, kI_50, kI_w50, kI_51, kI_w51, kI_52, kI_w52, kI_53, kI_w53, kI_54, kI_w54, kI_55, kI_w55, kI_56, kI_w56, kI_57, kI_w57, kI_58, kI_w58, kI_59, kI_w59, kI_60, kI_w60, kI_61, kI_w61, m_isHolding hG.hn h40, hv, m_isKind, hb, m_isOn (show k < 40 by omega) (hG.hw k hk), hon, decide_true]
            refine m_right hG (rF.refl s) hk g8.1 fun s' h3 => ?_
            simp only [kRi, hbe, z, ↓reduceIte]
            exact hK _ _ (kJ.mk (hG.rf h1 h3))
          · simp only [z, Bool.false_eq_true, ↓reduceIte]
            refine ⟨kT_24, ?_⟩
            simp only [vc_X12_right, mq_tag, mq_len, mq_i, mq_r, mq_l, mq_nx, mq_wi, mq_wr, mq_wl, true_and, and_true, and_false, false_and, and_self, ↓reduceIte, kT_24, kT_25, kT_26, kT_27, kT_28, kT_29, kT_30, kT_31, kT_32, kT_33, kT_34, kT_35, kT_36, kT_37, kT_38, kT_39, kT_40, kT_41, kT_42, kT_43, kT_44, kT_45, kT_46, kT_47, kT_48, kT_49, kT_50, kT_51, kT_52, kT_53, kT_54, kT_55, kT_56, kT_57, kT_58, kT_59, kT_60, kT_61, kL_25, kL_26, kL_27, kL_28, kL_29, kL_30, kL_31, kL_32, kL_33, kL_34, kL_35, kL_36, kL_37, kL_38, kL_39, kL_40, kL_41, kL_42, kL_43, kL_44, kL_45, kL_46, kL_47, kL_48, kL_49, kL_50, kL_51, kL_52, kL_53, kL_54, kL_55, kL_56, kL_57, kL_58, kL_59, kL_60, kL_61, kW_24_1, kW_24_2, kW_24_3, kW_24_4, kW_24_5, kW_24_6, kW_24_7, kW_24_8, kW_24_9, kW_24_10, kW_24_11, kW_24_12, kW_24_14, kW_24_15, kW_24_16, kW_24_17, kW_24_18, kW_24_19, kW_24_21, kW_24_22, kW_24_23, kW_24_25, kW_24_26, kW_24_27, kW_24_28, kW_24_29, kW_24_31, kW_24_32, kW_24_33, kW_24_34, kW_24_36, kW_24_37, kW_24_44, kW_24_49, kW_24_50, kW_24_51, kW_24_52, kI_24, kI_w24, kI_25, kI_w25, kI_26, kI_w26, kI_27, kI_w27, kI_28, kI_w28, kI_29, kI_w29, kI_30, kI_w30, kI_31, kI_w31, kI_32, kI_w32, kI_33, kI_w33, kI_34, kI_w34, kI_35, kI_w35, kI_36, kI_w36, kI_37, kI_w37, kI_38, kI_w38, kI_39, kI_w39, kI_40, kI_w40, kI_41, kI_w41, kI_42, kI_w42, kI_43, kI_w43, kI_44, kI_w44, kI_45, kI_w45, kI_46, kI_w46, kI_47, kI_w47, kI_48, kI_w48, kI_49, kI_w49, kI_50, kI_w50, kI_51, kI_w51, kI_52, kI_w52, kI_53, kI_w53, kI_54, kI_w54, kI_55, kI_w55, kI_56, kI_w56, kI_57, kI_w57, kI_58, kI_w58, kI_59, kI_w59, kI_60, kI_w60, kI_61, kI_w61, m_isHolding hG.hn h40, hv, m_isKind, hb, m_isOn (show k < 40 by omega) (hG.hw k hk), hon, decide_true]
            refine m_right hG (rF.refl s) hk g8.1 fun s' h3 => ?_
            simp only [kRi, hbe, z, Bool.false_eq_true, ↓reduceIte]
            exact hK _ _ (kJ.mk (hG.rf h1 h3))
      · have key : ∀ post : Int32 → mj_M → Prop, post (-3) (kT B t, kL B l, kI B i c s, kW B r u, kI B q g w, x) → vc_X11_right B (nI k) b (kT B t, kL B l, kI B i c s, kW B r u, kI B q g w, x) post := by
          intro post hp
          simp only [vc_X11_right, vb_X11_right_46, vc_X11_refusalOfRight, mq_tag, mq_len, mq_i, mq_r, mq_l, mq_nx, mq_wi, mq_wr, mq_wl, true_and, and_true, and_false, false_and, and_self, ↓reduceIte, kT_0, kT_1, kT_2, kT_3, kT_4, kT_5, kT_6, kT_7, kT_8, kT_9, kT_10, kT_11, kT_12, kT_13, kT_14, kT_15, kT_16, kT_17, kT_18, kT_19, kT_20, kT_21, kT_22, kT_23, kL_2, kL_3, kL_5, kL_10, kL_11, kL_12, kL_14, kL_15, kL_17, kL_18, kL_19, kL_20, kL_21, kL_22, kL_23, kW_0_0, kW_0_1, kW_0_2, kW_0_3, kW_0_4, kW_0_5, kW_0_6, kW_0_7, kW_1_4, kW_1_5, kW_4_0, kW_4_1, kW_9_0, kW_9_1, kW_9_2, kW_13_0, kW_13_1, kW_16_0, kW_16_1, kW_16_2, kW_16_3, kW_16_4, kW_16_5, kW_1_1, kW_1_2, kW_4_4, kW_8_0, kW_8_1, kW_w1_1, kW_w1_2, kW_w4_4, kW_w8_0, kW_w8_1, kI_0, kI_w0, kI_1, kI_w1, kI_2, kI_w2, kI_3, kI_w3, kI_4, kI_w4, kI_5, kI_w5, kI_6, kI_w6, kI_7, kI_w7, kI_8, kI_w8, kI_9, kI_w9, kI_10, kI_w10, kI_11, kI_w11, kI_12, kI_w12, kI_13, kI_w13, kI_14, kI_w14, kI_15, kI_w15, kI_16, kI_w16, kI_17, kI_w17, kI_18, kI_w18, kI_19, kI_w19, kI_20, kI_w20, kI_21, kI_w21, kI_22, kI_w22, kI_23, kI_w23, c_find g1 g2 hk, c_force g1 g2, hG.hd, A0, c_on g1 hk, hon, c_isKind, hb, decide_true, Bool.false_eq_true]
          split <;> exact hp
        refine key _ ⟨kT_24, ?_⟩
        simp only [vc_X12_right, mq_tag, mq_len, mq_i, mq_r, mq_l, mq_nx, mq_wi, mq_wr, mq_wl, true_and, and_true, and_false, false_and, and_self, ↓reduceIte, kT_24, kT_25, kT_26, kT_27, kT_28, kT_29, kT_30, kT_31, kT_32, kT_33, kT_34, kT_35, kT_36, kT_37, kT_38, kT_39, kT_40, kT_41, kT_42, kT_43, kT_44, kT_45, kT_46, kT_47, kT_48, kT_49, kT_50, kT_51, kT_52, kT_53, kT_54, kT_55, kT_56, kT_57, kT_58, kT_59, kT_60, kT_61, kL_25, kL_26, kL_27, kL_28, kL_29, kL_30, kL_31, kL_32, kL_33, kL_34, kL_35, kL_36, kL_37, kL_38, kL_39, kL_40, kL_41, kL_42, kL_43, kL_44, kL_45, kL_46, kL_47, kL_48, kL_49, kL_50, kL_51, kL_52, kL_53, kL_54, kL_55, kL_56, kL_57, kL_58, kL_59, kL_60, kL_61, kW_24_1, kW_24_2, kW_24_3, kW_24_4, kW_24_5, kW_24_6, kW_24_7, kW_24_8, kW_24_9, kW_24_10, kW_24_11, kW_24_12, kW_24_14, kW_24_15, kW_24_16, kW_24_17, kW_24_18, kW_24_19, kW_24_21, kW_24_22, kW_24_23, kW_24_25, kW_24_26, kW_24_27, kW_24_28, kW_24_29, kW_24_31, kW_24_32, kW_24_33, kW_24_34, kW_24_36, kW_24_37, kW_24_44, kW_24_49, kW_24_50, kW_24_51, kW_24_52, kI_24, kI_w24, kI_25, kI_w25, kI_26, kI_w26, kI_27, kI_w27, kI_28, kI_w28, kI_29, kI_w29, kI_30, kI_w30, kI_31, kI_w31, kI_32, kI_w32, kI_33, kI_w33, kI_34, kI_w34, kI_35, kI_w35, kI_36, kI_w36, kI_37, kI_w37, kI_38, kI_w38, kI_39, kI_w39, kI_40, kI_w40, kI_41, kI_w41, kI_42, kI_w42, kI_43, kI_w43, kI_44, kI_w44, kI_45, kI_w45, kI_46, kI_w46, kI_47, kI_w47, kI_48, kI_w48, kI_49, kI_w49, kI_50, kI_w50, kI_51, kI_w51, kI_52, kI_w52, kI_53, kI_w53, kI_54, kI_w54, kI_55, kI_w55, kI_56, kI_w56, kI_57, kI_w57, kI_58, kI_w58, kI_59, kI_w59, kI_60, kI_w60, kI_61, kI_w61, m_isHolding hG.hn h40, hv, m_isKind, hb, m_isOn (show k < 40 by omega) (hG.hw k hk), hon, decide_true, Bool.false_eq_true]
        exact hK _ _ (kJ.mk hG)
    · have hbe : kBe s b (s 0 0) (N 1) = none := by
        cases z : kBe s b (s 0 0) (N 1) with
        | none => rfl
        | some a =>
          obtain ⟨z1, z2⟩ := kBe_some z
          have := (g9 a z1).1
          rw [z2] at this; exact absurd this hb
      simp only [vc_X11_right, vb_X11_right_46, vc_X11_refusalOfRight, mq_tag, mq_len, mq_i, mq_r, mq_l, mq_nx, mq_wi, mq_wr, mq_wl, true_and, and_true, and_false, false_and, and_self, ↓reduceIte, kT_0, kT_1, kT_2, kT_3, kT_4, kT_5, kT_6, kT_7, kT_8, kT_9, kT_10, kT_11, kT_12, kT_13, kT_14, kT_15, kT_16, kT_17, kT_18, kT_19, kT_20, kT_21, kT_22, kT_23, kL_2, kL_3, kL_5, kL_10, kL_11, kL_12, kL_14, kL_15, kL_17, kL_18, kL_19, kL_20, kL_21, kL_22, kL_23, kW_0_0, kW_0_1, kW_0_2, kW_0_3, kW_0_4, kW_0_5, kW_0_6, kW_0_7, kW_1_4, kW_1_5, kW_4_0, kW_4_1, kW_9_0, kW_9_1, kW_9_2, kW_13_0, kW_13_1, kW_16_0, kW_16_1, kW_16_2, kW_16_3, kW_16_4, kW_16_5, kW_1_1, kW_1_2, kW_4_4, kW_8_0, kW_8_1, kW_w1_1, kW_w1_2, kW_w4_4, kW_w8_0, kW_w8_1, kI_0, kI_w0, kI_1, kI_w1, kI_2, kI_w2, kI_3, kI_w3, kI_4, kI_w4, kI_5, kI_w5, kI_6, kI_w6, kI_7, kI_w7, kI_8, kI_w8, kI_9, kI_w9, kI_10, kI_w10, kI_11, kI_w11, kI_12, kI_w12, kI_13, kI_w13, kI_14, kI_w14, kI_15, kI_w15, kI_16, kI_w16, kI_17, kI_w17, kI_18, kI_w18, kI_19, kI_w19, kI_20, kI_w20, kI_21, kI_w21, kI_22, kI_w22, kI_23, kI_w23, c_find g1 g2 hk, c_force g1 g2, hG.hd, A0, hbe, kFp, c_isKind, hb, true_or, or_true, false_or, or_false, not_true_eq_false, not_false_eq_true, true_and, and_true, false_and, and_false, and_self, decide_true, decide_false, ↓reduceIte, Bool.true_and, Bool.false_and, Bool.and_true, Bool.and_false, Bool.not_true, Bool.not_false, Bool.false_eq_true, Bool.true_or, Bool.or_true, Bool.false_or, Bool.or_false, reduceCtorEq, Bool.and_self, Bool.or_self, ne_eq]
      refine ⟨kT_24, ?_⟩
      simp only [vc_X12_right, mq_tag, mq_len, mq_i, mq_r, mq_l, mq_nx, mq_wi, mq_wr, mq_wl, true_and, and_true, and_false, false_and, and_self, ↓reduceIte, kT_24, kT_25, kT_26, kT_27, kT_28, kT_29, kT_30, kT_31, kT_32, kT_33, kT_34, kT_35, kT_36, kT_37, kT_38, kT_39, kT_40, kT_41, kT_42, kT_43, kT_44, kT_45, kT_46, kT_47, kT_48, kT_49, kT_50, kT_51, kT_52, kT_53, kT_54, kT_55, kT_56, kT_57, kT_58, kT_59, kT_60, kT_61, kL_25, kL_26, kL_27, kL_28, kL_29, kL_30, kL_31, kL_32, kL_33, kL_34, kL_35, kL_36, kL_37, kL_38, kL_39, kL_40, kL_41, kL_42, kL_43, kL_44, kL_45, kL_46, kL_47, kL_48, kL_49, kL_50, kL_51, kL_52, kL_53, kL_54, kL_55, kL_56, kL_57, kL_58, kL_59, kL_60, kL_61, kW_24_1, kW_24_2, kW_24_3, kW_24_4, kW_24_5, kW_24_6, kW_24_7, kW_24_8, kW_24_9, kW_24_10, kW_24_11, kW_24_12, kW_24_14, kW_24_15, kW_24_16, kW_24_17, kW_24_18, kW_24_19, kW_24_21, kW_24_22, kW_24_23, kW_24_25, kW_24_26, kW_24_27, kW_24_28, kW_24_29, kW_24_31, kW_24_32, kW_24_33, kW_24_34, kW_24_36, kW_24_37, kW_24_44, kW_24_49, kW_24_50, kW_24_51, kW_24_52, kI_24, kI_w24, kI_25, kI_w25, kI_26, kI_w26, kI_27, kI_w27, kI_28, kI_w28, kI_29, kI_w29, kI_30, kI_w30, kI_31, kI_w31, kI_32, kI_w32, kI_33, kI_w33, kI_34, kI_w34, kI_35, kI_w35, kI_36, kI_w36, kI_37, kI_w37, kI_38, kI_w38, kI_39, kI_w39, kI_40, kI_w40, kI_41, kI_w41, kI_42, kI_w42, kI_43, kI_w43, kI_44, kI_w44, kI_45, kI_w45, kI_46, kI_w46, kI_47, kI_w47, kI_48, kI_w48, kI_49, kI_w49, kI_50, kI_w50, kI_51, kI_w51, kI_52, kI_w52, kI_53, kI_w53, kI_54, kI_w54, kI_55, kI_w55, kI_56, kI_w56, kI_57, kI_w57, kI_58, kI_w58, kI_59, kI_w59, kI_60, kI_w60, kI_61, kI_w61, m_isHolding hG.hn h40, hv, m_isKind, hb, true_or, or_true, false_or, or_false, not_true_eq_false, not_false_eq_true, true_and, and_true, false_and, and_false, and_self, decide_true, decide_false, ↓reduceIte, Bool.true_and, Bool.false_and, Bool.and_true, Bool.and_false, Bool.not_true, Bool.not_false, Bool.false_eq_true, Bool.true_or, Bool.or_true, Bool.false_or, Bool.or_false, reduceCtorEq, Bool.and_self, Bool.or_self, ne_eq]
      exact hK _ _ (kJ.mk hG)
  · simp only [vc_X11_right, vb_X11_right_46, vc_X11_refusalOfRight, mq_tag, mq_len, mq_i, mq_r, mq_l, mq_nx, mq_wi, mq_wr, mq_wl, true_and, and_true, and_false, false_and, and_self, ↓reduceIte, kT_0, kT_1, kT_2, kT_3, kT_4, kT_5, kT_6, kT_7, kT_8, kT_9, kT_10, kT_11, kT_12, kT_13, kT_14, kT_15, kT_16, kT_17, kT_18, kT_19, kT_20, kT_21, kT_22, kT_23, kL_2, kL_3, kL_5, kL_10, kL_11, kL_12, kL_14, kL_15, kL_17, kL_18, kL_19, kL_20, kL_21, kL_22, kL_23, kW_0_0, kW_0_1, kW_0_2, kW_0_3, kW_0_4, kW_0_5, kW_0_6, kW_0_7, kW_1_4, kW_1_5, kW_4_0, kW_4_1, kW_9_0, kW_9_1, kW_9_2, kW_13_0, kW_13_1, kW_16_0, kW_16_1, kW_16_2, kW_16_3, kW_16_4, kW_16_5, kW_1_1, kW_1_2, kW_4_4, kW_8_0, kW_8_1, kW_w1_1, kW_w1_2, kW_w4_4, kW_w8_0, kW_w8_1, kI_0, kI_w0, kI_1, kI_w1, kI_2, kI_w2, kI_3, kI_w3, kI_4, kI_w4, kI_5, kI_w5, kI_6, kI_w6, kI_7, kI_w7, kI_8, kI_w8, kI_9, kI_w9, kI_10, kI_w10, kI_11, kI_w11, kI_12, kI_w12, kI_13, kI_w13, kI_14, kI_w14, kI_15, kI_w15, kI_16, kI_w16, kI_17, kI_w17, kI_18, kI_w18, kI_19, kI_w19, kI_20, kI_w20, kI_21, kI_w21, kI_22, kI_w22, kI_23, kI_w23, c_find_no g1 g2 hv, c_force g1 g2]
    refine ⟨kT_24, ?_⟩
    simp only [vc_X12_right, mq_tag, mq_len, mq_i, mq_r, mq_l, mq_nx, mq_wi, mq_wr, mq_wl, true_and, and_true, and_false, false_and, and_self, ↓reduceIte, kT_24, kT_25, kT_26, kT_27, kT_28, kT_29, kT_30, kT_31, kT_32, kT_33, kT_34, kT_35, kT_36, kT_37, kT_38, kT_39, kT_40, kT_41, kT_42, kT_43, kT_44, kT_45, kT_46, kT_47, kT_48, kT_49, kT_50, kT_51, kT_52, kT_53, kT_54, kT_55, kT_56, kT_57, kT_58, kT_59, kT_60, kT_61, kL_25, kL_26, kL_27, kL_28, kL_29, kL_30, kL_31, kL_32, kL_33, kL_34, kL_35, kL_36, kL_37, kL_38, kL_39, kL_40, kL_41, kL_42, kL_43, kL_44, kL_45, kL_46, kL_47, kL_48, kL_49, kL_50, kL_51, kL_52, kL_53, kL_54, kL_55, kL_56, kL_57, kL_58, kL_59, kL_60, kL_61, kW_24_1, kW_24_2, kW_24_3, kW_24_4, kW_24_5, kW_24_6, kW_24_7, kW_24_8, kW_24_9, kW_24_10, kW_24_11, kW_24_12, kW_24_14, kW_24_15, kW_24_16, kW_24_17, kW_24_18, kW_24_19, kW_24_21, kW_24_22, kW_24_23, kW_24_25, kW_24_26, kW_24_27, kW_24_28, kW_24_29, kW_24_31, kW_24_32, kW_24_33, kW_24_34, kW_24_36, kW_24_37, kW_24_44, kW_24_49, kW_24_50, kW_24_51, kW_24_52, kI_24, kI_w24, kI_25, kI_w25, kI_26, kI_w26, kI_27, kI_w27, kI_28, kI_w28, kI_29, kI_w29, kI_30, kI_w30, kI_31, kI_w31, kI_32, kI_w32, kI_33, kI_w33, kI_34, kI_w34, kI_35, kI_w35, kI_36, kI_w36, kI_37, kI_w37, kI_38, kI_w38, kI_39, kI_w39, kI_40, kI_w40, kI_41, kI_w41, kI_42, kI_w42, kI_43, kI_w43, kI_44, kI_w44, kI_45, kI_w45, kI_46, kI_w46, kI_47, kI_w47, kI_48, kI_w48, kI_49, kI_w49, kI_50, kI_w50, kI_51, kI_w51, kI_52, kI_w52, kI_53, kI_w53, kI_54, kI_w54, kI_55, kI_w55, kI_56, kI_w56, kI_57, kI_w57, kI_58, kI_w58, kI_59, kI_w59, kI_60, kI_w60, kI_61, kI_w61, m_isHolding hG.hn h40, hv, true_or, or_true, false_or, or_false, not_true_eq_false, not_false_eq_true, true_and, and_true, false_and, and_false, and_self, decide_true, decide_false, ↓reduceIte, Bool.true_and, Bool.false_and, Bool.and_true, Bool.and_false, Bool.not_true, Bool.not_false, Bool.false_eq_true, Bool.true_or, Bool.or_true, Bool.false_or, Bool.or_false, reduceCtorEq, Bool.and_self, Bool.or_self, ne_eq]
    exact hK _ _ (kJ.mk hG)
end

/-! STAGE B: whether a text is so, the class's way -/
def bt (v : Int64) (j : Nat) : Bool := v.toBitVec.getLsbD j
def bm (D : Nat) : Int64 := (1 : Int64) <<< ((nI D).toInt64 &&& 63)
theorem bm_tp : ∀ D : Fin 64, (bm D.val).toBitVec = BitVec.twoPow 64 D.val := by decide +kernel
theorem bm_tp' {D : Nat} (h : D < 64) : (bm D).toBitVec = BitVec.twoPow 64 D := bm_tp ⟨D, h⟩
theorem bt_an {v : Int64} {D j : Nat} (hD : D < 64) (hj : j < 64) : bt (v &&& (bm D ^^^ (-1))) j = (bt v j && !decide (D = j)) := by
  have ha : (-1 : Int64).toBitVec = BitVec.allOnes 64 := by decide
  unfold bt
  rw [Int64.toBitVec_and, Int64.toBitVec_xor, bm_tp' hD, ha, BitVec.getLsbD_and, BitVec.getLsbD_xor, BitVec.getLsbD_twoPow, BitVec.getLsbD_allOnes]
  simp [hj, hD]
theorem bt_or {v : Int64} {D j : Nat} (hD : D < 64) : bt (v ||| bm D) j = (bt v j || decide (D = j)) := by
  unfold bt
  rw [Int64.toBitVec_or, bm_tp' hD, BitVec.getLsbD_or, BitVec.getLsbD_twoPow]
  simp [hD]
theorem bt_xo {v : Int64} {D j : Nat} (hD : D < 64) : bt (v ^^^ bm D) j = (bt v j ^^ decide (D = j)) := by
  unfold bt
  rw [Int64.toBitVec_xor, bm_tp' hD, BitVec.getLsbD_xor, BitVec.getLsbD_twoPow]
  simp [hD]
theorem bt_am {v : Int64} {D j : Nat} (hD : D < 64) : bt (v &&& bm D) j = (bt v j && decide (D = j)) := by
  unfold bt
  rw [Int64.toBitVec_and, bm_tp' hD, BitVec.getLsbD_and, BitVec.getLsbD_twoPow]
  simp [hD]
theorem bt_o2 {a b : Int64} {j : Nat} : bt (a ||| b) j = (bt a j || bt b j) := by
  unfold bt
  rw [Int64.toBitVec_or, BitVec.getLsbD_or]
theorem bt_0 {v : Int64} {D : Nat} (hD : D < 64) : (v &&& bm D = 0) = (bt v D = false) := by
  apply propext
  rw [← Int64.toBitVec_inj, Int64.toBitVec_and, bm_tp' hD]
  constructor
  · intro h
    have t := congrArg (fun x => x.getLsbD D) h
    simp only [BitVec.getLsbD_and, BitVec.getLsbD_twoPow] at t
    unfold bt
    simpa [hD] using t
  · intro h
    apply BitVec.eq_of_getLsbD_eq
    intro i hi
    rw [BitVec.getLsbD_and, BitVec.getLsbD_twoPow]
    by_cases e : D = i
    · subst e; unfold bt at h; rw [h]; simp
    · simp [e]
theorem bsm : ∀ D : Fin 64, (((nI D.val).toInt64 &&& 63).toBitVec.smod 64).toNat = D.val := by decide +kernel
theorem bt_h {v : Int64} {D : Nat} (hD : D < 64) : ((v >>> ((nI D).toInt64 &&& 63)) &&& 1 = 1) = (bt v D = true) := by
  apply propext
  have e : (v >>> ((nI D).toInt64 &&& 63)).toBitVec.getLsbD 0 = bt v D := by
    show (v.toBitVec.sshiftRight (((nI D).toInt64 &&& 63).toBitVec.smod 64).toNat).getLsbD 0 = _
    rw [bsm ⟨D, hD⟩, BitVec.getLsbD_sshiftRight]
    simp [hD, bt]
  have h1 : (1 : Int64).toBitVec = BitVec.twoPow 64 0 := by decide
  rw [← Int64.toBitVec_inj, Int64.toBitVec_and, h1]
  constructor
  · intro h
    have t := congrArg (fun x => x.getLsbD 0) h
    simp only [BitVec.getLsbD_and, BitVec.getLsbD_twoPow] at t
    rw [e] at t
    simpa using t
  · intro h
    apply BitVec.eq_of_getLsbD_eq
    intro i hi
    rw [BitVec.getLsbD_and, BitVec.getLsbD_twoPow]
    by_cases z : 0 = i
    · subst z; rw [e, h]; simp
    · simp [z]
def ub (W : Nat → Bool) (D : Nat) (b : Bool) : Nat → Bool := fun j => if j = D then b else W j
def kCo (lf cp nm : Int32) : Bool := if cp = 60 then decide (lf < nm) else if cp = 62 then decide (nm < lf) else decide (lf = nm)
def kCs (ch : Int32) : Bool := decide (ch = 60 ∨ ch = 62 ∨ ch = 61)
/-- a text is walked, sign by sign -/
def ev (f : Nat → Int32) (fc : Int32 → Int32) (tu : Nat → Bool) : Nat → Nat → (Nat → Bool) → (Nat → Bool) → (Nat → Bool) → Nat → Nat → Int32 → Int32 → Int32 → Bool × Nat
  | 0, _, W, I, _, D, cnt, _, _, _ => (W D || I D, cnt)
  | m + 1, k, W, I, T, D, cnt, lf, cp, nm =>
    if mj_fact (f k) = true then ev f fc tu m (k + 1) W I T D cnt (fc (f k)) cp nm
    else if gDig (f k) = true then
      (if m = 0 ∨ gDig (f (k + 1)) = false then ev f fc tu m (k + 1) W (ub I D (I D && ((kCo lf cp (nm * 10 + f k - 48) != tu cnt) != T D))) (ub T D false) D (cnt + 1) lf cp (nm * 10 + f k - 48)
      else ev f fc tu m (k + 1) W I T D cnt lf cp (nm * 10 + f k - 48))
    else if kCs (f k) = true then ev f fc tu m (k + 1) W I T D cnt lf (f k) 0
    else if f k = 33 then ev f fc tu m (k + 1) W I (ub T D (!T D)) D cnt lf cp nm
    else if f k = 124 then ev f fc tu m (k + 1) (ub W D (W D || I D)) (ub I D true) T D cnt lf cp nm
    else if f k = 40 then ev f fc tu m (k + 1) (ub W (D + 1) false) (ub I (D + 1) true) (ub T (D + 1) false) (D + 1) cnt lf cp nm
    else if f k = 41 then ev f fc tu m (k + 1) W (ub I (D - 1) (I (D - 1) && ((W D || I D) != T (D - 1)))) (ub T (D - 1) false) (D - 1) cnt lf cp nm
    else ev f fc tu m (k + 1) W I T D cnt lf cp nm
def rC (c : Nat → Nat → Int32) (g : Nat → Nat → Int64) (W I T : Nat → Bool) (D cnt : Nat) (lf cp nm : Int32) : Prop :=
  (∀ j, j ≤ D → bt (g 7 0) j = W j ∧ bt (g 7 1) j = I j ∧ bt (g 7 2) j = T j) ∧ c 7 3 = nI D ∧ c 7 4 = nI cnt ∧ c 7 5 = lf ∧ c 7 6 = cp ∧ c 7 7 = nm
section
variable {B : Nat} {A AA AT AN N t l u : Nat → Nat} {i s s1 : Nat → Nat → Int32} {r : Nat → Nat → Nat} {q w : Nat → Nat → Int64} {x : Nat}
theorem c_comparing {v : Int32} {M : mj_M} {post : Bool → mj_M → Prop} : vc_X11_isComparing v M post = post (kCs v) M := by
  unfold vc_X11_isComparing kCs
  rcases Classical.propComplete (v = 60) with c1 | c1 <;> rcases Classical.propComplete (v = 62) with c2 | c2 <;> rcases Classical.propComplete (v = 61) with c3 | c3 <;> simp only [c1, c2, c3, true_or, or_true, false_or, or_false, not_true_eq_false, not_false_eq_true, true_and, and_true, false_and, and_false, and_self, decide_true, decide_false, ↓reduceIte, Bool.true_and, Bool.false_and, Bool.and_true, Bool.and_false, Bool.not_true, Bool.not_false, Bool.false_eq_true, Bool.true_or, Bool.or_true, Bool.false_or, Bool.or_false, reduceCtorEq, Bool.and_self, Bool.or_self, ne_eq]
theorem c_here {c : Nat → Nat → Int32} {g : Nat → Nat → Int64} {D : Nat} (hD : D < 64) (h3 : c 7 3 = nI D) {post : Bool → mj_M → Prop} : vc_X8_isSoHere (B + 7) (kT B t, kL B l, kI B i c s1, kW B r u, kI B q g w, x) post = post (bt (g 7 0) D || bt (g 7 1) D) (kT B t, kL B l, kI B i c s1, kW B r u, kI B q g w, x) := by
  simp only [vc_X8_isSoHere, mq_tag, mq_len, mq_i, mq_r, mq_l, mq_nx, mq_wi, mq_wr, mq_wl, true_and, and_true, and_false, false_and, and_self, ↓reduceIte, kT_0, kT_1, kT_2, kT_3, kT_4, kT_5, kT_6, kT_7, kT_8, kT_9, kT_10, kT_11, kT_12, kT_13, kT_14, kT_15, kT_16, kT_17, kT_18, kT_19, kT_20, kT_21, kT_22, kT_23, kL_2, kL_3, kL_5, kL_10, kL_11, kL_12, kL_14, kL_15, kL_17, kL_18, kL_19, kL_20, kL_21, kL_22, kL_23, kW_0_0, kW_0_1, kW_0_2, kW_0_3, kW_0_4, kW_0_5, kW_0_6, kW_0_7, kW_1_4, kW_1_5, kW_4_0, kW_4_1, kW_9_0, kW_9_1, kW_9_2, kW_13_0, kW_13_1, kW_16_0, kW_16_1, kW_16_2, kW_16_3, kW_16_4, kW_16_5, kW_1_1, kW_1_2, kW_4_4, kW_8_0, kW_8_1, kW_w1_1, kW_w1_2, kW_w4_4, kW_w8_0, kW_w8_1, kI_0, kI_w0, kI_1, kI_w1, kI_2, kI_w2, kI_3, kI_w3, kI_4, kI_w4, kI_5, kI_w5, kI_6, kI_w6, kI_7, kI_w7, kI_8, kI_w8, kI_9, kI_w9, kI_10, kI_w10, kI_11, kI_w11, kI_12, kI_w12, kI_13, kI_w13, kI_14, kI_w14, kI_15, kI_w15, kI_16, kI_w16, kI_17, kI_w17, kI_18, kI_w18, kI_19, kI_w19, kI_20, kI_w20, kI_21, kI_w21, kI_22, kI_w22, kI_23, kI_w23, h3, ix_cmp0, bt_h hD, bt_o2]
  rcases Bool.eq_false_or_eq_true (bt (g 7 0) D || bt (g 7 1) D) with z | z <;> simp only [z, true_or, or_true, false_or, or_false, not_true_eq_false, not_false_eq_true, true_and, and_true, false_and, and_false, and_self, decide_true, decide_false, ↓reduceIte, Bool.true_and, Bool.false_and, Bool.and_true, Bool.and_false, Bool.not_true, Bool.not_false, Bool.false_eq_true, Bool.true_or, Bool.or_true, Bool.false_or, Bool.or_false, reduceCtorEq, Bool.and_self, Bool.or_self, ne_eq]
theorem c_factor {c : Nat → Nat → Int32} {g : Nat → Nat → Int64} {D : Nat} (hD : D < 64) (h3 : c 7 3 = nI D) {b : Bool} {post : Unit → mj_M → Prop} : vc_X8_takeFactor (B + 7) b (kT B t, kL B l, kI B i c s1, kW B r u, kI B q g w, x) post = post () (kT B t, kL B l, kI B i c s1, kW B r u, kI B q (mj_u2 (if b = bt (g 7 2) D then mj_u2 g 7 1 (g 7 1 &&& (bm D ^^^ (-1))) else g) 7 2 (g 7 2 &&& (bm D ^^^ (-1)))) w, x) := by
  have e : (1 : Int64) <<< ((nI D).toInt64 &&& 63) = bm D := rfl
  simp only [vc_X8_takeFactor, vb_X8_takeFactor_24, vb_X8_takeFactor_41, mq_tag, mq_len, mq_i, mq_r, mq_l, mq_nx, mq_wi, mq_wr, mq_wl, true_and, and_true, and_false, false_and, and_self, ↓reduceIte, kT_0, kT_1, kT_2, kT_3, kT_4, kT_5, kT_6, kT_7, kT_8, kT_9, kT_10, kT_11, kT_12, kT_13, kT_14, kT_15, kT_16, kT_17, kT_18, kT_19, kT_20, kT_21, kT_22, kT_23, kL_2, kL_3, kL_5, kL_10, kL_11, kL_12, kL_14, kL_15, kL_17, kL_18, kL_19, kL_20, kL_21, kL_22, kL_23, kW_0_0, kW_0_1, kW_0_2, kW_0_3, kW_0_4, kW_0_5, kW_0_6, kW_0_7, kW_1_4, kW_1_5, kW_4_0, kW_4_1, kW_9_0, kW_9_1, kW_9_2, kW_13_0, kW_13_1, kW_16_0, kW_16_1, kW_16_2, kW_16_3, kW_16_4, kW_16_5, kW_1_1, kW_1_2, kW_4_4, kW_8_0, kW_8_1, kW_w1_1, kW_w1_2, kW_w4_4, kW_w8_0, kW_w8_1, kI_0, kI_w0, kI_1, kI_w1, kI_2, kI_w2, kI_3, kI_w3, kI_4, kI_w4, kI_5, kI_w5, kI_6, kI_w6, kI_7, kI_w7, kI_8, kI_w8, kI_9, kI_w9, kI_10, kI_w10, kI_11, kI_w11, kI_12, kI_w12, kI_13, kI_w13, kI_14, kI_w14, kI_15, kI_w15, kI_16, kI_w16, kI_17, kI_w17, kI_18, kI_w18, kI_19, kI_w19, kI_20, kI_w20, kI_21, kI_w21, kI_22, kI_w22, kI_23, kI_w23, h3, e, ix_cmp0, bt_0 hD, ix_b]
  rcases Bool.eq_false_or_eq_true (bt (g 7 2) D) with z | z <;> cases b <;> simp only [z, mq_u2k, ne_eq, Nat.reduceEqDiff, not_false_eq_true, true_or, or_true, false_or, or_false, not_true_eq_false, not_false_eq_true, true_and, and_true, false_and, and_false, and_self, decide_true, decide_false, ↓reduceIte, Bool.true_and, Bool.false_and, Bool.and_true, Bool.and_false, Bool.not_true, Bool.not_false, Bool.false_eq_true, Bool.true_or, Bool.or_true, Bool.false_or, Bool.or_false, reduceCtorEq, Bool.and_self, Bool.or_self, ne_eq]
theorem rC.join {c : Nat → Nat → Int32} {g : Nat → Nat → Int64} {W I T : Nat → Bool} {D cnt : Nat} {lf cp nm : Int32} (h : rC c g W I T D cnt lf cp nm) (hD : D < 64) {D' : Nat} (hl : D' ≤ D) (b : Bool) {c' : Nat → Nat → Int32} {cnt' : Nat} {nm' : Int32} (h3 : c' 7 3 = nI D') (h4 : c' 7 4 = nI cnt') (h5 : c' 7 5 = c 7 5) (h6 : c' 7 6 = c 7 6) (h7 : c' 7 7 = nm') :
    rC c' (mj_u2 (if b = bt (g 7 2) D' then mj_u2 g 7 1 (g 7 1 &&& (bm D' ^^^ (-1))) else g) 7 2 (g 7 2 &&& (bm D' ^^^ (-1)))) W (ub I D' (I D' && (b != T D'))) (ub T D' false) D' cnt' lf cp nm' := by
  obtain ⟨p1, p2, p3, p4, p5, p6⟩ := h
  refine ⟨fun j hj => ?_, h3, h4, h5.trans p4, h6.trans p5, h7⟩
  obtain ⟨q1, q2, q3⟩ := p1 j (by omega)
  obtain ⟨_, _, t3⟩ := p1 D' hl
  have D64 : D' < 64 := by omega
  have j64 : j < 64 := by omega
  rw [mq_u2k (by decide), mq_u2k (by decide), mq_u2s, bt_an D64 j64, q3, t3]
  by_cases e : b = T D'
  · rw [if_pos e, mq_u2s, mq_u2k (by decide), bt_an D64 j64, q1, q2]
    by_cases e2 : j = D'
    · subst e2; simp [ub, e]
    · have e3 : ¬ D' = j := fun z => e2 z.symm
      simp [ub, e2, e3]
  · rw [if_neg e, q1, q2]
    have e4 : (b != T D') = true := by cases b <;> cases hT : T D' <;> simp_all
    by_cases e2 : j = D'
    · subst e2; simp [ub, e4]
    · have e3 : ¬ D' = j := fun z => e2 z.symm
      simp [ub, e2, e3]
theorem cl_so {a h : Nat} (ha : a < N 1) (hh : h < N 0) {d v : Int32} (hd : 0 ≤ d ∧ d ≤ 73000) {tu : Nat → Bool} (htu : ∀ k, k ≤ 48 → (nI k = v) = (tu k = true)) {f : Nat → Int32} (hf : ∀ k, f k = s 16 (48 * a + k)) {post : Bool → mj_M → Prop} :
    ∀ (m k st op : Nat) (W I T : Nat → Bool) (cnt : Nat) (lf cp nm : Int32) (c : Nat → Nat → Int32) (g : Nat → Nat → Int64), kG B A AA AT AN N c s t l i r u x → k + m = l (AT a) → gF f m k st op = none → op ≤ k → cnt ≤ k → rC c g W I T op cnt lf cp nm →
    (∀ c' g', (∀ j, j ≠ 7 → c' j = c j) → c' 7 4 = nI (ev f (fun ch => kFc s h ch d) tu m k W I T op cnt lf cp nm).2 → post (ev f (fun ch => kFc s h ch d) tu m k W I T op cnt lf cp nm).1 (kT B t, kL B l, kI B i c' s1, kW B r u, kI B q g' w, x)) →
    ∃ fe, vb_X8_isSo_7 post fe (B + 7) (AT a) (B + 1) (A h) d v (nI k) (kT B t, kL B l, kI B i c s1, kW B r u, kI B q g w, x)
  | 0, k, st, op, W, I, T, cnt, lf, cp, nm, c, g, hG, hk, hg, ho, hc, hr, hp => by
    obtain ⟨p1, p2, p3, p4, p5, p6⟩ := id hr
    have kA := hG.1.2.2.2.2.2.1 a ha
    have l48 := kA.2.2.2.2.2.1
    have := hp c g (fun _ _ => rfl) p3
    refine ex_imp ⟨0, ?_⟩
    obtain ⟨q1, q2, q3⟩ := p1 op (Nat.le_refl _)
    simp only [vb_X8_isSo_7, hG.1.atAT ha, ix_fold, mq_tag, mq_len, mq_i, mq_r, mq_l, mq_nx, mq_wi, mq_wr, mq_wl, true_and, and_true, and_false, false_and, and_self, ↓reduceIte, kT_0, kT_1, kT_2, kT_3, kT_4, kT_5, kT_6, kT_7, kT_8, kT_9, kT_10, kT_11, kT_12, kT_13, kT_14, kT_15, kT_16, kT_17, kT_18, kT_19, kT_20, kT_21, kT_22, kT_23, kL_2, kL_3, kL_5, kL_10, kL_11, kL_12, kL_14, kL_15, kL_17, kL_18, kL_19, kL_20, kL_21, kL_22, kL_23, kW_0_0, kW_0_1, kW_0_2, kW_0_3, kW_0_4, kW_0_5, kW_0_6, kW_0_7, kW_1_4, kW_1_5, kW_4_0, kW_4_1, kW_9_0, kW_9_1, kW_9_2, kW_13_0, kW_13_1, kW_16_0, kW_16_1, kW_16_2, kW_16_3, kW_16_4, kW_16_5, kW_1_1, kW_1_2, kW_4_4, kW_8_0, kW_8_1, kW_w1_1, kW_w1_2, kW_w4_4, kW_w8_0, kW_w8_1, kI_0, kI_w0, kI_1, kI_w1, kI_2, kI_w2, kI_3, kI_w3, kI_4, kI_w4, kI_5, kI_w5, kI_6, kI_w6, kI_7, kI_w7, kI_8, kI_w8, kI_9, kI_w9, kI_10, kI_w10, kI_11, kI_w11, kI_12, kI_w12, kI_13, kI_w13, kI_14, kI_w14, kI_15, kI_w15, kI_16, kI_w16, kI_17, kI_w17, kI_18, kI_w18, kI_19, kI_w19, kI_20, kI_w20, kI_21, kI_w21, kI_22, kI_w22, kI_23, kI_w23, show k = l (AT a) by omega, Int32.le_refl, c_here (show op < 64 by omega) p2, q1, q2]
    exact this
  | m + 1, k, st, op, W, I, T, cnt, lf, cp, nm, c, g, hG, hk, hg, ho, hc, hr, hp => by
    obtain ⟨p1, p2, p3, p4, p5, p6⟩ := id hr
    have kA := hG.1.2.2.2.2.2.1 a ha
    have l48 := kA.2.2.2.2.2.1
    have k1 : k < 2147483648 := by omega
    have rd : ∀ k', k' < l (AT a) → kI B i c s1 (AT a) k' = f k' := fun k' hk' => (kI_o (hG.1.aT ha).1).trans ((kA.2.2.2.2.2.2 k' hk').trans (hf k').symm)
    have rd2 : ∀ (c' : Nat → Nat → Int32) k', k' < l (AT a) → kI B i c' s1 (AT a) k' = f k' := fun c' k' hk' => (kI_o (hG.1.aT ha).1).trans ((kA.2.2.2.2.2.2 k' hk').trans (hf k').symm)
    have e0 := rd k (by omega)
    -- the grammar's next step
    obtain ⟨st', hst', hg'⟩ : ∃ st', gSt st (f k) op = some st' ∧ gF f m (k + 1) st' (gOp (f k) op) = none := by
      unfold gF at hg
      cases hs : gSt st (f k) op with
      | none => rw [hs] at hg; cases hg
      | some st' => rw [hs] at hg; exact ⟨st', rfl, hg⟩
    have hne : (nI (l (AT a)) ≤ nI k) = False := by rw [ix_le (by omega) k1]; exact eq_false (by omega)
    have e48 : (1 : Int64) <<< ((nI op).toInt64 &&& 63) = bm op := rfl
    have scr : ∀ c', (∀ j, j ≠ 7 → c' j = c j) → kG B A AA AT AN N c' s t l i r u x := fun c' hc' => hG.scr (fun j _ j7 _ => hc' j j7) (fun _ _ _ _ _ _ => rfl) (fun _ _ _ => rfl)
    have fr : ∀ {c' : Nat → Nat → Int32}, (∀ j, j ≠ 7 → c' j = c j) → ∀ c'' : Nat → Nat → Int32, (∀ j, j ≠ 7 → c'' j = c' j) → ∀ j, j ≠ 7 → c'' j = c j := fun h1 c'' h2 j hj => (h2 j hj).trans (h1 j hj)
    have w1 : ∀ kk (vv : Int32), ∀ j, j ≠ 7 → mj_u2 c 7 kk vv j = c j := fun kk vv j hj => mj_u2_ne _ hj
    have w2 : ∀ kk (vv : Int32) kk' (vv' : Int32), ∀ j, j ≠ 7 → mj_u2 (mj_u2 c 7 kk vv) 7 kk' vv' j = c j := fun kk vv kk' vv' j hj => by rw [mj_u2_ne _ hj, mj_u2_ne _ hj]
    rw [ex_succ rfl]
    simp only [vb_X8_isSo_7, hG.1.atAT ha, ix_fold, hne, ix_in k1, ix_nat k1, show k < l (AT a) by omega, e0, c_isFact, c_isDigit, mq_tag, mq_len, mq_i, mq_r, mq_l, mq_nx, mq_wi, mq_wr, mq_wl, true_and, and_true, and_false, false_and, and_self, ↓reduceIte, kT_0, kT_1, kT_2, kT_3, kT_4, kT_5, kT_6, kT_7, kT_8, kT_9, kT_10, kT_11, kT_12, kT_13, kT_14, kT_15, kT_16, kT_17, kT_18, kT_19, kT_20, kT_21, kT_22, kT_23, kL_2, kL_3, kL_5, kL_10, kL_11, kL_12, kL_14, kL_15, kL_17, kL_18, kL_19, kL_20, kL_21, kL_22, kL_23, kW_0_0, kW_0_1, kW_0_2, kW_0_3, kW_0_4, kW_0_5, kW_0_6, kW_0_7, kW_1_4, kW_1_5, kW_4_0, kW_4_1, kW_9_0, kW_9_1, kW_9_2, kW_13_0, kW_13_1, kW_16_0, kW_16_1, kW_16_2, kW_16_3, kW_16_4, kW_16_5, kW_1_1, kW_1_2, kW_4_4, kW_8_0, kW_8_1, kW_w1_1, kW_w1_2, kW_w4_4, kW_w8_0, kW_w8_1, kI_0, kI_w0, kI_1, kI_w1, kI_2, kI_w2, kI_3, kI_w3, kI_4, kI_w4, kI_5, kI_w5, kI_6, kI_w6, kI_7, kI_w7, kI_8, kI_w8, kI_9, kI_w9, kI_10, kI_w10, kI_11, kI_w11, kI_12, kI_w12, kI_13, kI_w13, kI_14, kI_w14, kI_15, kI_w15, kI_16, kI_w16, kI_17, kI_w17, kI_18, kI_w18, kI_19, kI_w19, kI_20, kI_w20, kI_21, kI_w21, kI_22, kI_w22, kI_23, kI_w23]
    simp only [ev] at hp
    rcases Bool.eq_false_or_eq_true (mj_fact (f k)) with hfc | hfc
    · -- a fact
      simp only [hfc, ↓reduceIte] at hp ⊢
      simp only [c_measure hG hh hd, mq_tag, mq_len, mq_i, mq_r, mq_l, mq_nx, mq_wi, mq_wr, mq_wl, true_and, and_true, and_false, false_and, and_self, ↓reduceIte, kT_0, kT_1, kT_2, kT_3, kT_4, kT_5, kT_6, kT_7, kT_8, kT_9, kT_10, kT_11, kT_12, kT_13, kT_14, kT_15, kT_16, kT_17, kT_18, kT_19, kT_20, kT_21, kT_22, kT_23, kL_2, kL_3, kL_5, kL_10, kL_11, kL_12, kL_14, kL_15, kL_17, kL_18, kL_19, kL_20, kL_21, kL_22, kL_23, kW_0_0, kW_0_1, kW_0_2, kW_0_3, kW_0_4, kW_0_5, kW_0_6, kW_0_7, kW_1_4, kW_1_5, kW_4_0, kW_4_1, kW_9_0, kW_9_1, kW_9_2, kW_13_0, kW_13_1, kW_16_0, kW_16_1, kW_16_2, kW_16_3, kW_16_4, kW_16_5, kW_1_1, kW_1_2, kW_4_4, kW_8_0, kW_8_1, kW_w1_1, kW_w1_2, kW_w4_4, kW_w8_0, kW_w8_1, kI_0, kI_w0, kI_1, kI_w1, kI_2, kI_w2, kI_3, kI_w3, kI_4, kI_w4, kI_5, kI_w5, kI_6, kI_w6, kI_7, kI_w7, kI_8, kI_w8, kI_9, kI_w9, kI_10, kI_w10, kI_11, kI_w11, kI_12, kI_w12, kI_13, kI_w13, kI_14, kI_w14, kI_15, kI_w15, kI_16, kI_w16, kI_17, kI_w17, kI_18, kI_w18, kI_19, kI_w19, kI_20, kI_w20, kI_21, kI_w21, kI_22, kI_w22, kI_23, kI_w23, nI_1]
      obtain ⟨n40, n33, n41⟩ := gFact_n hfc
      have eo : gOp (f k) op = op := by unfold gOp; rw [if_neg n40, if_neg n41]
      rw [eo] at hg'
      exact cl_so ha hh hd htu hf m (k + 1) st' op W I T cnt _ cp nm (mj_u2 c 7 5 (kFc s h (f k) d)) g (scr _ (w1 _ _)) (by omega) hg' (by omega) (by omega) ⟨p1, by simpa [mq_u2] using p2, by simpa [mq_u2] using p3, by simp [mq_u2], by simpa [mq_u2] using p5, by simpa [mq_u2] using p6⟩ (fun c' g' h1 h2 => hp c' g' (fr (w1 _ _) c' h1) h2)
    · rcases Bool.eq_false_or_eq_true (gDig (f k)) with hdg | hdg
      · -- a digit
        obtain ⟨d38, d124, d41, d40⟩ := gDig_n hdg
        have eo : gOp (f k) op = op := by unfold gOp; rw [if_neg d40, if_neg d41]
        rw [eo] at hg'
        have T1 : ∀ (cc : Nat → Nat → Int32), cc = mj_u2 c 7 7 (nm * 10 + f k - 48) → ((vb_X8_isSo_90 (fun l0 l1 l2 l3 l4 l5 l6 M => ∃ fe, vb_X8_isSo_7 post fe l0 l1 l2 l3 l4 l5 l6 M) post (B + 7) (AT a) (B + 1) (A h) d v (nI k) (kT B t, kL B l, kI B i cc s1, kW B r u, kI B q g w, x)) ↔ ∃ fe, vb_X8_isSo_7 post fe (B + 7) (AT a) (B + 1) (A h) d v (nI (k + 1)) (kT B t, kL B l, kI B i (mj_u2 cc 7 4 (nI (cnt + 1))) s1, kW B r u, kI B q (mj_u2 (if (kCo lf cp (nm * 10 + f k - 48) != tu cnt) = bt (g 7 2) op then mj_u2 g 7 1 (g 7 1 &&& (bm op ^^^ (-1))) else g) 7 2 (g 7 2 &&& (bm op ^^^ (-1)))) w, x)) := by
          intro cc hcc
          have q3 : cc 7 3 = nI op := by rw [hcc]; simpa [mq_u2] using p2
          have q4 : cc 7 4 = nI cnt := by rw [hcc]; simpa [mq_u2] using p3
          have q5 : cc 7 5 = lf := by rw [hcc]; simpa [mq_u2] using p4
          have q6 : cc 7 6 = cp := by rw [hcc]; simpa [mq_u2] using p5
          have q7 : cc 7 7 = nm * 10 + f k - 48 := by rw [hcc]; simp [mq_u2]
          have cmp : ∀ pp : Bool → mj_M → Prop, vc_X8_compares (B + 7) (kT B t, kL B l, kI B i cc s1, kW B r u, kI B q g w, x) pp = pp (kCo lf cp (nm * 10 + f k - 48)) (kT B t, kL B l, kI B i cc s1, kW B r u, kI B q g w, x) := by
            intro pp
            simp only [vc_X8_compares, mq_tag, mq_len, mq_i, mq_r, mq_l, mq_nx, mq_wi, mq_wr, mq_wl, true_and, and_true, and_false, false_and, and_self, ↓reduceIte, kT_0, kT_1, kT_2, kT_3, kT_4, kT_5, kT_6, kT_7, kT_8, kT_9, kT_10, kT_11, kT_12, kT_13, kT_14, kT_15, kT_16, kT_17, kT_18, kT_19, kT_20, kT_21, kT_22, kT_23, kL_2, kL_3, kL_5, kL_10, kL_11, kL_12, kL_14, kL_15, kL_17, kL_18, kL_19, kL_20, kL_21, kL_22, kL_23, kW_0_0, kW_0_1, kW_0_2, kW_0_3, kW_0_4, kW_0_5, kW_0_6, kW_0_7, kW_1_4, kW_1_5, kW_4_0, kW_4_1, kW_9_0, kW_9_1, kW_9_2, kW_13_0, kW_13_1, kW_16_0, kW_16_1, kW_16_2, kW_16_3, kW_16_4, kW_16_5, kW_1_1, kW_1_2, kW_4_4, kW_8_0, kW_8_1, kW_w1_1, kW_w1_2, kW_w4_4, kW_w8_0, kW_w8_1, kI_0, kI_w0, kI_1, kI_w1, kI_2, kI_w2, kI_3, kI_w3, kI_4, kI_w4, kI_5, kI_w5, kI_6, kI_w6, kI_7, kI_w7, kI_8, kI_w8, kI_9, kI_w9, kI_10, kI_w10, kI_11, kI_w11, kI_12, kI_w12, kI_13, kI_w13, kI_14, kI_w14, kI_15, kI_w15, kI_16, kI_w16, kI_17, kI_w17, kI_18, kI_w18, kI_19, kI_w19, kI_20, kI_w20, kI_21, kI_w21, kI_22, kI_w22, kI_23, kI_w23, q5, q6, q7, kCo, ← i_nle (a := nm * 10 + f k - 48) (b := lf), ← i_nle (a := lf) (b := nm * 10 + f k - 48)]
            rcases Classical.propComplete (cp = 60) with z1 | z1 <;> rcases Classical.propComplete (cp = 62) with z2 | z2 <;> rcases Classical.propComplete (nm * 10 + f k - 48 ≤ lf) with z3 | z3 <;> rcases Classical.propComplete (lf ≤ nm * 10 + f k - 48) with z4 | z4 <;> rcases Classical.propComplete (lf = nm * 10 + f k - 48) with z5 | z5 <;> simp only [z1, z2, z3, z4, z5, true_or, or_true, false_or, or_false, not_true_eq_false, not_false_eq_true, true_and, and_true, false_and, and_false, and_self, decide_true, decide_false, ↓reduceIte, Bool.true_and, Bool.false_and, Bool.and_true, Bool.and_false, Bool.not_true, Bool.not_false, Bool.false_eq_true, Bool.true_or, Bool.or_true, Bool.false_or, Bool.or_false, reduceCtorEq, Bool.and_self, Bool.or_self, ne_eq]
          simp only [vb_X8_isSo_90, vb_X8_isSo_109, vb_X8_isSo_117, mq_tag, mq_len, mq_i, mq_r, mq_l, mq_nx, mq_wi, mq_wr, mq_wl, true_and, and_true, and_false, false_and, and_self, ↓reduceIte, kT_0, kT_1, kT_2, kT_3, kT_4, kT_5, kT_6, kT_7, kT_8, kT_9, kT_10, kT_11, kT_12, kT_13, kT_14, kT_15, kT_16, kT_17, kT_18, kT_19, kT_20, kT_21, kT_22, kT_23, kL_2, kL_3, kL_5, kL_10, kL_11, kL_12, kL_14, kL_15, kL_17, kL_18, kL_19, kL_20, kL_21, kL_22, kL_23, kW_0_0, kW_0_1, kW_0_2, kW_0_3, kW_0_4, kW_0_5, kW_0_6, kW_0_7, kW_1_4, kW_1_5, kW_4_0, kW_4_1, kW_9_0, kW_9_1, kW_9_2, kW_13_0, kW_13_1, kW_16_0, kW_16_1, kW_16_2, kW_16_3, kW_16_4, kW_16_5, kW_1_1, kW_1_2, kW_4_4, kW_8_0, kW_8_1, kW_w1_1, kW_w1_2, kW_w4_4, kW_w8_0, kW_w8_1, kI_0, kI_w0, kI_1, kI_w1, kI_2, kI_w2, kI_3, kI_w3, kI_4, kI_w4, kI_5, kI_w5, kI_6, kI_w6, kI_7, kI_w7, kI_8, kI_w8, kI_9, kI_w9, kI_10, kI_w10, kI_11, kI_w11, kI_12, kI_w12, kI_13, kI_w13, kI_14, kI_w14, kI_15, kI_w15, kI_16, kI_w16, kI_17, kI_w17, kI_18, kI_w18, kI_19, kI_w19, kI_20, kI_w20, kI_21, kI_w21, kI_22, kI_w22, kI_23, kI_w23, cmp, q4, htu cnt (by omega), ix_b, c_factor (show op < 64 by omega) q3, nI_1]
          rcases Bool.eq_false_or_eq_true (kCo lf cp (nm * 10 + f k - 48)) with z1 | z1 <;> rcases Bool.eq_false_or_eq_true (tu cnt) with z2 | z2 <;> simp only [z1, z2, true_or, or_true, false_or, or_false, not_true_eq_false, not_false_eq_true, true_and, and_true, false_and, and_false, and_self, decide_true, decide_false, ↓reduceIte, Bool.true_and, Bool.false_and, Bool.and_true, Bool.and_false, Bool.not_true, Bool.not_false, Bool.false_eq_true, Bool.true_or, Bool.or_true, Bool.false_or, Bool.or_false, reduceCtorEq, Bool.and_self, Bool.or_self, ne_eq, show ((true : Bool) != true) = false from rfl, show ((true : Bool) != false) = true from rfl, show ((false : Bool) != true) = true from rfl, show ((false : Bool) != false) = false from rfl]
        have J := hr.join (show op < 64 by omega) (Nat.le_refl _) (kCo lf cp (nm * 10 + f k - 48) != tu cnt) (c' := mj_u2 (mj_u2 c 7 7 (nm * 10 + f k - 48)) 7 4 (nI (cnt + 1))) (cnt' := cnt + 1) (nm' := nm * 10 + f k - 48) (by simpa [mq_u2] using p2) (by simp [mq_u2]) (by simp [mq_u2]) (by simp [mq_u2]) (by simp [mq_u2])
        have joined : (m = 0 ∨ gDig (f (k + 1)) = false) → (vb_X8_isSo_90 (fun l0 l1 l2 l3 l4 l5 l6 M => ∃ fe, vb_X8_isSo_7 post fe l0 l1 l2 l3 l4 l5 l6 M) post (B + 7) (AT a) (B + 1) (A h) d v (nI k) (kT B t, kL B l, kI B i (mj_u2 c 7 7 (nm * 10 + f k - 48)) s1, kW B r u, kI B q g w, x)) := by
          intro hj
          simp only [hfc, hdg, hj, Bool.false_eq_true, ↓reduceIte] at hp
          rw [T1 _ rfl]
          exact cl_so ha hh hd htu hf m (k + 1) st' op W _ _ (cnt + 1) lf cp _ (mj_u2 (mj_u2 c 7 7 (nm * 10 + f k - 48)) 7 4 (nI (cnt + 1))) _ (scr _ (w2 _ _ _ _)) (by omega) hg' (by omega) (by omega) J (fun c' g' h1 h2 => hp c' g' (fr (w2 _ _ _ _) c' h1) h2)
        have E90 : ∀ M, (∃ fe, vb_X8_isSo_90 (vb_X8_isSo_7 post fe) post (B + 7) (AT a) (B + 1) (A h) d v (nI k) M) ↔ vb_X8_isSo_90 (fun l0 l1 l2 l3 l4 l5 l6 M => ∃ fe, vb_X8_isSo_7 post fe l0 l1 l2 l3 l4 l5 l6 M) post (B + 7) (AT a) (B + 1) (A h) d v (nI k) M := by
          intro M
          simp only [vb_X8_isSo_90, vb_X8_isSo_109, vb_X8_isSo_117, vc_X8_compares, vc_X8_takeFactor, vb_X8_takeFactor_24, vb_X8_takeFactor_41, ex_ite, exists_and_left, exists_const, exists_and_right]
        have mo : (nI k + 1 = nI (l (AT a))) = (m = 0) := by rw [nI_1, ix_eq (by omega) (by omega)]; exact propext ⟨fun z => by omega, fun z => by omega⟩
        simp only [hfc, hdg, p6, Bool.false_eq_true, ↓reduceIte, mo, ex_ite, exists_and_left, exists_const, exists_and_right]
        by_cases m0 : m = 0
        · simp only [m0, ↓reduceIte]
          rw [E90]; exact joined (.inl m0)
        · simp only [m0, ↓reduceIte, nI_1, ix_in (show k + 1 < 2147483648 by omega), ix_nat (show k + 1 < 2147483648 by omega), show k + 1 < l (AT a) by omega, rd2 _ (k + 1) (by omega), true_and, ex_ite, exists_and_left, exists_const, exists_and_right]
          rcases Bool.eq_false_or_eq_true (gDig (f (k + 1))) with hd2 | hd2
          · have nj : ¬ (m = 0 ∨ gDig (f (k + 1)) = false) := fun z => by rcases z with z | z; exact m0 z; rw [hd2] at z; cases z
            simp only [hfc, hdg, nj, Bool.false_eq_true, ↓reduceIte] at hp
            simp only [hd2, ↓reduceIte]
            exact cl_so ha hh hd htu hf m (k + 1) st' op W I T cnt lf cp _ (mj_u2 c 7 7 (nm * 10 + f k - 48)) g (scr _ (w1 _ _)) (by omega) hg' (by omega) (by omega) ⟨p1, by simpa [mq_u2] using p2, by simpa [mq_u2] using p3, by simpa [mq_u2] using p4, by simpa [mq_u2] using p5, by simp [mq_u2]⟩ (fun c' g' h1 h2 => hp c' g' (fr (w1 _ _) c' h1) h2)
          · simp only [hd2, Bool.false_eq_true, ↓reduceIte]
            rw [E90]; exact joined (.inr hd2)
      · simp only [hfc, hdg, Bool.false_eq_true, ↓reduceIte] at hp ⊢
        simp only [vc_X8_takeSign, vc_X8_openText, c_comparing, mq_tag, mq_len, mq_i, mq_r, mq_l, mq_nx, mq_wi, mq_wr, mq_wl, true_and, and_true, and_false, false_and, and_self, ↓reduceIte, kT_0, kT_1, kT_2, kT_3, kT_4, kT_5, kT_6, kT_7, kT_8, kT_9, kT_10, kT_11, kT_12, kT_13, kT_14, kT_15, kT_16, kT_17, kT_18, kT_19, kT_20, kT_21, kT_22, kT_23, kL_2, kL_3, kL_5, kL_10, kL_11, kL_12, kL_14, kL_15, kL_17, kL_18, kL_19, kL_20, kL_21, kL_22, kL_23, kW_0_0, kW_0_1, kW_0_2, kW_0_3, kW_0_4, kW_0_5, kW_0_6, kW_0_7, kW_1_4, kW_1_5, kW_4_0, kW_4_1, kW_9_0, kW_9_1, kW_9_2, kW_13_0, kW_13_1, kW_16_0, kW_16_1, kW_16_2, kW_16_3, kW_16_4, kW_16_5, kW_1_1, kW_1_2, kW_4_4, kW_8_0, kW_8_1, kW_w1_1, kW_w1_2, kW_w4_4, kW_w8_0, kW_w8_1, kI_0, kI_w0, kI_1, kI_w1, kI_2, kI_w2, kI_3, kI_w3, kI_4, kI_w4, kI_5, kI_w5, kI_6, kI_w6, kI_7, kI_w7, kI_8, kI_w8, kI_9, kI_w9, kI_10, kI_w10, kI_11, kI_w11, kI_12, kI_w12, kI_13, kI_w13, kI_14, kI_w14, kI_15, kI_w15, kI_16, kI_w16, kI_17, kI_w17, kI_18, kI_w18, kI_19, kI_w19, kI_20, kI_w20, kI_21, kI_w21, kI_22, kI_w22, kI_23, kI_w23, p2, e48, nI_1]
        rcases Bool.eq_false_or_eq_true (kCs (f k)) with hcs | hcs
        · -- a comparing sign
          have n40 : ¬ f k = 40 := fun z => by rw [z] at hcs; exact absurd hcs (by decide)
          have n41 : ¬ f k = 41 := fun z => by rw [z] at hcs; exact absurd hcs (by decide)
          have eo : gOp (f k) op = op := by unfold gOp; rw [if_neg n40, if_neg n41]
          rw [eo] at hg'
          simp only [hcs, ↓reduceIte] at hp ⊢
          exact cl_so ha hh hd htu hf m (k + 1) st' op W I T cnt lf _ 0 (mj_u2 (mj_u2 c 7 6 (f k)) 7 7 0) g (scr _ (w2 _ _ _ _)) (by omega) hg' (by omega) (by omega) ⟨p1, by simpa [mq_u2] using p2, by simpa [mq_u2] using p3, by simpa [mq_u2] using p4, by simp [mq_u2], by simp [mq_u2]⟩ (fun c' g' h1 h2 => hp c' g' (fr (w2 _ _ _ _) c' h1) h2)
        · simp only [hcs, Bool.false_eq_true, ↓reduceIte] at hp ⊢
          have o64 : op < 64 := by omega
          rcases Classical.propComplete (f k = 33) with z33 | z33
          · have e33 : f k = 33 := of_eq_true z33
            have eo : gOp (f k) op = op := by rw [e33]; rfl
            rw [eo] at hg'
            simp only [z33, ↓reduceIte] at hp ⊢
            refine cl_so ha hh hd htu hf m (k + 1) st' op W I _ cnt lf cp nm c (mj_u2 g 7 2 (g 7 2 ^^^ bm op)) hG (by omega) hg' (by omega) (by omega) ⟨fun j hj => ?_, p2, p3, p4, p5, p6⟩ hp
            obtain ⟨q1, q2, q3⟩ := p1 j hj
            obtain ⟨_, _, t3⟩ := p1 op (Nat.le_refl _)
            rw [mq_u2k (by decide), mq_u2k (by decide), mq_u2s, bt_xo o64, q3]
            refine ⟨q1, q2, ?_⟩
            by_cases e2 : j = op
            · subst e2; simp [ub]
            · have e3 : ¬ op = j := fun z => e2 z.symm
              simp [ub, e2, e3]
          · simp only [z33, ↓reduceIte] at hp ⊢
            rcases Classical.propComplete (f k = 124) with z124 | z124
            · have e124 : f k = 124 := of_eq_true z124
              have eo : gOp (f k) op = op := by rw [e124]; rfl
              rw [eo] at hg'
              simp only [z124, ↓reduceIte, mq_u2k, ne_eq, Nat.reduceEqDiff, not_false_eq_true] at hp ⊢
              refine cl_so ha hh hd htu hf m (k + 1) st' op _ _ T cnt lf cp nm c (mj_u2 (mj_u2 g 7 0 (g 7 0 ||| (g 7 1 &&& bm op))) 7 1 (g 7 1 ||| bm op)) hG (by omega) hg' (by omega) (by omega) ⟨fun j hj => ?_, p2, p3, p4, p5, p6⟩ hp
              obtain ⟨q1, q2, q3⟩ := p1 j hj
              rw [mq_u2k (by decide), mq_u2s, mq_u2s, mq_u2k (by decide), mq_u2k (by decide), bt_o2, bt_am o64, bt_or o64, q1, q2]
              refine ⟨?_, ?_, q3⟩
              · by_cases e2 : j = op
                · subst e2; simp [ub]
                · have e3 : ¬ op = j := fun z => e2 z.symm
                  simp [ub, e2, e3]
              · by_cases e2 : j = op
                · subst e2; simp [ub]
                · have e3 : ¬ op = j := fun z => e2 z.symm
                  simp [ub, e2, e3]
            · simp only [z124, ↓reduceIte] at hp ⊢
              rcases Classical.propComplete (f k = 40) with z40 | z40
              · have e40 : f k = 40 := of_eq_true z40
                have eo : gOp (f k) op = op + 1 := by rw [e40]; rfl
                rw [eo] at hg'
                have eb : (1 : Int64) <<< ((nI (op + 1)).toInt64 &&& 63) = bm (op + 1) := rfl
                simp only [z40, ↓reduceIte, mq_u2s, mq_u2k, ne_eq, Nat.reduceEqDiff, not_false_eq_true, eb] at hp ⊢
                have o65 : op + 1 < 64 := by omega
                refine cl_so ha hh hd htu hf m (k + 1) st' (op + 1) _ _ _ cnt lf cp nm (mj_u2 c 7 3 (nI (op + 1))) (mj_u2 (mj_u2 (mj_u2 g 7 0 (g 7 0 &&& (bm (op + 1) ^^^ -1))) 7 1 (g 7 1 ||| bm (op + 1))) 7 2 (g 7 2 &&& (bm (op + 1) ^^^ -1))) (scr _ (w1 _ _)) (by omega) hg' (by omega) (by omega) ⟨fun j hj => ?_, by simp [mq_u2], by simpa [mq_u2] using p3, by simpa [mq_u2] using p4, by simpa [mq_u2] using p5, by simpa [mq_u2] using p6⟩ (fun c' g' h1 h2 => hp c' g' (fr (w1 _ _) c' h1) h2)
                have j64 : j < 64 := by omega
                have s0 : mj_u2 (mj_u2 (mj_u2 g 7 0 (g 7 0 &&& (bm (op + 1) ^^^ -1))) 7 1 (g 7 1 ||| bm (op + 1))) 7 2 (g 7 2 &&& (bm (op + 1) ^^^ -1)) 7 0 = g 7 0 &&& (bm (op + 1) ^^^ -1) := by simp [mq_u2]
                have s1' : mj_u2 (mj_u2 (mj_u2 g 7 0 (g 7 0 &&& (bm (op + 1) ^^^ -1))) 7 1 (g 7 1 ||| bm (op + 1))) 7 2 (g 7 2 &&& (bm (op + 1) ^^^ -1)) 7 1 = g 7 1 ||| bm (op + 1) := by simp [mq_u2]
                have s2 : mj_u2 (mj_u2 (mj_u2 g 7 0 (g 7 0 &&& (bm (op + 1) ^^^ -1))) 7 1 (g 7 1 ||| bm (op + 1))) 7 2 (g 7 2 &&& (bm (op + 1) ^^^ -1)) 7 2 = g 7 2 &&& (bm (op + 1) ^^^ -1) := by simp [mq_u2]
                rw [s0, s1', s2, bt_an o65 j64, bt_or o65, bt_an o65 j64]
                by_cases e2 : j = op + 1
                · subst e2; simp [ub]
                · have e3 : ¬ op + 1 = j := fun z => e2 z.symm
                  obtain ⟨q1, q2, q3⟩ := p1 j (by omega)
                  simp [ub, e2, e3, q1, q2, q3]
              · simp only [z40, ↓reduceIte] at hp ⊢
                rcases Classical.propComplete (f k = 41) with z41 | z41
                · have e41 : f k = 41 := of_eq_true z41
                  have eo : gOp (f k) op = op - 1 := by rw [e41]; rfl
                  rw [eo] at hg'
                  have op0 : 0 < op := by
                    rw [e41] at hst'
                    unfold gSt at hst'
                    by_cases y : 0 < op
                    · exact y
                    · exfalso
                      simp only [y, and_false, ↓reduceIte, show (((41 : Int32) = 33 ∨ (41 : Int32) = 40)) = False from eq_false (by decide), show mj_fact 41 = false by decide, show gDig 41 = false by decide, Bool.false_eq_true, show (((41 : Int32) = 60 ∨ (41 : Int32) = 62 ∨ (41 : Int32) = 61)) = False from eq_false (by decide), show (((41 : Int32) = 38 ∨ (41 : Int32) = 124)) = False from eq_false (by decide)] at hst'
                      split at hst'
                      · cases hst'
                      · split at hst'
                        · cases hst'
                        · split at hst' <;> cases hst'
                  obtain ⟨q1, q2, q3⟩ := p1 op (Nat.le_refl _)
                  have em : nI op - 1 = nI (op - 1) := ix_sub1 op0
                  simp only [z41, ↓reduceIte] at hp ⊢
                  simp only [c_here o64 p2, q1, q2, mq_tag, mq_len, mq_i, mq_r, mq_l, mq_nx, mq_wi, mq_wr, mq_wl, true_and, and_true, and_false, false_and, and_self, ↓reduceIte, kT_0, kT_1, kT_2, kT_3, kT_4, kT_5, kT_6, kT_7, kT_8, kT_9, kT_10, kT_11, kT_12, kT_13, kT_14, kT_15, kT_16, kT_17, kT_18, kT_19, kT_20, kT_21, kT_22, kT_23, kL_2, kL_3, kL_5, kL_10, kL_11, kL_12, kL_14, kL_15, kL_17, kL_18, kL_19, kL_20, kL_21, kL_22, kL_23, kW_0_0, kW_0_1, kW_0_2, kW_0_3, kW_0_4, kW_0_5, kW_0_6, kW_0_7, kW_1_4, kW_1_5, kW_4_0, kW_4_1, kW_9_0, kW_9_1, kW_9_2, kW_13_0, kW_13_1, kW_16_0, kW_16_1, kW_16_2, kW_16_3, kW_16_4, kW_16_5, kW_1_1, kW_1_2, kW_4_4, kW_8_0, kW_8_1, kW_w1_1, kW_w1_2, kW_w4_4, kW_w8_0, kW_w8_1, kI_0, kI_w0, kI_1, kI_w1, kI_2, kI_w2, kI_3, kI_w3, kI_4, kI_w4, kI_5, kI_w5, kI_6, kI_w6, kI_7, kI_w7, kI_8, kI_w8, kI_9, kI_w9, kI_10, kI_w10, kI_11, kI_w11, kI_12, kI_w12, kI_13, kI_w13, kI_14, kI_w14, kI_15, kI_w15, kI_16, kI_w16, kI_17, kI_w17, kI_18, kI_w18, kI_19, kI_w19, kI_20, kI_w20, kI_21, kI_w21, kI_22, kI_w22, kI_23, kI_w23, p2, em, c_factor (D := op - 1) (c := mj_u2 c 7 3 (nI (op - 1))) (show op - 1 < 64 by omega) (by simp [mq_u2])]
                  exact cl_so ha hh hd htu hf m (k + 1) st' (op - 1) W _ _ cnt lf cp nm (mj_u2 c 7 3 (nI (op - 1))) _ (scr _ (w1 _ _)) (by omega) hg' (by omega) (by omega) (hr.join o64 (Nat.sub_le _ _) (W op || I op) (c' := mj_u2 c 7 3 (nI (op - 1))) (by simp [mq_u2]) (by simpa [mq_u2] using p3) (by simp [mq_u2]) (by simp [mq_u2]) (by simpa [mq_u2] using p6)) (fun c' g' h1 h2 => hp c' g' (fr (w1 _ _) c' h1) h2)
                · have n40 : ¬ f k = 40 := of_eq_false z40
                  have n41 : ¬ f k = 41 := of_eq_false z41
                  have eo : gOp (f k) op = op := by unfold gOp; rw [if_neg n40, if_neg n41]
                  rw [eo] at hg'
                  simp only [z41, ↓reduceIte] at hp ⊢
                  exact cl_so ha hh hd htu hf m (k + 1) st' op W I T cnt lf cp nm c g hG (by omega) hg' (by omega) (by omega) hr hp
end

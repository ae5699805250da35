/-! STAGE B: price, share -/
theorem l_t1 {v a b : Int64} : v - (a + b) + (a + b) = v := Int64.sub_add_cancel v (a + b)
theorem l_t2 {v x p d e : Int64} : v - (x + p) - (d + e) = v - ((x + d) + (p + e)) := by
  apply l_eq.mpr
  simp only [Int64.toInt_add, Int64.toInt_sub, Int.bmod_add_bmod, Int.add_bmod_bmod, Int.sub_bmod_bmod, Int.bmod_sub_bmod]
  congr 1; omega
theorem l_t3 {v b e : Int64} : v - b - e = v - (b + e) := by
  apply l_eq.mpr
  simp only [Int64.toInt_add, Int64.toInt_sub, Int.bmod_add_bmod, Int.add_bmod_bmod, Int.sub_bmod_bmod, Int.bmod_sub_bmod]
  congr 1; omega
theorem l_t4 {T lf e y p : Int64} : T + lf - (T + e) + (y + p) = y + p + (lf - e) := by
  apply l_eq.mpr
  simp only [Int64.toInt_add, Int64.toInt_sub, Int.bmod_add_bmod, Int.add_bmod_bmod, Int.sub_bmod_bmod, Int.bmod_sub_bmod]
  congr 1; omega
def kP1 (T lf x : Int64) : Int64 := if T = 0 then 0 else (lf * x) / T
def kSh (T lf : Int64) : List Int64 → Nat → Int64 → Int64
  | [], _, rest => rest
  | [_], _, rest => rest
  | x :: _ :: _, 0, _ => x + kP1 T lf x
  | x :: y :: L, j + 1, rest => kSh T lf (y :: L) j (rest - (x + kP1 T lf x))
theorem kSu_c (x : Int64) (L : List Int64) (a : Int64) : kSu (x :: L) a = kSu L (a + x) := rfl
theorem kSu_a : ∀ (L : List Int64) (a b : Int64), kSu L (a + b) = a + kSu L b
  | [], _, _ => rfl
  | x :: L, a, b => by rw [kSu_c, kSu_c, Int64.add_assoc, kSu_a L]
theorem kSu_0 (x : Int64) (L : List Int64) : kSu (x :: L) 0 = x + kSu L 0 := by
  rw [kSu_c, Int64.add_comm, kSu_a]
theorem kSh_eq {T lf : Int64} : ∀ (L : List Int64) (j : Nat) (hj : j < L.length) (rest : Int64), kSh T lf L j rest = if j + 1 = L.length then rest - (kSu L 0 + kSu (L.map (kP1 T lf)) 0) + (L[j] + kP1 T lf L[j]) else L[j] + kP1 T lf L[j]
  | [], j, hj, _ => absurd hj (Nat.not_lt_zero _)
  | [x], j, hj, rest => by
    have : j = 0 := by simpa using hj
    subst this
    have e1 : kSu [x] 0 = x := by rw [kSu_0]; exact Int64.add_zero x
    have e2 : kSu ([x].map (kP1 T lf)) 0 = kP1 T lf x := by rw [List.map_cons, kSu_0]; exact Int64.add_zero _
    rw [e1, e2, if_pos (show 0 + 1 = [x].length from rfl)]
    exact l_t1.symm
  | x :: y :: L, 0, hj, rest => by
    simp only [kSh, List.length_cons, List.getElem_cons_zero]
    rw [if_neg (by omega)]
  | x :: y :: L, j + 1, hj, rest => by
    have I := kSh_eq (T := T) (lf := lf) (y :: L) j (by simpa using hj) (rest - (x + kP1 T lf x))
    show kSh T lf (y :: L) j (rest - (x + kP1 T lf x)) = _
    rw [I]
    simp only [List.length_cons, List.getElem_cons_succ, Nat.add_right_cancel_iff]
    by_cases z : j = L.length
    · rw [if_pos z, if_pos z]
      congr 1
      rw [kSu_0 x (y :: L), List.map_cons (f := kP1 T lf) (a := x) (l := y :: L), kSu_0 (kP1 T lf x)]
      exact l_t2
    · rw [if_neg z, if_neg z]
section
variable {B : Nat} {A AA AT AN N t l u : Nat → Nat} {i c s : Nat → Nat → Int32} {r : Nat → Nat → Nat} {q g w : Nat → Nat → Int64} {x : Nat}
theorem kLl_fu (hG : kG B A AA AT AN N c s t l i r u x) {rk : Nat → Nat} (R : ∀ h, h < N 0 → rk h < N 0 ∧ ∀ k, k < N 0 → s 1 h = nI k → rk k < rk h) {ex : Int64} : ∀ (f f' cur : Nat), cur < N 0 → rk cur < f → rk cur < f' → kLl s ex f cur = kLl s ex f' cur
  | 0, _, _, _, h, _ => by omega
  | _ + 1, 0, _, _, _, h => by omega
  | f + 1, f' + 1, cur, hc, h1, h2 => by
    unfold kLl
    by_cases z : s 1 cur < 0
    · rw [if_pos z, if_pos z]
    · rw [if_neg z, if_neg z]
      obtain ⟨k, hk, he⟩ : ∃ k, k < N 0 ∧ s 1 cur = nI k := by
        rcases hG.out hc with y | y
        · rw [y] at z; exact absurd (by decide) z
        · exact y
      have h40 := hG.n40
      have := (R cur hc).2 k hk he
      rw [he, ix_nat (by omega), kLl_fu hG R f f' k hk (by omega) (by omega)]
theorem kDep_len (hG : kG B A AA AT AN N c s t l i r u x) {ex : Int64} : ∀ (f cur a : Nat), cur < N 0 → kDep s f (nI a) (s 1 cur) = nI (a + (kLl s ex f cur).length)
  | 0, _, _, _ => rfl
  | f + 1, cur, a, hc => by
    unfold kDep kLl
    by_cases z : s 1 cur < 0
    · rw [if_pos z, if_pos z]; rfl
    · rw [if_neg z, if_neg z]
      obtain ⟨k, hk, he⟩ : ∃ k, k < N 0 ∧ s 1 cur = nI k := by
        rcases hG.out hc with y | y
        · rw [y] at z; exact absurd (by decide) z
        · exact y
      have h40 := hG.n40
      rw [he, ix_nat (by omega), nI_1, kDep_len hG (ex := ex) f k (a + 1) hk, List.length_cons]
      congr 1; omega
/-- the class's sharing out -/
theorem cl_share (hG : kG B A AA AT AN N c s t l i r u x) {rk : Nat → Nat} (R : ∀ h, h < N 0 → rk h < N 0 ∧ ∀ k, k < N 0 → s 1 h = nI k → rk k < rk h) {ex T lf : Int64} (y7 : g 9 7 = ex) (y8 : g 9 8 = T) (y9 : g 9 9 = lf) (hT : 0 ≤ T.toInt) {post : Int64 → mj_M → Prop} : ∀ (f cur j k0 : Nat) (rest : Int64), cur < N 0 → rk cur < f → k0 + j < 100 → (∃ fe, vb_X5_shareOf_17 post fe (B + 9) (nI (k0 + j)) (s 0 0) rest (nI k0) (A cur) (kT B t, kL B l, kI B i c s, kW B r u, kI B q g w, x)) = post (kSh T lf (kLl s ex f cur) j rest) (kT B t, kL B l, kI B i c s, kW B r u, kI B q g w, x)
  | 0, cur, j, k0, rest, hc, hr, _ => by omega
  | f + 1, cur, j, k0, rest, hc, hr, hj => by
    obtain ⟨g1, g2, g3, g4, g5, g6, g7, g8, g9, g10⟩ := id hG
    have h40 := hG.n40
    rw [ex_succ rfl]
    by_cases z : s 1 cur < 0
    · have eL : kLl s ex (f + 1) cur = [] := by unfold kLl; rw [if_pos z]
      simp only [vb_X5_shareOf_17, mq_tag, mq_len, mq_i, mq_r, mq_l, mq_nx, mq_wi, mq_wr, mq_wl, true_and, and_true, and_false, false_and, and_self, ↓reduceIte, kT_0, kT_1, kT_2, kT_3, kT_4, kT_5, kT_6, kT_7, kT_8, kT_9, kT_10, kT_11, kT_12, kT_13, kT_14, kT_15, kT_16, kT_17, kT_18, kT_19, kT_20, kT_21, kT_22, kT_23, kL_2, kL_3, kL_5, kL_10, kL_11, kL_12, kL_14, kL_15, kL_17, kL_18, kL_19, kL_20, kL_21, kL_22, kL_23, kW_0_0, kW_0_1, kW_0_2, kW_0_3, kW_0_4, kW_0_5, kW_0_6, kW_0_7, kW_1_4, kW_1_5, kW_4_0, kW_4_1, kW_9_0, kW_9_1, kW_9_2, kW_13_0, kW_13_1, kW_16_0, kW_16_1, kW_16_2, kW_16_3, kW_16_4, kW_16_5, kW_1_1, kW_1_2, kW_4_4, kW_8_0, kW_8_1, kW_w1_1, kW_w1_2, kW_w4_4, kW_w8_0, kW_w8_1, kI_0, kI_w0, kI_1, kI_w1, kI_2, kI_w2, kI_3, kI_w3, kI_4, kI_w4, kI_5, kI_w5, kI_6, kI_w6, kI_7, kI_w7, kI_8, kI_w8, kI_9, kI_w9, kI_10, kI_w10, kI_11, kI_w11, kI_12, kI_w12, kI_13, kI_w13, kI_14, kI_w14, kI_15, kI_w15, kI_16, kI_w16, kI_17, kI_w17, kI_18, kI_w18, kI_19, kI_w19, kI_20, kI_w20, kI_21, kI_w21, kI_22, kI_w22, kI_23, kI_w23, g1.atT hc, g1.atW hc, g1.R0 (g1.V1 hc), z, ex_ite, exists_and_left, exists_const, exists_and_right, eL, kSh]
    · obtain ⟨k, hk, he⟩ : ∃ k, k < N 0 ∧ s 1 cur = nI k := by
        rcases hG.out hc with y | y
        · rw [y] at z; exact absurd (by decide) z
        · exact y
      have k1 : k < 2147483648 := by omega
      have hrk := (R cur hc).2 k hk he
      have eL : kLl s ex (f + 1) cur = kLs s ex cur :: kLl s ex f k := by
        show (if s 1 cur < 0 then _ else _) = _
        rw [if_neg z, he, ix_nat k1]
      by_cases y : s 1 k < 0
      · have eL2 : kLl s ex f k = [] := by
          cases f with
          | zero => rfl
          | succ f => unfold kLl; rw [if_pos y]
        rw [eL, eL2]
        simp only [vb_X5_shareOf_17, mq_tag, mq_len, mq_i, mq_r, mq_l, mq_nx, mq_wi, mq_wr, mq_wl, true_and, and_true, and_false, false_and, and_self, ↓reduceIte, kT_0, kT_1, kT_2, kT_3, kT_4, kT_5, kT_6, kT_7, kT_8, kT_9, kT_10, kT_11, kT_12, kT_13, kT_14, kT_15, kT_16, kT_17, kT_18, kT_19, kT_20, kT_21, kT_22, kT_23, kL_2, kL_3, kL_5, kL_10, kL_11, kL_12, kL_14, kL_15, kL_17, kL_18, kL_19, kL_20, kL_21, kL_22, kL_23, kW_0_0, kW_0_1, kW_0_2, kW_0_3, kW_0_4, kW_0_5, kW_0_6, kW_0_7, kW_1_4, kW_1_5, kW_4_0, kW_4_1, kW_9_0, kW_9_1, kW_9_2, kW_13_0, kW_13_1, kW_16_0, kW_16_1, kW_16_2, kW_16_3, kW_16_4, kW_16_5, kW_1_1, kW_1_2, kW_4_4, kW_8_0, kW_8_1, kW_w1_1, kW_w1_2, kW_w4_4, kW_w8_0, kW_w8_1, kI_0, kI_w0, kI_1, kI_w1, kI_2, kI_w2, kI_3, kI_w3, kI_4, kI_w4, kI_5, kI_w5, kI_6, kI_w6, kI_7, kI_w7, kI_8, kI_w8, kI_9, kI_w9, kI_10, kI_w10, kI_11, kI_w11, kI_12, kI_w12, kI_13, kI_w13, kI_14, kI_w14, kI_15, kI_w15, kI_16, kI_w16, kI_17, kI_w17, kI_18, kI_w18, kI_19, kI_w19, kI_20, kI_w20, kI_21, kI_w21, kI_22, kI_w22, kI_23, kI_w23, g1.atT hc, g1.atW hc, he, kR_I k1, show (A k = 0) = False from g1.H0 hk, g1.atT hk, g1.atW hk, g1.R0 (g1.V1 hk), y, ex_ite, exists_and_left, exists_const, exists_and_right, kSh]
      · obtain ⟨m, hm, hme⟩ : ∃ m, m < N 0 ∧ s 1 k = nI m := by
          rcases hG.out hk with y' | y'
          · rw [y'] at y; exact absurd (by decide) y
          · exact y'
        obtain ⟨f0, rfl⟩ : ∃ f0, f = f0 + 1 := ⟨f - 1, by omega⟩
        have eL2 : kLl s ex (f0 + 1) k = kLs s ex k :: kLl s ex f0 m := by
          show (if s 1 k < 0 then _ else _) = _
          rw [if_neg y, hme, ix_nat (by omega)]
        have CL := fun post => c_loss (q := q) (g := g) (w := w) hG hc hk he (post := post)
        rw [y7] at CL
        have I := fun j rest hj => cl_share hG R y7 y8 y9 hT (post := post) (f0 + 1) k j (k0 + 1) rest hk (by omega) hj
        have eP : (if 0 < T then kLs s ex cur + (lf * kLs s ex cur) / T else kLs s ex cur) = kLs s ex cur + kP1 T lf (kLs s ex cur) := by
          unfold kP1
          have e0 : (0 : Int64).toInt = 0 := by decide
          by_cases w0 : T = 0
          · rw [if_neg (by rw [w0]; decide), if_pos w0, Int64.add_zero]
          · rw [if_pos (by rw [l_lt, e0]; have : T.toInt ≠ 0 := fun h => w0 (l_eq.mpr (by rw [h, e0]))
                           omega), if_neg w0]
        have e1 : (nI k0 = nI (k0 + j)) = (j = 0) := by rw [ix_eq (by omega) (by omega)]; exact propext (by omega)
        have G : ∀ v : Int64, v = kLs s ex cur + kP1 T lf (kLs s ex cur) → (if j = 0 then post v (kT B t, kL B l, kI B i c s, kW B r u, kI B q g w, x) else ∃ fe, vb_X5_shareOf_17 post fe (B + 9) (nI (k0 + j)) (s 0 0) (rest - v) (nI (k0 + 1)) (A k) (kT B t, kL B l, kI B i c s, kW B r u, kI B q g w, x)) = post (kSh T lf (kLs s ex cur :: kLl s ex (f0 + 1) k) j rest) (kT B t, kL B l, kI B i c s, kW B r u, kI B q g w, x) := by
          intro v hv
          rw [eL2]
          cases j with
          | zero => rw [if_pos rfl, hv]; rfl
          | succ j =>
            rw [if_neg (by omega), hv, show k0 + (j + 1) = k0 + 1 + j by omega, I j _ (by omega), eL2]; rfl
        rw [eL]
        by_cases w0 : 0 < T
        · have T0 : ¬ T = 0 := fun h => by rw [h] at w0; exact absurd w0 (by decide)
          rw [if_pos w0] at eP
          simp only [vb_X5_shareOf_17, vb_X5_shareOf_74, mq_tag, mq_len, mq_i, mq_r, mq_l, mq_nx, mq_wi, mq_wr, mq_wl, true_and, and_true, and_false, false_and, and_self, ↓reduceIte, kT_0, kT_1, kT_2, kT_3, kT_4, kT_5, kT_6, kT_7, kT_8, kT_9, kT_10, kT_11, kT_12, kT_13, kT_14, kT_15, kT_16, kT_17, kT_18, kT_19, kT_20, kT_21, kT_22, kT_23, kL_2, kL_3, kL_5, kL_10, kL_11, kL_12, kL_14, kL_15, kL_17, kL_18, kL_19, kL_20, kL_21, kL_22, kL_23, kW_0_0, kW_0_1, kW_0_2, kW_0_3, kW_0_4, kW_0_5, kW_0_6, kW_0_7, kW_1_4, kW_1_5, kW_4_0, kW_4_1, kW_9_0, kW_9_1, kW_9_2, kW_13_0, kW_13_1, kW_16_0, kW_16_1, kW_16_2, kW_16_3, kW_16_4, kW_16_5, kW_1_1, kW_1_2, kW_4_4, kW_8_0, kW_8_1, kW_w1_1, kW_w1_2, kW_w4_4, kW_w8_0, kW_w8_1, kI_0, kI_w0, kI_1, kI_w1, kI_2, kI_w2, kI_3, kI_w3, kI_4, kI_w4, kI_5, kI_w5, kI_6, kI_w6, kI_7, kI_w7, kI_8, kI_w8, kI_9, kI_w9, kI_10, kI_w10, kI_11, kI_w11, kI_12, kI_w12, kI_13, kI_w13, kI_14, kI_w14, kI_15, kI_w15, kI_16, kI_w16, kI_17, kI_w17, kI_18, kI_w18, kI_19, kI_w19, kI_20, kI_w20, kI_21, kI_w21, kI_22, kI_w22, kI_23, kI_w23, g1.atT hc, g1.atW hc, he, kR_I k1, show (A k = 0) = False from g1.H0 hk, g1.atT hk, g1.atW hk, g1.R0 (g1.V1 hk), y, CL, y8, y9, ix_cmp2, w0, T0, not_false_eq_true, e1, nI_1, ex_ite, exists_and_left, exists_const, exists_and_right]
          exact G _ eP
        · rw [if_neg w0] at eP
          simp only [vb_X5_shareOf_17, vb_X5_shareOf_74, mq_tag, mq_len, mq_i, mq_r, mq_l, mq_nx, mq_wi, mq_wr, mq_wl, true_and, and_true, and_false, false_and, and_self, ↓reduceIte, kT_0, kT_1, kT_2, kT_3, kT_4, kT_5, kT_6, kT_7, kT_8, kT_9, kT_10, kT_11, kT_12, kT_13, kT_14, kT_15, kT_16, kT_17, kT_18, kT_19, kT_20, kT_21, kT_22, kT_23, kL_2, kL_3, kL_5, kL_10, kL_11, kL_12, kL_14, kL_15, kL_17, kL_18, kL_19, kL_20, kL_21, kL_22, kL_23, kW_0_0, kW_0_1, kW_0_2, kW_0_3, kW_0_4, kW_0_5, kW_0_6, kW_0_7, kW_1_4, kW_1_5, kW_4_0, kW_4_1, kW_9_0, kW_9_1, kW_9_2, kW_13_0, kW_13_1, kW_16_0, kW_16_1, kW_16_2, kW_16_3, kW_16_4, kW_16_5, kW_1_1, kW_1_2, kW_4_4, kW_8_0, kW_8_1, kW_w1_1, kW_w1_2, kW_w4_4, kW_w8_0, kW_w8_1, kI_0, kI_w0, kI_1, kI_w1, kI_2, kI_w2, kI_3, kI_w3, kI_4, kI_w4, kI_5, kI_w5, kI_6, kI_w6, kI_7, kI_w7, kI_8, kI_w8, kI_9, kI_w9, kI_10, kI_w10, kI_11, kI_w11, kI_12, kI_w12, kI_13, kI_w13, kI_14, kI_w14, kI_15, kI_w15, kI_16, kI_w16, kI_17, kI_w17, kI_18, kI_w18, kI_19, kI_w19, kI_20, kI_w20, kI_21, kI_w21, kI_22, kI_w22, kI_23, kI_w23, g1.atT hc, g1.atW hc, he, kR_I k1, show (A k = 0) = False from g1.H0 hk, g1.atT hk, g1.atW hk, g1.R0 (g1.V1 hk), y, CL, y8, y9, ix_cmp2, w0, e1, nI_1, ex_ite, exists_and_left, exists_const, exists_and_right]
          exact G _ eP
def kPw (w : Nat → Nat → Int64) (k : Nat) : Int64 := kP1 (w 0 46) (w 0 48) (w 44 k)
def kRs (w : Nat → Nat → Int64) : Nat → Nat → Int64 → Int64
  | 0, _, v => v
  | m + 1, k, v => kRs w m (k + 1) (v - kPw w k)
theorem m_part {k : Nat} (hk : k < 40) {post : Int64 → mj_M → Prop} : vc_X12_partOf (B + 24) (nI k) (kT B t, kL B l, kI B i c s, kW B r u, kI B q g w, x) post = post (kPw w k) (kT B t, kL B l, kI B i c s, kW B r u, kI B q g w, x) := by
  have k1 : k < 2147483648 := by omega
  simp only [vc_X12_partOf, mq_tag, mq_len, mq_i, mq_r, mq_l, mq_nx, mq_wi, mq_wr, mq_wl, true_and, and_true, and_false, false_and, and_self, ↓reduceIte, kT_24, kT_25, kT_26, kT_27, kT_28, kT_29, kT_30, kT_31, kT_32, kT_33, kT_34, kT_35, kT_36, kT_37, kT_38, kT_39, kT_40, kT_41, kT_42, kT_43, kT_44, kT_45, kT_46, kT_47, kT_48, kT_49, kT_50, kT_51, kT_52, kT_53, kT_54, kT_55, kT_56, kT_57, kT_58, kT_59, kT_60, kT_61, kL_25, kL_26, kL_27, kL_28, kL_29, kL_30, kL_31, kL_32, kL_33, kL_34, kL_35, kL_36, kL_37, kL_38, kL_39, kL_40, kL_41, kL_42, kL_43, kL_44, kL_45, kL_46, kL_47, kL_48, kL_49, kL_50, kL_51, kL_52, kL_53, kL_54, kL_55, kL_56, kL_57, kL_58, kL_59, kL_60, kL_61, kW_24_1, kW_24_2, kW_24_3, kW_24_4, kW_24_5, kW_24_6, kW_24_7, kW_24_8, kW_24_9, kW_24_10, kW_24_11, kW_24_12, kW_24_14, kW_24_15, kW_24_16, kW_24_17, kW_24_18, kW_24_19, kW_24_21, kW_24_22, kW_24_23, kW_24_25, kW_24_26, kW_24_27, kW_24_28, kW_24_29, kW_24_31, kW_24_32, kW_24_33, kW_24_34, kW_24_36, kW_24_37, kW_24_44, kW_24_49, kW_24_50, kW_24_51, kW_24_52, kI_24, kI_w24, kI_25, kI_w25, kI_26, kI_w26, kI_27, kI_w27, kI_28, kI_w28, kI_29, kI_w29, kI_30, kI_w30, kI_31, kI_w31, kI_32, kI_w32, kI_33, kI_w33, kI_34, kI_w34, kI_35, kI_w35, kI_36, kI_w36, kI_37, kI_w37, kI_38, kI_w38, kI_39, kI_w39, kI_40, kI_w40, kI_41, kI_w41, kI_42, kI_w42, kI_43, kI_w43, kI_44, kI_w44, kI_45, kI_w45, kI_46, kI_w46, kI_47, kI_w47, kI_48, kI_w48, kI_49, kI_w49, kI_50, kI_w50, kI_51, kI_w51, kI_52, kI_w52, kI_53, kI_w53, kI_54, kI_w54, kI_55, kI_w55, kI_56, kI_w56, kI_57, kI_w57, kI_58, kI_w58, kI_59, kI_w59, kI_60, kI_w60, kI_61, kI_w61, ix_cmp0, ix_in k1, ix_nat k1, hk, kPw, kP1]
  by_cases z : w 0 46 = 0 <;> simp only [z, not_false_eq_true, true_and, ↓reduceIte]
theorem ml_share {cnt j : Nat} (h45 : s 0 45 = nI cnt) (hc : cnt ≤ 40) (hj : j < cnt) {post : Int64 → mj_M → Prop} : ∀ (m k : Nat) (rest : Int64), k + m = cnt → (∃ fe, vb_X12_share_61 post fe (B + 24) (nI j) rest (nI k) (kT B t, kL B l, kI B i c s, kW B r u, kI B q g w, x)) = post (w 44 j + kPw w j + if j + 1 = cnt then kRs w m k rest else 0) (kT B t, kL B l, kI B i c s, kW B r u, kI B q g w, x)
  | 0, k, rest, hk => by
    have j1 : j < 2147483648 := by omega
    have e : (nI j = nI cnt - 1) = (j + 1 = cnt) := by rw [ix_sub1 (by omega), ix_eq j1 (by omega)]; exact propext (by omega)
    rw [ex_succ rfl]
    simp only [vb_X12_share_61, mq_tag, mq_len, mq_i, mq_r, mq_l, mq_nx, mq_wi, mq_wr, mq_wl, true_and, and_true, and_false, false_and, and_self, ↓reduceIte, kT_24, kT_25, kT_26, kT_27, kT_28, kT_29, kT_30, kT_31, kT_32, kT_33, kT_34, kT_35, kT_36, kT_37, kT_38, kT_39, kT_40, kT_41, kT_42, kT_43, kT_44, kT_45, kT_46, kT_47, kT_48, kT_49, kT_50, kT_51, kT_52, kT_53, kT_54, kT_55, kT_56, kT_57, kT_58, kT_59, kT_60, kT_61, kL_25, kL_26, kL_27, kL_28, kL_29, kL_30, kL_31, kL_32, kL_33, kL_34, kL_35, kL_36, kL_37, kL_38, kL_39, kL_40, kL_41, kL_42, kL_43, kL_44, kL_45, kL_46, kL_47, kL_48, kL_49, kL_50, kL_51, kL_52, kL_53, kL_54, kL_55, kL_56, kL_57, kL_58, kL_59, kL_60, kL_61, kW_24_1, kW_24_2, kW_24_3, kW_24_4, kW_24_5, kW_24_6, kW_24_7, kW_24_8, kW_24_9, kW_24_10, kW_24_11, kW_24_12, kW_24_14, kW_24_15, kW_24_16, kW_24_17, kW_24_18, kW_24_19, kW_24_21, kW_24_22, kW_24_23, kW_24_25, kW_24_26, kW_24_27, kW_24_28, kW_24_29, kW_24_31, kW_24_32, kW_24_33, kW_24_34, kW_24_36, kW_24_37, kW_24_44, kW_24_49, kW_24_50, kW_24_51, kW_24_52, kI_24, kI_w24, kI_25, kI_w25, kI_26, kI_w26, kI_27, kI_w27, kI_28, kI_w28, kI_29, kI_w29, kI_30, kI_w30, kI_31, kI_w31, kI_32, kI_w32, kI_33, kI_w33, kI_34, kI_w34, kI_35, kI_w35, kI_36, kI_w36, kI_37, kI_w37, kI_38, kI_w38, kI_39, kI_w39, kI_40, kI_w40, kI_41, kI_w41, kI_42, kI_w42, kI_43, kI_w43, kI_44, kI_w44, kI_45, kI_w45, kI_46, kI_w46, kI_47, kI_w47, kI_48, kI_w48, kI_49, kI_w49, kI_50, kI_w50, kI_51, kI_w51, kI_52, kI_w52, kI_53, kI_w53, kI_54, kI_w54, kI_55, kI_w55, kI_56, kI_w56, kI_57, kI_w57, kI_58, kI_w58, kI_59, kI_w59, kI_60, kI_w60, kI_61, kI_w61, h45, ix_le (show cnt < 2147483648 by omega) (show k < 2147483648 by omega), show cnt ≤ k by omega, ix_in j1, ix_nat j1, show j < 40 by omega, m_part (show j < 40 by omega), e, ex_ite, exists_and_left, exists_const, exists_and_right, kRs]
    split <;> rfl
  | m + 1, k, rest, hk => by
    have I := fun rest => ml_share h45 hc hj (post := post) m (k + 1) rest (by omega)
    rw [ex_succ rfl]
    simp only [vb_X12_share_61, mq_tag, mq_len, mq_i, mq_r, mq_l, mq_nx, mq_wi, mq_wr, mq_wl, true_and, and_true, and_false, false_and, and_self, ↓reduceIte, kT_24, kT_25, kT_26, kT_27, kT_28, kT_29, kT_30, kT_31, kT_32, kT_33, kT_34, kT_35, kT_36, kT_37, kT_38, kT_39, kT_40, kT_41, kT_42, kT_43, kT_44, kT_45, kT_46, kT_47, kT_48, kT_49, kT_50, kT_51, kT_52, kT_53, kT_54, kT_55, kT_56, kT_57, kT_58, kT_59, kT_60, kT_61, kL_25, kL_26, kL_27, kL_28, kL_29, kL_30, kL_31, kL_32, kL_33, kL_34, kL_35, kL_36, kL_37, kL_38, kL_39, kL_40, kL_41, kL_42, kL_43, kL_44, kL_45, kL_46, kL_47, kL_48, kL_49, kL_50, kL_51, kL_52, kL_53, kL_54, kL_55, kL_56, kL_57, kL_58, kL_59, kL_60, kL_61, kW_24_1, kW_24_2, kW_24_3, kW_24_4, kW_24_5, kW_24_6, kW_24_7, kW_24_8, kW_24_9, kW_24_10, kW_24_11, kW_24_12, kW_24_14, kW_24_15, kW_24_16, kW_24_17, kW_24_18, kW_24_19, kW_24_21, kW_24_22, kW_24_23, kW_24_25, kW_24_26, kW_24_27, kW_24_28, kW_24_29, kW_24_31, kW_24_32, kW_24_33, kW_24_34, kW_24_36, kW_24_37, kW_24_44, kW_24_49, kW_24_50, kW_24_51, kW_24_52, kI_24, kI_w24, kI_25, kI_w25, kI_26, kI_w26, kI_27, kI_w27, kI_28, kI_w28, kI_29, kI_w29, kI_30, kI_w30, kI_31, kI_w31, kI_32, kI_w32, kI_33, kI_w33, kI_34, kI_w34, kI_35, kI_w35, kI_36, kI_w36, kI_37, kI_w37, kI_38, kI_w38, kI_39, kI_w39, kI_40, kI_w40, kI_41, kI_w41, kI_42, kI_w42, kI_43, kI_w43, kI_44, kI_w44, kI_45, kI_w45, kI_46, kI_w46, kI_47, kI_w47, kI_48, kI_w48, kI_49, kI_w49, kI_50, kI_w50, kI_51, kI_w51, kI_52, kI_w52, kI_53, kI_w53, kI_54, kI_w54, kI_55, kI_w55, kI_56, kI_w56, kI_57, kI_w57, kI_58, kI_w58, kI_59, kI_w59, kI_60, kI_w60, kI_61, kI_w61, h45, ix_le (show cnt < 2147483648 by omega) (show k < 2147483648 by omega), show ¬ cnt ≤ k by omega, m_part (show k < 40 by omega), nI_1, ex_ite, exists_and_left, exists_const, exists_and_right, kRs]
    exact I _
theorem kRs_eq {T lf : Int64} (h46 : w 0 46 = T) (h48 : w 0 48 = lf) : ∀ (L : List Int64) (k : Nat) (v : Int64), (∀ j (hj : j < L.length), w 44 (k + j) = L[j]) → kRs w L.length k v = v - kSu (L.map (kP1 T lf)) 0
  | [], k, v, _ => by
    show v = v - 0
    rw [Int64.sub_zero]
  | x :: L, k, v, h => by
    have h0 := h 0 (by simp)
    have I := kRs_eq h46 h48 L (k + 1) (v - kPw w k) (fun j hj => by
      have := h (j + 1) (by simpa using hj)
      rw [show k + 1 + j = k + (j + 1) by omega, this]; rfl)
    show kRs w L.length (k + 1) (v - kPw w k) = _
    rw [I, List.map_cons, kSu_0]
    have : kPw w k = kP1 T lf x := by unfold kPw; rw [h46, h48]; rw [Nat.add_zero] at h0; rw [h0]; rfl
    rw [this]
    exact l_t3
theorem m_fpr (hG : kG B A AA AT AN N c s t l i r u x) {rk : Nat → Nat} (R : ∀ h, h < N 0 → rk h < N 0 ∧ ∀ k, k < N 0 → s 1 h = nI k → rk k < rk h) {h : Nat} (hh : h < N 0) {post : Unit → mj_M → Prop}
    (hp : ∀ w' : Nat → Nat → Int64, w' 0 46 = kSu (kLl s (kEx s (N 4) h) (N 0) h) 0 → w' 0 47 = kMa s (N 4) h → w' 0 48 = kLe (kMa s (N 4) h) (kSu (kLl s (kEx s (N 4) h) (N 0) h) 0) → (∀ j (hj : j < (kLl s (kEx s (N 4) h) (N 0) h).length), w' 44 j = (kLl s (kEx s (N 4) h) (N 0) h)[j]) → post () (kT B t, kL B l, kI B i c (mj_u2 s 0 45 (nI (kLl s (kEx s (N 4) h) (N 0) h).length)), kW B r u, kI B q g w', x)) :
    vc_X12_findPrice (B + 24) (nI h) (kT B t, kL B l, kI B i c s, kW B r u, kI B q g w, x) post := by
  obtain ⟨g1, g2, g3, g4, g5, g6, g7, g8, g9, g10⟩ := id hG
  have h40 := hG.n40
  have h1 : h < 2147483648 := by omega
  simp only [vc_X12_findPrice, mq_tag, mq_len, mq_i, mq_r, mq_l, mq_nx, mq_wi, mq_wr, mq_wl, true_and, and_true, and_false, false_and, and_self, ↓reduceIte, kT_24, kT_25, kT_26, kT_27, kT_28, kT_29, kT_30, kT_31, kT_32, kT_33, kT_34, kT_35, kT_36, kT_37, kT_38, kT_39, kT_40, kT_41, kT_42, kT_43, kT_44, kT_45, kT_46, kT_47, kT_48, kT_49, kT_50, kT_51, kT_52, kT_53, kT_54, kT_55, kT_56, kT_57, kT_58, kT_59, kT_60, kT_61, kL_25, kL_26, kL_27, kL_28, kL_29, kL_30, kL_31, kL_32, kL_33, kL_34, kL_35, kL_36, kL_37, kL_38, kL_39, kL_40, kL_41, kL_42, kL_43, kL_44, kL_45, kL_46, kL_47, kL_48, kL_49, kL_50, kL_51, kL_52, kL_53, kL_54, kL_55, kL_56, kL_57, kL_58, kL_59, kL_60, kL_61, kW_24_1, kW_24_2, kW_24_3, kW_24_4, kW_24_5, kW_24_6, kW_24_7, kW_24_8, kW_24_9, kW_24_10, kW_24_11, kW_24_12, kW_24_14, kW_24_15, kW_24_16, kW_24_17, kW_24_18, kW_24_19, kW_24_21, kW_24_22, kW_24_23, kW_24_25, kW_24_26, kW_24_27, kW_24_28, kW_24_29, kW_24_31, kW_24_32, kW_24_33, kW_24_34, kW_24_36, kW_24_37, kW_24_44, kW_24_49, kW_24_50, kW_24_51, kW_24_52, kI_24, kI_w24, kI_25, kI_w25, kI_26, kI_w26, kI_27, kI_w27, kI_28, kI_w28, kI_29, kI_w29, kI_30, kI_w30, kI_31, kI_w31, kI_32, kI_w32, kI_33, kI_w33, kI_34, kI_w34, kI_35, kI_w35, kI_36, kI_w36, kI_37, kI_w37, kI_38, kI_w38, kI_39, kI_w39, kI_40, kI_w40, kI_41, kI_w41, kI_42, kI_w42, kI_43, kI_w43, kI_44, kI_w44, kI_45, kI_w45, kI_46, kI_w46, kI_47, kI_w47, kI_48, kI_w48, kI_49, kI_w49, kI_50, kI_w50, kI_51, kI_w51, kI_52, kI_w52, kI_53, kI_w53, kI_54, kI_w54, kI_55, kI_w55, kI_56, kI_w56, kI_57, kI_w57, kI_58, kI_w58, kI_59, kI_w59, kI_60, kI_w60, kI_61, kI_w61, ix_in h1, ix_nat h1, show h < 40 by omega, m_years hG hh, m_worth g5, mq_u2n, ne_eq, Nat.reduceEqDiff, not_false_eq_true]
  have F := ml_fpr (t2 := t) (l2 := l) (u2 := u) (i2 := i) (c' := c) (r2 := r) (q2 := q) (g2 := g) (x2 := x) hG R hh (post := post) (N 0) h 0 (mj_u2 (mj_u2 w 0 47 (kMa s (N 4) h)) 0 46 0) hh (R h hh).1 (by have := (R h hh).1; omega) (fun w' a1 a2 a3 a4 a5 => by
    have e46 : mj_u2 (mj_u2 w 0 47 (kMa s (N 4) h)) 0 46 0 0 46 = 0 := mq_u2s
    have e47 : mj_u2 (mj_u2 w 0 47 (kMa s (N 4) h)) 0 46 0 0 47 = kMa s (N 4) h := by simp [mq_u2]
    rw [e46] at a1 a3; rw [e47] at a2 a3
    have := hp w' a1 a2 a3 (fun j hj => by have := a5 j hj; rw [Nat.zero_add] at this; exact this)
    rw [Nat.zero_add]; exact this)
  rw [nI_0] at F; exact F
end

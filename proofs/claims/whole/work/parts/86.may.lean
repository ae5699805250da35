/-! STAGE B: who may buy -/
def kLo (s : Nat → Nat → Int32) (n : Nat) (f d : Int32) : Option Nat := kLst (fun h => kFind (kNx s (nI h) f d) n 0) n none (kFind (kNx s (-1) f d) n 0)
def kJo (s : Nat → Nat → Int32) (na n k f : Nat) : Option Nat := if khf s k (nI f) = true then (match kLo s n (nI f) (s 0 0) with | none => none | some y => if s 1 y < 0 then none else if kRi s na y 3 (s 0 0) = 1 then some (s 7 y).toNatClampNeg else none) else none
def kCt (P : Nat → Bool) : Nat → Nat → Nat
  | 0, _ => 0
  | m + 1, k => (if P k = true then 1 else 0) + kCt P m (k + 1)
def kSm (F : Nat → Nat) : Nat → Nat → Nat
  | 0, _ => 0
  | m + 1, k => F k + kSm F m (k + 1)
def kJb (P : Nat → Bool) : Nat → Nat → Int32 → Int32
  | 0, _, v => v
  | m + 1, k, v => kJb P m (k + 1) (if P k = true then v ||| (1 <<< (nI k &&& 31)) else v)
theorem kCt_succ {P : Nat → Bool} : ∀ (m k : Nat), kCt P (m + 1) k = kCt P m k + if P (k + m) = true then 1 else 0
  | 0, k => by simp [kCt]
  | m + 1, k => by
    have I := kCt_succ (P := P) m (k + 1)
    show (if P k = true then 1 else 0) + kCt P (m + 1) (k + 1) = ((if P k = true then 1 else 0) + kCt P m (k + 1)) + _
    rw [I, show k + 1 + m = k + (m + 1) by omega]; omega
theorem kCt_congr {P Q : Nat → Bool} : ∀ (m k : Nat), (∀ j, k ≤ j → j < k + m → P j = Q j) → kCt P m k = kCt Q m k
  | 0, _, _ => rfl
  | m + 1, k, h => by
    show _ + _ = _ + _
    rw [h k (Nat.le_refl _) (by omega), kCt_congr m (k + 1) fun j a b => h j (by omega) (by omega)]
theorem kCt_le {P : Nat → Bool} : ∀ (m k : Nat), kCt P m k ≤ m
  | 0, _ => Nat.le_refl _
  | m + 1, k => by have := kCt_le (P := P) m (k + 1); unfold kCt; split <;> omega
theorem kSm_add {F G : Nat → Nat} : ∀ (m k : Nat), kSm (fun p => F p + G p) m k = kSm F m k + kSm G m k
  | 0, _ => rfl
  | m + 1, k => by have := kSm_add (F := F) (G := G) m (k + 1); simp only [kSm]; omega
theorem kSm_congr {F G : Nat → Nat} : ∀ (m k : Nat), (∀ j, k ≤ j → j < k + m → F j = G j) → kSm F m k = kSm G m k
  | 0, _, _ => rfl
  | m + 1, k, h => by
    show _ + _ = _ + _
    rw [h k (Nat.le_refl _) (by omega), kSm_congr m (k + 1) fun j a b => h j (by omega) (by omega)]
def kGq (G : Nat → Option Nat) (Q : Nat → Bool) (f : Nat) : Bool := match G f with | none => false | some p => Q p
/-- counted by persons or by floors -/
theorem kSm_ct {G : Nat → Option Nat} {Q : Nat → Bool} (hG : ∀ f p, G f = some p → p < 10) : ∀ (m k : Nat), kSm (fun p => if Q p = true then kCt (fun f => decide (G f = some p)) m k else 0) 10 0 = kCt (kGq G Q) m k
  | 0, k => by
    have : kSm (fun p => if Q p = true then kCt (fun f => decide (G f = some p)) 0 k else 0) 10 0 = kSm (fun _ => 0) 10 0 := kSm_congr 10 0 fun j _ _ => by unfold kCt; split <;> rfl
    rw [this]; rfl
  | m + 1, k => by
    have I := kSm_ct (Q := Q) hG m (k + 1)
    have e : kSm (fun p => if Q p = true then kCt (fun f => decide (G f = some p)) (m + 1) k else 0) 10 0 = kSm (fun p => (if Q p = true then (if G k = some p then 1 else 0) else 0) + (if Q p = true then kCt (fun f => decide (G f = some p)) m (k + 1) else 0)) 10 0 := kSm_congr 10 0 fun j _ _ => by
      by_cases z : Q j = true
      · rw [if_pos z, if_pos z, if_pos z]; show (if decide (G k = some j) = true then 1 else 0) + _ = _; simp only [decide_eq_true_eq]
      · rw [if_neg z, if_neg z, if_neg z]
    rw [e, kSm_add, I]
    show _ = (if kGq G Q k = true then 1 else 0) + kCt (kGq G Q) m (k + 1)
    congr 1
    cases hk : G k with
    | none => simp [kSm, kGq, hk]
    | some p =>
      have p10 := hG k p hk
      simp only [kGq, hk, Option.some.injEq]
      obtain rfl | rfl | rfl | rfl | rfl | rfl | rfl | rfl | rfl | rfl : p = 0 ∨ p = 1 ∨ p = 2 ∨ p = 3 ∨ p = 4 ∨ p = 5 ∨ p = 6 ∨ p = 7 ∨ p = 8 ∨ p = 9 := by omega
      all_goals simp [kSm]
/-- a mask's ones -/
theorem kJb_congr {P Q : Nat → Bool} : ∀ (m k : Nat) (v : Int32), (∀ j, k ≤ j → j < k + m → P j = Q j) → kJb P m k v = kJb Q m k v
  | 0, _, _, _ => rfl
  | m + 1, k, v, h => by
    unfold kJb
    rw [h k (Nat.le_refl _) (by omega), kJb_congr m (k + 1) _ fun j a b => h j (by omega) (by omega)]
theorem bits_of (P : Nat → Bool) : ∀ m, ∃ n, n < 2 ^ m ∧ ∀ f, f < m → n.testBit f = P f
  | 0 => ⟨0, by decide, fun f h => by omega⟩
  | m + 1 => by
    obtain ⟨n, h1, h2⟩ := bits_of P m
    refine ⟨2 ^ m * (P m).toNat + n, ?_, fun f hf => ?_⟩
    · rw [Nat.pow_succ]; cases P m <;> simp <;> omega
    · rw [Nat.testBit_two_pow_mul_add _ h1]
      by_cases z : f < m
      · rw [if_pos z]; exact h2 f z
      · have : f = m := by omega
        subst this
        rw [if_neg z, Nat.sub_self]; cases P f <;> rfl
set_option maxRecDepth 100000 in
theorem kJb_on : ∀ n : Fin 4096, kOn (kJb (fun f => n.val.testBit f) 12 0 0) = nI (kCt (fun f => n.val.testBit f) 12 0) := by decide +kernel
theorem kJb_ones (P : Nat → Bool) : kOn (kJb P 12 0 0) = nI (kCt P 12 0) := by
  obtain ⟨n, h1, h2⟩ := bits_of P 12
  have := kJb_on ⟨n, h1⟩
  rw [kJb_congr (Q := P) 12 0 0 fun j _ b => h2 j (by omega), kCt_congr (Q := P) 12 0 fun j _ b => h2 j (by omega)] at this
  exact this
def kFil (c : Nat → Nat → Int32) (k : Nat) : Nat → Nat → Int32 := fun j p => if j = 23 ∧ k ≤ p ∧ p < 10 then 0 else c j p
def kBu (a b : Nat) (v : Int32) : Bool := if 3 * nI a < 2 * v then false else if 2 * nI b < v then false else true
def kQ (v : Int32) (p : Nat) : Bool := decide ((v >>> (nI p &&& 31)) &&& 1 = 1)
section
variable {B : Nat} {A AA AT AN N t l u : Nat → Nat} {i c s : Nat → Nat → Int32} {r : Nat → Nat → Nat} {q g w : Nat → Nat → Int64} {x : Nat}
theorem cl_fil {post : Unit → mj_M → Prop} : ∀ (m k : Nat) (c : Nat → Nat → Int32), k + m = 10 → (∃ fe, vb_J7_fill_53178_5 post fe (B + 23) 0 (nI k) 10 (kT B t, kL B l, kI B i c s, kW B r u, kI B q g w, x)) = post () (kT B t, kL B l, kI B i (kFil c k) s, kW B r u, kI B q g w, x)
  | 0, k, c, hk => by
    have e : kFil c k = c := by funext j p; unfold kFil; rw [if_neg (by omega)]
    rw [ex_succ rfl, e]
    simp only [vb_J7_fill_53178_5, show (10 : Int32) = nI 10 by decide, ix_le (show 10 < 2147483648 by decide) (show k < 2147483648 by omega), show 10 ≤ k by omega, ex_ite, exists_and_left, exists_const, exists_and_right, ↓reduceIte]
  | m + 1, k, c, hk => by
    have e : kFil c k = kFil (mj_u2 c 23 k 0) (k + 1) := by
      funext j p; unfold kFil
      by_cases z : j = 23 ∧ p = k
      · rw [if_pos (by omega), if_neg (by omega), z.1, z.2, mq_u2s]
      · have e1 : mj_u2 c 23 k 0 j p = c j p := by
          by_cases y : j = 23
          · subst y; exact mq_u2k fun w => z ⟨rfl, w⟩
          · exact mq_u2n y
        rw [e1]
        by_cases y : j = 23 ∧ k + 1 ≤ p ∧ p < 10
        · rw [if_pos (by omega), if_pos y]
        · rw [if_neg (by omega), if_neg y]
    have I := cl_fil (post := post) m (k + 1) (mj_u2 c 23 k 0) (by omega)
    rw [ex_succ rfl, e]
    simp only [vb_J7_fill_53178_5, mq_tag, mq_len, mq_i, mq_r, mq_l, mq_nx, mq_wi, mq_wr, mq_wl, true_and, and_true, and_false, false_and, and_self, ↓reduceIte, kT_0, kT_1, kT_2, kT_3, kT_4, kT_5, kT_6, kT_7, kT_8, kT_9, kT_10, kT_11, kT_12, kT_13, kT_14, kT_15, kT_16, kT_17, kT_18, kT_19, kT_20, kT_21, kT_22, kT_23, kL_2, kL_3, kL_5, kL_10, kL_11, kL_12, kL_14, kL_15, kL_17, kL_18, kL_19, kL_20, kL_21, kL_22, kL_23, kW_0_0, kW_0_1, kW_0_2, kW_0_3, kW_0_4, kW_0_5, kW_0_6, kW_0_7, kW_1_4, kW_1_5, kW_4_0, kW_4_1, kW_9_0, kW_9_1, kW_9_2, kW_13_0, kW_13_1, kW_16_0, kW_16_1, kW_16_2, kW_16_3, kW_16_4, kW_16_5, kW_1_1, kW_1_2, kW_4_4, kW_8_0, kW_8_1, kW_w1_1, kW_w1_2, kW_w4_4, kW_w8_0, kW_w8_1, kI_0, kI_w0, kI_1, kI_w1, kI_2, kI_w2, kI_3, kI_w3, kI_4, kI_w4, kI_5, kI_w5, kI_6, kI_w6, kI_7, kI_w7, kI_8, kI_w8, kI_9, kI_w9, kI_10, kI_w10, kI_11, kI_w11, kI_12, kI_w12, kI_13, kI_w13, kI_14, kI_w14, kI_15, kI_w15, kI_16, kI_w16, kI_17, kI_w17, kI_18, kI_w18, kI_19, kI_w19, kI_20, kI_w20, kI_21, kI_w21, kI_22, kI_w22, kI_23, kI_w23, show (10 : Int32) = nI 10 by decide, ix_le (show 10 < 2147483648 by decide) (show k < 2147483648 by omega), show ¬ 10 ≤ k by omega, ix_in (show k < 2147483648 by omega), ix_nat (show k < 2147483648 by omega), show k < 10 by omega, nI_1, ex_ite, exists_and_left, exists_const, exists_and_right]
    exact I
theorem c_last (hG : kG B A AA AT AN N c s t l i r u x) {f : Int32} {post : Nat → mj_M → Prop} : vc_X4_lastOf (B + 1) f (kT B t, kL B l, kI B i c s, kW B r u, kI B q g w, x) post = post (kFp A (kLo s (N 0) f (s 0 0))) (kT B t, kL B l, kI B i c s, kW B r u, kI B q g w, x) := by
  obtain ⟨g1, g2, g3, g4, g5, g6, g7, g8, g9, g10⟩ := id hG
  obtain ⟨rk, R⟩ := hG.rk
  have L := cl_last g1 g2 R (c := c) (s := s) (q := q) (g := g) (w := w) (f := f) (post := post) (N 0) 0 none (kFind (kNx s (-1) f (c 1 0)) (N 0) 0) (fun h hf => ⟨(kNx_some hf).1, by omega, by omega⟩)
  simp only [vc_X4_lastOf, mq_tag, mq_len, mq_i, mq_r, mq_l, mq_nx, mq_wi, mq_wr, mq_wl, true_and, and_true, and_false, false_and, and_self, ↓reduceIte, kT_0, kT_1, kT_2, kT_3, kT_4, kT_5, kT_6, kT_7, kT_8, kT_9, kT_10, kT_11, kT_12, kT_13, kT_14, kT_15, kT_16, kT_17, kT_18, kT_19, kT_20, kT_21, kT_22, kT_23, kL_2, kL_3, kL_5, kL_10, kL_11, kL_12, kL_14, kL_15, kL_17, kL_18, kL_19, kL_20, kL_21, kL_22, kL_23, kW_0_0, kW_0_1, kW_0_2, kW_0_3, kW_0_4, kW_0_5, kW_0_6, kW_0_7, kW_1_4, kW_1_5, kW_4_0, kW_4_1, kW_9_0, kW_9_1, kW_9_2, kW_13_0, kW_13_1, kW_16_0, kW_16_1, kW_16_2, kW_16_3, kW_16_4, kW_16_5, kW_1_1, kW_1_2, kW_4_4, kW_8_0, kW_8_1, kW_w1_1, kW_w1_2, kW_w4_4, kW_w8_0, kW_w8_1, kI_0, kI_w0, kI_1, kI_w1, kI_2, kI_w2, kI_3, kI_w3, kI_4, kI_w4, kI_5, kI_w5, kI_6, kI_w6, kI_7, kI_w7, kI_8, kI_w8, kI_9, kI_w9, kI_10, kI_w10, kI_11, kI_w11, kI_12, kI_w12, kI_13, kI_w13, kI_14, kI_w14, kI_15, kI_w15, kI_16, kI_w16, kI_17, kI_w17, kI_18, kI_w18, kI_19, kI_w19, kI_20, kI_w20, kI_21, kI_w21, kI_22, kI_w22, kI_23, kI_w23, c_next0 g1 g2 hG.outm]
  rw [nI_0, show kFp A none = 0 from rfl, hG.hd] at L
  rw [hG.hd]; exact L
theorem m_last (hG : kG B A AA AT AN N c s t l i r u x) {t2 l2 u2 : Nat → Nat} {i2 c2 : Nat → Nat → Int32} {r2 : Nat → Nat → Nat} {x2 : Nat} {f : Int32} {post : Int32 → mj_M → Prop} : vc_X12_lastOn (B + 24) f (kT B t2, kL B l2, kI B i2 c2 s, kW B r2 u2, kI B q g w, x2) post = post (kFn (kLo s (N 0) f (s 0 0))) (kT B t2, kL B l2, kI B i2 c2 s, kW B r2 u2, kI B q g w, x2) := by
  obtain ⟨rk, R⟩ := hG.rk
  have L := ml_last (B := B) (t := t2) (l := l2) (u := u2) (i := i2) (c := c2) (r := r2) (q := q) (g := g) (w := w) (x := x2) hG.hn hG.n40 hG.hw R (f := f) (post := post) (N 0) 0 none (kFind (kNx s (-1) f (s 0 0)) (N 0) 0) (fun h hf => ⟨(kNx_some hf).1, by omega, by omega⟩)
  rw [show kFn none = -1 from rfl] at L
  simp only [vc_X12_lastOn, mq_tag, mq_len, mq_i, mq_r, mq_l, mq_nx, mq_wi, mq_wr, mq_wl, true_and, and_true, and_false, false_and, and_self, ↓reduceIte, kT_24, kT_25, kT_26, kT_27, kT_28, kT_29, kT_30, kT_31, kT_32, kT_33, kT_34, kT_35, kT_36, kT_37, kT_38, kT_39, kT_40, kT_41, kT_42, kT_43, kT_44, kT_45, kT_46, kT_47, kT_48, kT_49, kT_50, kT_51, kT_52, kT_53, kT_54, kT_55, kT_56, kT_57, kT_58, kT_59, kT_60, kT_61, kL_25, kL_26, kL_27, kL_28, kL_29, kL_30, kL_31, kL_32, kL_33, kL_34, kL_35, kL_36, kL_37, kL_38, kL_39, kL_40, kL_41, kL_42, kL_43, kL_44, kL_45, kL_46, kL_47, kL_48, kL_49, kL_50, kL_51, kL_52, kL_53, kL_54, kL_55, kL_56, kL_57, kL_58, kL_59, kL_60, kL_61, kW_24_1, kW_24_2, kW_24_3, kW_24_4, kW_24_5, kW_24_6, kW_24_7, kW_24_8, kW_24_9, kW_24_10, kW_24_11, kW_24_12, kW_24_14, kW_24_15, kW_24_16, kW_24_17, kW_24_18, kW_24_19, kW_24_21, kW_24_22, kW_24_23, kW_24_25, kW_24_26, kW_24_27, kW_24_28, kW_24_29, kW_24_31, kW_24_32, kW_24_33, kW_24_34, kW_24_36, kW_24_37, kW_24_44, kW_24_49, kW_24_50, kW_24_51, kW_24_52, kI_24, kI_w24, kI_25, kI_w25, kI_26, kI_w26, kI_27, kI_w27, kI_28, kI_w28, kI_29, kI_w29, kI_30, kI_w30, kI_31, kI_w31, kI_32, kI_w32, kI_33, kI_w33, kI_34, kI_w34, kI_35, kI_w35, kI_36, kI_w36, kI_37, kI_w37, kI_38, kI_w38, kI_39, kI_w39, kI_40, kI_w40, kI_41, kI_w41, kI_42, kI_w42, kI_43, kI_w43, kI_44, kI_w44, kI_45, kI_w45, kI_46, kI_w46, kI_47, kI_w47, kI_48, kI_w48, kI_49, kI_w49, kI_50, kI_w50, kI_51, kI_w51, kI_52, kI_w52, kI_53, kI_w53, kI_54, kI_w54, kI_55, kI_w55, kI_56, kI_w56, kI_57, kI_w57, kI_58, kI_w58, kI_59, kI_w59, kI_60, kI_w60, kI_61, kI_w61, m_next hG.hn hG.n40 hG.hw]; exact L
theorem kLst_lt {n : Nat} {nx : Nat → Option Nat} (hn : ∀ h h', nx h = some h' → h' < n) : ∀ (g : Nat) (lo o : Option Nat), (∀ h, lo = some h → h < n) → (∀ h, o = some h → h < n) → ∀ y, kLst nx g lo o = some y → y < n
  | g, lo, none, h1, _, y, hy => by
    have : kLst nx g lo none = lo := by cases g <;> rfl
    rw [this] at hy; exact h1 y hy
  | 0, lo, some h, h1, _, y, hy => h1 y hy
  | g + 1, lo, some h, h1, h2, y, hy => kLst_lt hn g (some h) (nx h) (fun h' e => by cases e; exact h2 h rfl) (fun h' e => hn h h' e) y hy
theorem kLo_lt {n : Nat} {f d : Int32} {y : Nat} (h : kLo s n f d = some y) : y < n :=
  kLst_lt (fun h h' e => (kNx_some e).1) n none _ (fun h e => by cases e) (fun h e => (kNx_some e).1) y h
theorem kJo_p (hG : kG B A AA AT AN N c s t l i r u x) {k f p : Nat} (h : kJo s (N 1) (N 0) k f = some p) : p < 10 := by
  unfold kJo at h
  split at h
  · cases hy : kLo s (N 0) (nI f) (s 0 0) with
    | none => rw [hy] at h; cases h
    | some y =>
      rw [hy] at h
      simp only at h
      split at h
      · cases h
      · split at h
        · obtain ⟨p1, p2, p3, p4, p5, p6, _⟩ := hG.R1 (kLo_lt hy)
          obtain ⟨j, hj, hje⟩ := r_of (n := 9) (by decide) (by decide) p6
          rw [hje, ix_nat (by omega)] at h; cases h; omega
        · cases h
  · cases h
theorem rF.lo {s' : Nat → Nat → Int32} (hF : rF s s') {n : Nat} {f d : Int32} : kLo s' n f d = kLo s n f d := by
  have x : ∀ j, 1 ≤ j → j ≤ 15 → s' j = s j := fun j a b => hF.1 j (by omega) (by omega) (by omega) (by omega)
  have e : ∀ o, kNx s' o f d = kNx s o f d := fun o => by
    funext h; unfold kNx khf kon; rw [x 1 (by decide) (by decide), x 2 (by decide) (by decide), x 3 (by decide) (by decide), kun_to (x 4 (by decide) (by decide)) (x 5 (by decide) (by decide)) (x 6 (by decide) (by decide))]
  unfold kLo; simp only [e]
theorem cl_cnt {k : Nat} (hk : k < N 0) {post : Unit → mj_M → Prop} : ∀ (m f : Nat) (c : Nat → Nat → Int32) (g : Nat → Nat → Int64), f + m = 12 → kG B A AA AT AN N c s t l i r u x → (∀ p, p < 10 → c 23 p = nI (kCt (fun f' => decide (kJo s (N 1) (N 0) k f' = some p)) f 0)) →
    (∀ c' g', (∀ j, j ≠ 7 → j ≠ 23 → c' j = c j) → (∀ p, p < 10 → c' 23 p = nI (kCt (fun f' => decide (kJo s (N 1) (N 0) k f' = some p)) 12 0)) → post () (kT B t, kL B l, kI B i c' s, kW B r u, kI B q g' w, x)) →
    vb_X11_countJoined_26 post (m + 1) B (A k) (kFp AA (kBe s 3 (s 0 0) (N 1))) (nI f) (kT B t, kL B l, kI B i c s, kW B r u, kI B q g w, x)
  | 0, f, c, g, hf, hG, hc, hp => by
    have f12 : f = 12 := by omega
    subst f12
    simp only [vb_X11_countJoined_26, show (nI 12) = 12 by decide, Int32.le_refl, ↓reduceIte]
    exact hp c g (fun _ _ _ => rfl) hc
  | m + 1, f, c, g, hf, hG, hc, hp => by
    obtain ⟨g1, g2, g3, g4, g5, g6, g7, g8, g9, g10⟩ := id hG
    have f1 : f < 2147483648 := by omega
    -- none joined at f
    have no : kJo s (N 1) (N 0) k f = none → ∀ c' g', (∀ j, j ≠ 7 → c' j = c j) → vb_X11_countJoined_26 post (m + 1) B (A k) (kFp AA (kBe s 3 (s 0 0) (N 1))) (nI (f + 1)) (kT B t, kL B l, kI B i c' s, kW B r u, kI B q g' w, x) := by
      intro hj c' g' h1
      refine cl_cnt hk m (f + 1) c' g' (by omega) (hG.rf h1 (rF.refl s)) (fun p hp => ?_) (fun c2 g2 h2 h3 => hp c2 g2 (fun j j7 j23 => (h2 j j7 j23).trans (h1 j j7)) h3)
      rw [h1 23 (by decide), hc p hp, kCt_succ, Nat.zero_add, hj]; simp
    unfold vb_X11_countJoined_26
    simp only [vb_X11_countJoined_52, vb_X11_countJoined_71, vb_X11_countJoined_72, mq_tag, mq_len, mq_i, mq_r, mq_l, mq_nx, mq_wi, mq_wr, mq_wl, true_and, and_true, and_false, false_and, and_self, ↓reduceIte, kT_0, kT_1, kT_2, kT_3, kT_4, kT_5, kT_6, kT_7, kT_8, kT_9, kT_10, kT_11, kT_12, kT_13, kT_14, kT_15, kT_16, kT_17, kT_18, kT_19, kT_20, kT_21, kT_22, kT_23, kL_2, kL_3, kL_5, kL_10, kL_11, kL_12, kL_14, kL_15, kL_17, kL_18, kL_19, kL_20, kL_21, kL_22, kL_23, kW_0_0, kW_0_1, kW_0_2, kW_0_3, kW_0_4, kW_0_5, kW_0_6, kW_0_7, kW_1_4, kW_1_5, kW_4_0, kW_4_1, kW_9_0, kW_9_1, kW_9_2, kW_13_0, kW_13_1, kW_16_0, kW_16_1, kW_16_2, kW_16_3, kW_16_4, kW_16_5, kW_1_1, kW_1_2, kW_4_4, kW_8_0, kW_8_1, kW_w1_1, kW_w1_2, kW_w4_4, kW_w8_0, kW_w8_1, kI_0, kI_w0, kI_1, kI_w1, kI_2, kI_w2, kI_3, kI_w3, kI_4, kI_w4, kI_5, kI_w5, kI_6, kI_w6, kI_7, kI_w7, kI_8, kI_w8, kI_9, kI_w9, kI_10, kI_w10, kI_11, kI_w11, kI_12, kI_w12, kI_13, kI_w13, kI_14, kI_w14, kI_15, kI_w15, kI_16, kI_w16, kI_17, kI_w17, kI_18, kI_w18, kI_19, kI_w19, kI_20, kI_w20, kI_21, kI_w21, kI_22, kI_w22, kI_23, kI_w23, show (12 : Int32) = nI 12 by decide, ix_le (show 12 < 2147483648 by decide) f1, show ¬ 12 ≤ f by omega, g1.atT hk, c_hasFloor g1 hk, c_last hG, nI_1, Bool.false_eq_true]
    rcases Bool.eq_false_or_eq_true (khf s k (nI f)) with hf1 | hf1
    · cases hy : kLo s (N 0) (nI f) (s 0 0) with
      | none =>
        have hj : kJo s (N 1) (N 0) k f = none := by unfold kJo; rw [if_pos hf1, hy]
        simp only [hf1, show kFp A none = 0 from rfl, ↓reduceIte]
        exact no hj c g (fun _ _ => rfl)
      | some y =>
        have hyl := kLo_lt hy
        have Ay : (A y = 0) = False := g1.H0 hyl
        simp only [hf1, show kFp A (some y) = A y from rfl, ↓reduceIte, Ay, g1.atT hyl, g1.atW hyl, g1.R0 (g1.V1 hyl), true_and]
        by_cases hl : s 1 y < 0
        · have hj : kJo s (N 1) (N 0) k f = none := by unfold kJo; rw [if_pos hf1, hy]; simp only; rw [if_pos hl]
          simp only [hl, ↓reduceIte]
          exact no hj c g (fun _ _ => rfl)
        · simp only [hl, ↓reduceIte]
          cases hb : kBe s 3 (s 0 0) (N 1) with
          | none =>
            have hj : kJo s (N 1) (N 0) k f = none := by unfold kJo; rw [if_pos hf1, hy]; simp only; rw [if_neg hl, if_neg (by simp only [kRi, hb]; decide)]
            simp only [show kFp AA none = 0 from rfl, ↓reduceIte, true_and]
            have := no hj c g (fun _ _ => rfl)
            rw [hb] at this; exact this
          | some a =>
            have ha := (kBe_some hb).1
            simp only [show kFp AA (some a) = AA a from rfl, g1.A0 ha, ↓reduceIte, g1.atAT ha, g1.atAW ha, hG.hd, true_and, mq_tag, mq_len, mq_i, mq_r, mq_l, mq_nx, mq_wi, mq_wr, mq_wl, true_and, and_true, and_false, false_and, and_self, ↓reduceIte, kT_0, kT_1, kT_2, kT_3, kT_4, kT_5, kT_6, kT_7, kT_8, kT_9, kT_10, kT_11, kT_12, kT_13, kT_14, kT_15, kT_16, kT_17, kT_18, kT_19, kT_20, kT_21, kT_22, kT_23, kL_2, kL_3, kL_5, kL_10, kL_11, kL_12, kL_14, kL_15, kL_17, kL_18, kL_19, kL_20, kL_21, kL_22, kL_23, kW_0_0, kW_0_1, kW_0_2, kW_0_3, kW_0_4, kW_0_5, kW_0_6, kW_0_7, kW_1_4, kW_1_5, kW_4_0, kW_4_1, kW_9_0, kW_9_1, kW_9_2, kW_13_0, kW_13_1, kW_16_0, kW_16_1, kW_16_2, kW_16_3, kW_16_4, kW_16_5, kW_1_1, kW_1_2, kW_4_4, kW_8_0, kW_8_1, kW_w1_1, kW_w1_2, kW_w4_4, kW_w8_0, kW_w8_1, kI_0, kI_w0, kI_1, kI_w1, kI_2, kI_w2, kI_3, kI_w3, kI_4, kI_w4, kI_5, kI_w5, kI_6, kI_w6, kI_7, kI_w7, kI_8, kI_w8, kI_9, kI_w9, kI_10, kI_w10, kI_11, kI_w11, kI_12, kI_w12, kI_13, kI_w13, kI_14, kI_w14, kI_15, kI_w15, kI_16, kI_w16, kI_17, kI_w17, kI_18, kI_w18, kI_19, kI_w19, kI_20, kI_w20, kI_21, kI_w21, kI_22, kI_w22, kI_23, kI_w23]
            refine c_isSo hG ha hyl g8.1 (tu_no (by decide)) fun c' g' h1 h2 => ?_
            rcases Bool.eq_false_or_eq_true (kTx s a y (s 0 0) kNo1).1 with z | z
            · obtain ⟨p1, p2, p3, p4, p5, p6, _⟩ := hG.R1 hyl
              obtain ⟨p, hp9, hpe⟩ := r_of (n := 9) (by decide) (by decide) p6
              have hj : kJo s (N 1) (N 0) k f = some p := by
                unfold kJo; rw [if_pos hf1, hy]; simp only; rw [if_neg hl, if_pos (by unfold kRi; rw [hb]; simp only [z, ↓reduceIte]), hpe, ix_nat (by omega)]
              have p1' : p < 2147483648 := by omega
              simp only [z, ↓reduceIte, mq_tag, mq_len, mq_i, mq_r, mq_l, mq_nx, mq_wi, mq_wr, mq_wl, true_and, and_true, and_false, false_and, and_self, ↓reduceIte, kT_0, kT_1, kT_2, kT_3, kT_4, kT_5, kT_6, kT_7, kT_8, kT_9, kT_10, kT_11, kT_12, kT_13, kT_14, kT_15, kT_16, kT_17, kT_18, kT_19, kT_20, kT_21, kT_22, kT_23, kL_2, kL_3, kL_5, kL_10, kL_11, kL_12, kL_14, kL_15, kL_17, kL_18, kL_19, kL_20, kL_21, kL_22, kL_23, kW_0_0, kW_0_1, kW_0_2, kW_0_3, kW_0_4, kW_0_5, kW_0_6, kW_0_7, kW_1_4, kW_1_5, kW_4_0, kW_4_1, kW_9_0, kW_9_1, kW_9_2, kW_13_0, kW_13_1, kW_16_0, kW_16_1, kW_16_2, kW_16_3, kW_16_4, kW_16_5, kW_1_1, kW_1_2, kW_4_4, kW_8_0, kW_8_1, kW_w1_1, kW_w1_2, kW_w4_4, kW_w8_0, kW_w8_1, kI_0, kI_w0, kI_1, kI_w1, kI_2, kI_w2, kI_3, kI_w3, kI_4, kI_w4, kI_5, kI_w5, kI_6, kI_w6, kI_7, kI_w7, kI_8, kI_w8, kI_9, kI_w9, kI_10, kI_w10, kI_11, kI_w11, kI_12, kI_w12, kI_13, kI_w13, kI_14, kI_w14, kI_15, kI_w15, kI_16, kI_w16, kI_17, kI_w17, kI_18, kI_w18, kI_19, kI_w19, kI_20, kI_w20, kI_21, kI_w21, kI_22, kI_w22, kI_23, kI_w23, g1.atT hyl, g1.atI hyl, hpe, ix_in p1', ix_nat p1', show p < 10 by omega]
              have R := cl_cnt hk (post := post) m (f + 1) (mj_u2 c' 23 p (c' 23 p + 1)) g' (by omega) (hG.scr (fun j j6 j7 j23 => (mj_u2_ne _ j23).trans (h1 j j7)) (fun _ _ _ _ _ _ => rfl) (fun _ _ _ => rfl)) (fun p' hp' => by
                rw [kCt_succ, Nat.zero_add, hj]
                by_cases e : p' = p
                · subst e; rw [mq_u2s, h1 23 (by decide), hc p' hp']; simp [nI_1]
                · rw [mq_u2k e, h1 23 (by decide), hc p' hp']; simp [Ne.symm e]) (fun c2 g2 h2 h3 => hp c2 g2 (fun j j7 j23 => (h2 j j7 j23).trans ((mj_u2_ne _ j23).trans (h1 j j7))) h3)
              rw [hb] at R; exact R
            · have hj : kJo s (N 1) (N 0) k f = none := by
                unfold kJo; rw [if_pos hf1, hy]; simp only; rw [if_neg hl, if_neg (by unfold kRi; rw [hb]; simp only [z, Bool.false_eq_true, ↓reduceIte]; decide)]
              simp only [z, Bool.false_eq_true, ↓reduceIte]
              have := no hj c' g' h1
              rw [hb] at this; exact this
    · have hj : kJo s (N 1) (N 0) k f = none := by unfold kJo; rw [if_neg (by rw [hf1]; decide)]
      simp only [hf1, Bool.false_eq_true, ↓reduceIte]
      exact no hj c g (fun _ _ => rfl)
theorem cl_buy {k : Nat} (H : kCD B A AA AT AN (N 0) (N 1) (N 2) s t l i r x) (hk : k < N 0) (h2 : 1 ≤ s 2 k ∧ s 2 k ≤ 4095) {F : Nat → Nat} (hc : ∀ p, p < 10 → c 23 p = nI (F p)) {v : Int32} {post : Bool → mj_M → Prop} : ∀ (m p a b : Nat), p + m = 10 → (∃ fe, vb_X11_mayBuy_8 post fe B (A k) v (nI a) (nI b) (nI p) (kT B t, kL B l, kI B i c s, kW B r u, kI B q g w, x)) = post (kBu (a + kSm F m p) (b + kSm (fun p => if kQ v p = true then F p else 0) m p) (kOn (s 2 k))) (kT B t, kL B l, kI B i c s, kW B r u, kI B q g w, x)
  | 0, p, a, b, hp => by
    have p10 : p = 10 := by omega
    subst p10
    have bc : kBc (s 2 k) = kOn (s 2 k) := kBc_eq ⟨by have := h2.1; rw [i_le] at this ⊢; have e0 : (0 : Int32).toInt = 0 := by decide
                                                      have e1 : (1 : Int32).toInt = 1 := by decide
                                                      omega, h2.2⟩
    rw [ex_succ rfl]
    simp only [vb_X11_mayBuy_8, show (nI 10) = 10 by decide, Int32.le_refl, ↓reduceIte, mq_tag, mq_len, mq_i, mq_r, mq_l, mq_nx, mq_wi, mq_wr, mq_wl, true_and, and_true, and_false, false_and, and_self, ↓reduceIte, kT_0, kT_1, kT_2, kT_3, kT_4, kT_5, kT_6, kT_7, kT_8, kT_9, kT_10, kT_11, kT_12, kT_13, kT_14, kT_15, kT_16, kT_17, kT_18, kT_19, kT_20, kT_21, kT_22, kT_23, kL_2, kL_3, kL_5, kL_10, kL_11, kL_12, kL_14, kL_15, kL_17, kL_18, kL_19, kL_20, kL_21, kL_22, kL_23, kW_0_0, kW_0_1, kW_0_2, kW_0_3, kW_0_4, kW_0_5, kW_0_6, kW_0_7, kW_1_4, kW_1_5, kW_4_0, kW_4_1, kW_9_0, kW_9_1, kW_9_2, kW_13_0, kW_13_1, kW_16_0, kW_16_1, kW_16_2, kW_16_3, kW_16_4, kW_16_5, kW_1_1, kW_1_2, kW_4_4, kW_8_0, kW_8_1, kW_w1_1, kW_w1_2, kW_w4_4, kW_w8_0, kW_w8_1, kI_0, kI_w0, kI_1, kI_w1, kI_2, kI_w2, kI_3, kI_w3, kI_4, kI_w4, kI_5, kI_w5, kI_6, kI_w6, kI_7, kI_w7, kI_8, kI_w8, kI_9, kI_w9, kI_10, kI_w10, kI_11, kI_w11, kI_12, kI_w12, kI_13, kI_w13, kI_14, kI_w14, kI_15, kI_w15, kI_16, kI_w16, kI_17, kI_w17, kI_18, kI_w18, kI_19, kI_w19, kI_20, kI_w20, kI_21, kI_w21, kI_22, kI_w22, kI_23, kI_w23, H.atT hk, H.atI hk, c_bits, bc, ex_ite, exists_and_left, exists_const, exists_and_right, kSm, Nat.add_zero, kBu]
    by_cases z1 : 3 * nI a < 2 * kOn (s 2 k)
    · simp only [z1, ↓reduceIte]
    · by_cases z2 : 2 * nI b < kOn (s 2 k) <;> simp only [z1, z2, ↓reduceIte]
  | m + 1, p, a, b, hp => by
    have p1 : p < 2147483648 := by omega
    have I := fun a b => cl_buy H hk h2 hc (v := v) (post := post) m (p + 1) a b (by omega)
    rw [ex_succ rfl]
    simp only [vb_X11_mayBuy_8, mq_tag, mq_len, mq_i, mq_r, mq_l, mq_nx, mq_wi, mq_wr, mq_wl, true_and, and_true, and_false, false_and, and_self, ↓reduceIte, kT_0, kT_1, kT_2, kT_3, kT_4, kT_5, kT_6, kT_7, kT_8, kT_9, kT_10, kT_11, kT_12, kT_13, kT_14, kT_15, kT_16, kT_17, kT_18, kT_19, kT_20, kT_21, kT_22, kT_23, kL_2, kL_3, kL_5, kL_10, kL_11, kL_12, kL_14, kL_15, kL_17, kL_18, kL_19, kL_20, kL_21, kL_22, kL_23, kW_0_0, kW_0_1, kW_0_2, kW_0_3, kW_0_4, kW_0_5, kW_0_6, kW_0_7, kW_1_4, kW_1_5, kW_4_0, kW_4_1, kW_9_0, kW_9_1, kW_9_2, kW_13_0, kW_13_1, kW_16_0, kW_16_1, kW_16_2, kW_16_3, kW_16_4, kW_16_5, kW_1_1, kW_1_2, kW_4_4, kW_8_0, kW_8_1, kW_w1_1, kW_w1_2, kW_w4_4, kW_w8_0, kW_w8_1, kI_0, kI_w0, kI_1, kI_w1, kI_2, kI_w2, kI_3, kI_w3, kI_4, kI_w4, kI_5, kI_w5, kI_6, kI_w6, kI_7, kI_w7, kI_8, kI_w8, kI_9, kI_w9, kI_10, kI_w10, kI_11, kI_w11, kI_12, kI_w12, kI_13, kI_w13, kI_14, kI_w14, kI_15, kI_w15, kI_16, kI_w16, kI_17, kI_w17, kI_18, kI_w18, kI_19, kI_w19, kI_20, kI_w20, kI_21, kI_w21, kI_22, kI_w22, kI_23, kI_w23, show (10 : Int32) = nI 10 by decide, ix_le (show 10 < 2147483648 by decide) p1, show ¬ 10 ≤ p by omega, ix_in p1, ix_nat p1, show p < 10 by omega, hc p (by omega), nI_add, nI_1, Int32.add_zero, ex_ite, exists_and_left, exists_const, exists_and_right, I, kSm, kQ, decide_eq_true_eq]
    by_cases z : (v >>> (nI p &&& 31)) &&& 1 = 1
    · simp only [z, ↓reduceIte, Nat.add_assoc]
    · simp only [z, ↓reduceIte, Nat.add_assoc, Nat.zero_add]
end

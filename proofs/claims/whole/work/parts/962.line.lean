/-! STAGE B: a line -/
def kCl (s : Nat → Nat → Int32) (a b : Nat) : Bool := decide (s 49 a = s 49 b) || (decide (s 50 a = s 49 b) && !rWi s a b)
theorem kRl_o {c e : Nat → Nat → Int32} {a b k : Nat} (h1 : k ≠ 21) (h2 : k ≠ 22) : kRl c e a b k = c k := by
  unfold kRl
  split <;> split <;> simp only [mj_u2_ne _ h1, mj_u2_ne _ h2]
theorem kRl_22 {c e : Nat → Nat → Int32} {Q : Nat → Nat → Bool} {a b : Nat} (hb : b < 12) (h : ∀ k, k < 12 → kMk (c 22 k) (Q k)) : ∀ k, k < 12 → kMk (kRl c e a b 22 k) (fun i => Q k i || (decide (k = a ∧ i = b) && decide (e 50 a = e 49 b))) := by
  intro k hk
  have e1 : kRl c e a b 22 k = if e 50 a = e 49 b then mj_u2 c 22 a (c 22 a ||| (1 <<< (nI b &&& 31))) 22 k else c 22 k := by
    unfold kRl
    simp only [decide_eq_true_eq]
    by_cases z : e 50 a = e 49 b
    · simp only [if_pos z]
      split
      · rw [mq_u2n (by decide), mq_u2n (by decide)]
      · rfl
    · simp only [if_neg z]
      split
      · rw [mq_u2n (by decide), mq_u2n (by decide)]
      · rfl
  rw [e1]
  by_cases z : e 50 a = e 49 b
  · rw [if_pos z]
    by_cases y : k = a
    · subst y
      rw [mq_u2s]
      exact ((h k hk).or hb).to fun j _ => by simp [z]
    · rw [mq_u2k y]
      exact (h k hk).to fun j _ => by simp [y]
  · rw [if_neg z]
    exact (h k hk).to fun j _ => by simp [z]
theorem kRl_21 {c e : Nat → Nat → Int32} {P : Nat → Nat → Bool} {a b : Nat} (ha : a < 12) (hb : b < 12) (hab : a ≠ b) (h : ∀ k, k < 12 → kMk (c 21 k) (P k)) : ∀ k, k < 12 → kMk (kRl c e a b 21 k) (fun i => P k i || ((decide (k = a ∧ i = b) || decide (k = b ∧ i = a)) && kCl e a b)) := by
  intro k hk
  have e1 : kRl c e a b 21 k = if kCl e a b = true then (if k = b then c 21 b ||| (1 <<< (nI a &&& 31)) else if k = a then c 21 a ||| (1 <<< (nI b &&& 31)) else c 21 k) else c 21 k := by
    unfold kRl kCl
    simp only [decide_eq_true_eq]
    have c1 : (if e 50 a = e 49 b then mj_u2 c 22 a (c 22 a ||| (1 <<< (nI b &&& 31))) else c) 21 = c 21 := by
      split
      · exact mj_u2_ne _ (by decide)
      · rfl
    generalize hc1 : (if e 50 a = e 49 b then mj_u2 c 22 a (c 22 a ||| (1 <<< (nI b &&& 31))) else c) = c1' at c1
    split
    · by_cases y : k = b
      · subst y; rw [mq_u2s, mq_u2k (Ne.symm hab), if_pos rfl, c1]
      · rw [mq_u2k y, if_neg y]
        by_cases y2 : k = a
        · subst y2; rw [mq_u2s, if_pos rfl, c1]
        · rw [mq_u2k y2, if_neg y2, c1]
    · rw [c1]
  rw [e1]
  by_cases z : kCl e a b = true
  · rw [if_pos z]
    by_cases y : k = b
    · subst y
      rw [if_pos rfl]
      exact ((h k hk).or ha).to fun j _ => by simp [z, Ne.symm hab]
    · rw [if_neg y]
      by_cases y2 : k = a
      · subst y2
        rw [if_pos rfl]
        exact ((h k hk).or hb).to fun j _ => by simp [z, y]
      · rw [if_neg y2]
        exact (h k hk).to fun j _ => by simp [y, y2]
  · rw [if_neg z]
    exact (h k hk).to fun j _ => by simp [z]
def kDn (p j k i : Nat) : Bool := decide ((k < p ∧ i < p) ∨ (k = p ∧ i < j) ∨ (i = p ∧ k < j))
theorem kDn_up {e : Nat → Nat → Int32} {p j k i : Nat} (hj : j < p) : (((kDn p j k i && rUp e k i) || (decide (k = p ∧ i = j) && decide (e 50 p = e 49 j))) || (decide (k = j ∧ i = p) && decide (e 50 j = e 49 p))) = (kDn p (j + 1) k i && rUp e k i) := by
  by_cases z1 : k = p ∧ i = j
  · obtain ⟨rfl, rfl⟩ := z1
    have d1 : kDn k i k i = false := decide_eq_false (by omega)
    have d2 : kDn k (i + 1) k i = true := decide_eq_true (by omega)
    have n1 : ¬ (k = i ∧ i = k) := by omega
    have n2 : k ≠ i := by omega
    simp [d1, d2, n1, rUp, n2]
  · by_cases z2 : k = j ∧ i = p
    · obtain ⟨rfl, rfl⟩ := z2
      have d1 : kDn i k k i = false := decide_eq_false (by omega)
      have d2 : kDn i (k + 1) k i = true := decide_eq_true (by omega)
      have n2 : k ≠ i := by omega
      simp [d1, d2, rUp, n2]
    · have d : kDn p (j + 1) k i = kDn p j k i := decide_eq_decide.mpr (by omega)
      simp only [d, z1, z2, decide_false, Bool.false_and, Bool.or_false]
theorem kDn_cl {e : Nat → Nat → Int32} {p j k i : Nat} (hj : j < p) : (((kDn p j k i && rCl e k i) || ((decide (k = p ∧ i = j) || decide (k = j ∧ i = p)) && kCl e p j)) || ((decide (k = j ∧ i = p) || decide (k = p ∧ i = j)) && kCl e j p)) = (kDn p (j + 1) k i && rCl e k i) := by
  have sy : ∀ a b, a ≠ b → (kCl e a b || kCl e b a) = rCl e a b := by
    intro a b hab
    unfold kCl rCl rUp
    have hba := Ne.symm hab
    by_cases y1 : e 49 a = e 49 b
    · simp [y1, hab]
    · have y2 : ¬ e 49 b = e 49 a := fun z => y1 z.symm
      simp [y1, y2, hab, hba]
  by_cases z1 : k = p ∧ i = j
  · obtain ⟨rfl, rfl⟩ := z1
    have d1 : kDn k i k i = false := decide_eq_false (by omega)
    have d2 : kDn k (i + 1) k i = true := decide_eq_true (by omega)
    rw [d1, d2, ← sy k i (by omega)]; simp
  · by_cases z2 : k = j ∧ i = p
    · obtain ⟨rfl, rfl⟩ := z2
      have d1 : kDn i k k i = false := decide_eq_false (by omega)
      have d2 : kDn i (k + 1) k i = true := decide_eq_true (by omega)
      rw [d1, d2, ← sy k i (by omega)]; simp [Bool.or_comm]
    · have d : kDn p (j + 1) k i = kDn p j k i := decide_eq_decide.mpr (by omega)
      simp only [d, z1, z2, decide_false, Bool.false_and, Bool.or_false, Bool.or_self]
section
variable {B x : Nat} {t l u : Nat → Nat} {i c0 s e : Nat → Nat → Int32} {r : Nat → Nat → Nat} {q g w : Nat → Nat → Int64}
theorem cl_rel {p : Nat} (hp : p < 12) (h17 : ∀ k, k ≤ p → c0 17 k = e 49 k ∧ c0 18 k = e 50 k ∧ c0 19 k = e 51 k ∧ c0 20 k = e 52 k) {post : Int32 → mj_M → Prop} : ∀ (m j : Nat) (c : Nat → Nat → Int32), j + m = p → (∀ k, k ≠ 21 → k ≠ 22 → c k = c0 k) → (∀ k, k < 12 → kMk (c 21 k) (fun i => kDn p j k i && rCl e k i)) → (∀ k, k < 12 → kMk (c 22 k) (fun i => kDn p j k i && rUp e k i)) →
    (∀ c' : Nat → Nat → Int32, (∀ k, k ≠ 21 → k ≠ 22 → c' k = c0 k) → (∀ k, k < 12 → kMk (c' 21 k) (fun i => kDn p p k i && rCl e k i)) → (∀ k, k < 12 → kMk (c' 22 k) (fun i => kDn p p k i && rUp e k i)) → post (nI p) (kT B t, kL B l, kI B i c' s, kW B r u, kI B q g w, x)) →
    ∃ fe, vb_X9_add_70 post fe (B + 16) (nI p) (nI j) (kT B t, kL B l, kI B i c s, kW B r u, kI B q g w, x)
  | 0, j, c, hj, h0, h1, h2, hK => by
    have jp : j = p := by omega
    subst jp
    refine ex_imp ⟨0, ?_⟩
    simp only [vb_X9_add_70, Int32.le_refl, ↓reduceIte]
    exact hK c h0 h1 h2
  | m + 1, j, c, hj, h0, h1, h2, hK => by
    obtain ⟨a1, a2, a3, a4⟩ := h17 p (Nat.le_refl _)
    obtain ⟨b1, b2, b3, b4⟩ := h17 j (by omega)
    have F : ∀ (c : Nat → Nat → Int32), (∀ k, k ≠ 21 → k ≠ 22 → c k = c0 k) → c 17 = c0 17 ∧ c 18 = c0 18 ∧ c 19 = c0 19 ∧ c 20 = c0 20 := fun c h => ⟨h 17 (by decide) (by decide), h 18 (by decide) (by decide), h 19 (by decide) (by decide), h 20 (by decide) (by decide)⟩
    have h0' : ∀ k, k ≠ 21 → k ≠ 22 → kRl c e p j k = c0 k := fun k k1 k2 => (kRl_o k1 k2).trans (h0 k k1 k2)
    have h0'' : ∀ k, k ≠ 21 → k ≠ 22 → kRl (kRl c e p j) e j p k = c0 k := fun k k1 k2 => (kRl_o k1 k2).trans (h0' k k1 k2)
    obtain ⟨f1, f2, f3, f4⟩ := F c h0
    obtain ⟨g1, g2, g3, g4⟩ := F _ h0'
    have I := cl_rel hp h17 (post := post) m (j + 1) (kRl (kRl c e p j) e j p) (by omega) h0''
      (fun k hk => (kRl_21 (by omega) hp (by omega) (kRl_21 hp (by omega) (by omega) h1) k hk).to fun i _ => kDn_cl (by omega))
      (fun k hk => (kRl_22 hp (kRl_22 (by omega) h2) k hk).to fun i _ => kDn_up (by omega)) hK
    rw [ex_succ rfl]
    simp only [vb_X9_add_70, mq_tag, mq_len, mq_i, mq_r, mq_l, mq_nx, mq_wi, mq_wr, mq_wl, true_and, and_true, and_false, false_and, and_self, ↓reduceIte, kT_0, kT_1, kT_2, kT_3, kT_4, kT_5, kT_6, kT_7, kT_8, kT_9, kT_10, kT_11, kT_12, kT_13, kT_14, kT_15, kT_16, kT_17, kT_18, kT_19, kT_20, kT_21, kT_22, kT_23, kL_2, kL_3, kL_5, kL_10, kL_11, kL_12, kL_14, kL_15, kL_17, kL_18, kL_19, kL_20, kL_21, kL_22, kL_23, kW_0_0, kW_0_1, kW_0_2, kW_0_3, kW_0_4, kW_0_5, kW_0_6, kW_0_7, kW_1_4, kW_1_5, kW_4_0, kW_4_1, kW_9_0, kW_9_1, kW_9_2, kW_13_0, kW_13_1, kW_16_0, kW_16_1, kW_16_2, kW_16_3, kW_16_4, kW_16_5, kW_1_1, kW_1_2, kW_4_4, kW_8_0, kW_8_1, kW_w1_1, kW_w1_2, kW_w4_4, kW_w8_0, kW_w8_1, kI_0, kI_w0, kI_1, kI_w1, kI_2, kI_w2, kI_3, kI_w3, kI_4, kI_w4, kI_5, kI_w5, kI_6, kI_w6, kI_7, kI_w7, kI_8, kI_w8, kI_9, kI_w9, kI_10, kI_w10, kI_11, kI_w11, kI_12, kI_w12, kI_13, kI_w13, kI_14, kI_w14, kI_15, kI_w15, kI_16, kI_w16, kI_17, kI_w17, kI_18, kI_w18, kI_19, kI_w19, kI_20, kI_w20, kI_21, kI_w21, kI_22, kI_w22, kI_23, kI_w23, ix_le (show p < 2147483648 by omega) (show j < 2147483648 by omega), show ¬ p ≤ j by omega, nI_1, ex_ite, exists_and_left, exists_const, exists_and_right, c_relate (c := c) (e := e) hp (show j < 12 by omega) (by rw [f1]; exact ⟨a1, b1⟩) (by rw [f2]; exact a2) (by rw [f3]; exact ⟨a3, b3⟩) (by rw [f4]; exact ⟨a4, b4⟩), c_relate (c := kRl c e p j) (e := e) (show j < 12 by omega) hp (by rw [g1]; exact ⟨b1, a1⟩) (by rw [g2]; exact b2) (by rw [g3]; exact ⟨b3, a3⟩) (by rw [g4]; exact ⟨b4, a4⟩)]
    exact I
end

/-! STAGE B: the memory as a tuple; numbers of places -/
theorem mq_tag {t l : Nat → Nat} {i : Nat → Nat → Int32} {r : Nat → Nat → Nat} {q : Nat → Nat → Int64} {x : Nat} : mj_tag (t, l, i, r, q, x) = t := rfl
theorem mq_len {t l : Nat → Nat} {i : Nat → Nat → Int32} {r : Nat → Nat → Nat} {q : Nat → Nat → Int64} {x : Nat} : mj_len (t, l, i, r, q, x) = l := rfl
theorem mq_i {t l : Nat → Nat} {i : Nat → Nat → Int32} {r : Nat → Nat → Nat} {q : Nat → Nat → Int64} {x : Nat} : mj_i (t, l, i, r, q, x) = i := rfl
theorem mq_r {t l : Nat → Nat} {i : Nat → Nat → Int32} {r : Nat → Nat → Nat} {q : Nat → Nat → Int64} {x : Nat} : mj_r (t, l, i, r, q, x) = r := rfl
theorem mq_l {t l : Nat → Nat} {i : Nat → Nat → Int32} {r : Nat → Nat → Nat} {q : Nat → Nat → Int64} {x : Nat} : mj_l (t, l, i, r, q, x) = q := rfl
theorem mq_nx {t l : Nat → Nat} {i : Nat → Nat → Int32} {r : Nat → Nat → Nat} {q : Nat → Nat → Int64} {x : Nat} : mj_nx (t, l, i, r, q, x) = x := rfl
theorem mq_wi {t l : Nat → Nat} {i : Nat → Nat → Int32} {r : Nat → Nat → Nat} {q : Nat → Nat → Int64} {x : Nat} {a k : Nat} {v : Int32} : mj_wi (t, l, i, r, q, x) a k v = (t, l, mj_u2 i a k v, r, q, x) := rfl
theorem mq_wr {t l : Nat → Nat} {i : Nat → Nat → Int32} {r : Nat → Nat → Nat} {q : Nat → Nat → Int64} {x : Nat} {a k : Nat} {v : Nat} : mj_wr (t, l, i, r, q, x) a k v = (t, l, i, mj_u2 r a k v, q, x) := rfl
theorem mq_wl {t l : Nat → Nat} {i : Nat → Nat → Int32} {r : Nat → Nat → Nat} {q : Nat → Nat → Int64} {x : Nat} {a k : Nat} {v : Int64} : mj_wl (t, l, i, r, q, x) a k v = (t, l, i, r, mj_u2 q a k v, x) := rfl
theorem mq_new {t l : Nat → Nat} {i : Nat → Nat → Int32} {r : Nat → Nat → Nat} {q : Nat → Nat → Int64} {x : Nat} {c : Nat} : mj_new (t, l, i, r, q, x) c = (mj_u1 t x (c + 1), l, mj_u1 i x (fun _ => 0), mj_u1 r x (fun _ => 0), mj_u1 q x (fun _ => 0), x + 1) := rfl
theorem mq_newa {t l : Nat → Nat} {i : Nat → Nat → Int32} {r : Nat → Nat → Nat} {q : Nat → Nat → Int64} {x : Nat} {c n : Nat} : mj_newa (t, l, i, r, q, x) c n = (mj_u1 t x c, mj_u1 l x n, mj_u1 i x (fun _ => 0), r, mj_u1 q x (fun _ => 0), x + 1) := rfl
theorem mq_u2 {α : Type} {f : Nat → Nat → α} {a k : Nat} {v : α} {a' k' : Nat} : mj_u2 f a k v a' k' = if a' = a ∧ k' = k then v else f a' k' := rfl
theorem mq_u1 {α : Type} {f : Nat → α} {a : Nat} {v : α} {a' : Nat} : mj_u1 f a v a' = if a' = a then v else f a' := rfl
theorem mq_u2s {α : Type} {f : Nat → Nat → α} {a k : Nat} {v : α} : mj_u2 f a k v a k = v := if_pos ⟨rfl, rfl⟩
theorem mq_u2n {α : Type} {f : Nat → Nat → α} {a k : Nat} {v : α} {a' k' : Nat} (h : a' ≠ a) : mj_u2 f a k v a' k' = f a' k' := if_neg fun g => h g.1
theorem mq_u2k {α : Type} {f : Nat → Nat → α} {a k : Nat} {v : α} {a' k' : Nat} (h : k' ≠ k) : mj_u2 f a k v a' k' = f a' k' := if_neg fun g => h g.2
theorem mq_u1s {α : Type} {f : Nat → α} {a : Nat} {v : α} : mj_u1 f a v a = v := if_pos rfl
theorem mq_u1n {α : Type} {f : Nat → α} {a : Nat} {v : α} {a' : Nat} (h : a' ≠ a) : mj_u1 f a v a' = f a' := if_neg h
/-! indices -/
theorem ix_fold (k : Nat) : Int32.ofNat k = nI k := rfl
theorem ix_nat {k : Nat} (h : k < 2147483648) : (nI k).toNatClampNeg = k := nI_clamp h
theorem ix_in {k m : Nat} (h : k < 2147483648) : vp_in (nI k) m = (k < m) := by
  have h1 : ¬ nI k < 0 := nI_pos h
  simp only [vp_in, nI_clamp h, h1, false_or, Nat.not_le]
theorem ix_le {a b : Nat} (ha : a < 2147483648) (hb : b < 2147483648) : (nI a ≤ nI b) = (a ≤ b) := propext (nI_leI ha hb)
theorem ix_lt {a b : Nat} (ha : a < 2147483648) (hb : b < 2147483648) : (nI a < nI b) = (a < b) := propext (nI_ltI ha hb)
theorem ix_eq {a b : Nat} (ha : a < 2147483648) (hb : b < 2147483648) : (nI a = nI b) = (a = b) := propext (nI_eq ha hb)
theorem ix_neg {a : Nat} (ha : a < 2147483648) : (nI a < 0) = False := eq_false (nI_pos ha)
theorem ix_nn {a : Nat} (ha : a < 2147483648) : (0 ≤ nI a) = True := eq_true (nI_pos' ha)
theorem ix_of {v : Int32} (h : 0 ≤ v) : ∃ k : Nat, k < 2147483648 ∧ v = nI k := nI_of (Int32.not_lt.mpr h)
theorem ix_m1 {a : Nat} (ha : a < 2147483648) : (nI a = -1) = False := eq_false (fun h => absurd (h ▸ nI_pos' ha) (by decide))
theorem ix_m6 {a : Nat} (ha : a < 2147483648) : (nI a = -6) = False := eq_false (fun h => absurd (h ▸ nI_pos' ha) (by decide))
/-- a number from 0 on, below a bound -/
theorem ix_ofl {v : Int32} {n : Nat} (hn : n < 2147483648) (h : 0 ≤ v) (h2 : v < nI n) : ∃ k : Nat, k < n ∧ v = nI k := by
  obtain ⟨k, hk, rfl⟩ := ix_of h
  exact ⟨k, by rwa [ix_lt hk hn] at h2, rfl⟩
theorem ix_lit (k : Nat) : nI k = Int32.ofNat k := rfl
theorem ix_l {n : Nat} (h : n < 2147483648) : (nI n).toInt64 = lN n := nI_l h
theorem ix_sub1 {n : Nat} (h : 0 < n) : nI n - 1 = nI (n - 1) := by
  obtain ⟨m, rfl⟩ : ∃ m, n = m + 1 := ⟨n - 1, by omega⟩
  exact nI_pred m
theorem ix_cmp (a b : Int64) : (lg_cmp a b < 0) = (a < b) := by
  unfold lg_cmp
  by_cases h1 : a > b
  · rw [if_pos h1]; simp; exact Int64.le_of_lt h1
  · by_cases h2 : a = b
    · rw [if_neg h1, if_pos h2]; simp [h2]
    · rw [if_neg h1, if_neg h2, eq_true (Int64.lt_of_le_of_ne (Int64.not_lt.mp h1) h2)]; exact eq_true (by decide)
theorem ix_cmp2 (a b : Int64) : (0 < lg_cmp a b) = (b < a) := by
  unfold lg_cmp
  by_cases h1 : a > b
  · rw [if_pos h1, eq_true (show b < a from h1)]; exact eq_true (by decide)
  · by_cases h2 : a = b
    · rw [if_neg h1, if_pos h2]; simp [h2]
    · rw [if_neg h1, if_neg h2, eq_false (show ¬ b < a from h1)]; exact eq_false (by decide)
theorem ix_cmp0 (a b : Int64) : (lg_cmp a b = 0) = (a = b) := by
  unfold lg_cmp
  by_cases h1 : a > b
  · rw [if_pos h1, eq_false (show ¬ a = b from fun h => by rw [h] at h1; exact absurd h1 Int64.lt_irrefl)]; exact eq_false (by decide)
  · by_cases h2 : a = b
    · rw [if_neg h1, if_pos h2]; simp [h2]
    · rw [if_neg h1, if_neg h2, eq_false h2]; exact eq_false (by decide)
theorem ix_cmp3 (a b : Int64) : (0 ≤ lg_cmp a b) = (b ≤ a) := by
  have h := ix_cmp a b
  rw [← Int32.not_lt, h]
  simp
theorem ix_cmp4 (a b : Int64) : (lg_cmp a b ≤ 0) = (a ≤ b) := by
  have h := ix_cmp2 a b
  rw [← Int32.not_lt, h]
  simp
theorem ix_b (p q : Bool) : (mj_b p = mj_b q) = (p = q) := by cases p <;> cases q <;> simp [mj_b]
theorem ix_b0 (p : Bool) : (mj_b p = 0) = (p = false) := by cases p <;> simp [mj_b]
theorem ix_b1 (p : Bool) : (mj_b p = 1) = (p = true) := by cases p <;> simp [mj_b]
/-- numbers as wide ones compare as they are -/
theorem ix_wle (a b : Int32) : (a.toInt64 ≤ b.toInt64) = (a ≤ b) := by
  rw [Int64.le_iff_toInt_le, Int32.le_iff_toInt_le, Int32.toInt_toInt64, Int32.toInt_toInt64]
theorem ix_wlt (a b : Int32) : (a.toInt64 < b.toInt64) = (a < b) := by
  rw [Int64.lt_iff_toInt_lt, Int32.lt_iff_toInt_lt, Int32.toInt_toInt64, Int32.toInt_toInt64]
theorem ix_weq (a b : Int32) : (a.toInt64 = b.toInt64) = (a = b) := by
  rw [← Int64.toInt_inj, ← Int32.toInt_inj, Int32.toInt_toInt64, Int32.toInt_toInt64]
/-! fuel: what some fuel does -/
theorem ex_succ {F : Nat → Prop} (h : F 0 = False) : (∃ fe, F fe) = ∃ fe, F (fe + 1) := by
  apply propext
  constructor
  · rintro ⟨fe, hf⟩
    cases fe with
    | zero => rw [h] at hf; exact hf.elim
    | succ k => exact ⟨k, hf⟩
  · rintro ⟨fe, hf⟩; exact ⟨_, hf⟩
theorem ex_ite {c : Prop} [Decidable c] {P Q : Nat → Prop} : (∃ fe, if c then P fe else Q fe) = if c then ∃ fe, P fe else ∃ fe, Q fe := by
  by_cases h : c <;> simp [h]
theorem ex_imp {F : Nat → Prop} (h : ∃ fe, F (fe + 1)) : ∃ fe, F fe := by obtain ⟨fe, h⟩ := h; exact ⟨_, h⟩
/-! loops over places as functions -/
def kAny (P : Nat → Bool) : Nat → Nat → Bool
  | 0, _ => false
  | c + 1, k => P k || kAny P c (k + 1)
def kFind (P : Nat → Bool) : Nat → Nat → Option Nat
  | 0, _ => none
  | c + 1, k => if P k then some k else kFind P c (k + 1)
def kFold {β : Type} (F : Nat → β → β) : Nat → Nat → β → β
  | 0, _, b => b
  | c + 1, k, b => kFold F c (k + 1) (F k b)
theorem kAny_iff {P : Nat → Bool} : ∀ {c k : Nat}, kAny P c k = true ↔ ∃ h, k ≤ h ∧ h < k + c ∧ P h = true
  | 0, k => by simp [kAny]; omega
  | c + 1, k => by
    simp only [kAny, Bool.or_eq_true, kAny_iff]
    constructor
    · rintro (h | ⟨h, h1, h2, h3⟩)
      · exact ⟨k, Nat.le_refl _, by omega, h⟩
      · exact ⟨h, by omega, by omega, h3⟩
    · rintro ⟨h, h1, h2, h3⟩
      rcases Nat.lt_or_ge k h with hk | hk
      · exact .inr ⟨h, hk, by omega, h3⟩
      · exact .inl (by rw [Nat.le_antisymm h1 hk]; exact h3)
theorem kAny_congr {P Q : Nat → Bool} : ∀ {c k : Nat}, (∀ h, k ≤ h → h < k + c → P h = Q h) → kAny P c k = kAny Q c k
  | 0, _, _ => rfl
  | c + 1, k, e => by
    simp only [kAny]
    rw [e k (Nat.le_refl _) (by omega), kAny_congr (c := c) (k := k + 1) fun h h1 h2 => e h (by omega) (by omega)]
theorem kFind_congr {P Q : Nat → Bool} : ∀ {c k : Nat}, (∀ h, k ≤ h → h < k + c → P h = Q h) → kFind P c k = kFind Q c k
  | 0, _, _ => rfl
  | c + 1, k, e => by
    simp only [kFind]
    rw [e k (Nat.le_refl _) (by omega), kFind_congr (c := c) (k := k + 1) fun h h1 h2 => e h (by omega) (by omega)]
theorem kFold_congr {β : Type} {F G : Nat → β → β} : ∀ {c k : Nat} {b : β}, (∀ h b, k ≤ h → h < k + c → F h b = G h b) → kFold F c k b = kFold G c k b
  | 0, _, _, _ => rfl
  | c + 1, k, b, e => by
    simp only [kFold]
    rw [e k b (Nat.le_refl _) (by omega), kFold_congr (c := c) (k := k + 1) fun h b h1 h2 => e h b (by omega) (by omega)]
theorem kFold_ind {β : Type} {F : Nat → β → β} (P : Nat → β → Prop) : ∀ {c k : Nat} {b : β}, P k b → (∀ h b, k ≤ h → h < k + c → P h b → P (h + 1) (F h b)) → P (k + c) (kFold F c k b)
  | 0, _, _, h, _ => h
  | c + 1, k, b, h, e => by
    have := kFold_ind (F := F) P (c := c) (k := k + 1) (b := F k b) (e k b (Nat.le_refl _) (by omega) h) (fun h b h1 h2 h3 => e h b (by omega) (by omega) h3)
    rw [show k + (c + 1) = k + 1 + c by omega]; exact this
theorem kFind_some {P : Nat → Bool} : ∀ {c k h : Nat}, kFind P c k = some h → k ≤ h ∧ h < k + c ∧ P h = true
  | 0, _, _, e => by simp [kFind] at e
  | c + 1, k, h, e => by
    simp only [kFind] at e
    split at e
    · rename_i hp; cases e; exact ⟨Nat.le_refl _, by omega, hp⟩
    · have := kFind_some e; exact ⟨by omega, by omega, this.2.2⟩
theorem kFind_none {P : Nat → Bool} : ∀ {c k : Nat}, kFind P c k = none ↔ ∀ h, k ≤ h → h < k + c → P h = false
  | 0, k => by simp [kFind]; omega
  | c + 1, k => by
    simp only [kFind]
    constructor
    · intro e h h1 h2
      split at e
      · cases e
      · rename_i hp
        rcases Nat.lt_or_ge k h with hk | hk
        · exact kFind_none.mp e h hk (by omega)
        · rw [← Nat.le_antisymm h1 hk]; simpa using hp
    · intro e
      rw [e k (Nat.le_refl _) (by omega)]
      exact kFind_none.mpr fun h h1 h2 => e h (by omega) (by omega)
/-! one side's `if`s under a continuation -/
theorem kp_if {α : Type} {c : Prop} [Decidable c] {a b : α} {post : α → mj_M → Prop} {M : mj_M} : (if c then post a M else post b M) = post (if c then a else b) M := by split <;> rfl
theorem kp_tf {c : Prop} [Decidable c] {post : Bool → mj_M → Prop} {M : mj_M} : (if c then post true M else post false M) = post (decide c) M := by
  by_cases h : c <;> simp [h]
theorem kp_ft {c : Prop} [Decidable c] {post : Bool → mj_M → Prop} {M : mj_M} : (if c then post false M else post true M) = post (decide (¬ c)) M := by
  by_cases h : c <;> simp [h]
def imx (a b : Int32) : Int32 := if a < b then b else a
def imn (a b : Int32) : Int32 := if b < a then b else a
theorem e_max {a b : Int32} {M : mj_M} {post : Int32 → mj_M → Prop} : vc_J9_max_7cf53 a b M post = post (imx a b) M := by
  unfold vc_J9_max_7cf53 imx; split <;> rfl
theorem e_min {a b : Int32} {M : mj_M} {post : Int32 → mj_M → Prop} : vc_J9_min_7cf53 a b M post = post (imn a b) M := by
  unfold vc_J9_min_7cf53 imn; split <;> rfl
def lmx (a b : Int64) : Int64 := if a < b then b else a
def lab (a : Int64) : Int64 := if 0 ≤ a then a else -a
theorem e_maxl {a b : Int64} {M : mj_M} {post : Int64 → mj_M → Prop} : vc_J9_max_f86c9 a b M post = post (lmx a b) M := by
  unfold vc_J9_max_f86c9 lmx; simp only [ix_cmp]; split <;> rfl
theorem e_absl {a : Int64} {M : mj_M} {post : Int64 → mj_M → Prop} : vc_J9_abs_067f4 a M post = post (lab a) M := by
  unfold vc_J9_abs_067f4 lab; simp only [ix_cmp3]; split <;> rfl

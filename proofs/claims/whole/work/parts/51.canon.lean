/-! STAGE B: THE MEMORY in one form: B the object of the class, B + 24 that of the reference; t l i r q: what lies elsewhere; c: the class's fixed cells; s: the reference's, by the number of the field -/
def kTg : Nat → Nat := fun j => match j with
  | 0 => 12
  | 1 => 5
  | 2 => 101
  | 3 => 101
  | 4 => 2
  | 5 => 101
  | 6 => 3
  | 7 => 9
  | 8 => 8
  | 9 => 6
  | 10 => 101
  | 11 => 101
  | 12 => 101
  | 13 => 11
  | 14 => 101
  | 15 => 101
  | 16 => 10
  | 17 => 101
  | 18 => 101
  | 19 => 101
  | 20 => 101
  | 21 => 101
  | 22 => 101
  | 23 => 101
  | 24 => 13
  | 25 => 101
  | 26 => 101
  | 27 => 101
  | 28 => 101
  | 29 => 101
  | 30 => 101
  | 31 => 101
  | 32 => 101
  | 33 => 101
  | 34 => 101
  | 35 => 101
  | 36 => 101
  | 37 => 101
  | 38 => 101
  | 39 => 101
  | 40 => 101
  | 41 => 101
  | 42 => 101
  | 43 => 103
  | 44 => 103
  | 45 => 103
  | 46 => 101
  | 47 => 101
  | 48 => 101
  | 49 => 101
  | 50 => 101
  | 51 => 103
  | 52 => 101
  | 53 => 101
  | 54 => 101
  | 55 => 101
  | 56 => 101
  | 57 => 102
  | 58 => 101
  | 59 => 101
  | 60 => 101
  | 61 => 101
  | _ => 0
def kLg : Nat → Nat := fun j => match j with
  | 2 => 10
  | 3 => 12
  | 5 => 48
  | 10 => 12
  | 11 => 10
  | 12 => 10
  | 14 => 20
  | 15 => 20
  | 17 => 12
  | 18 => 12
  | 19 => 12
  | 20 => 12
  | 21 => 12
  | 22 => 12
  | 23 => 10
  | 25 => 40
  | 26 => 40
  | 27 => 40
  | 28 => 40
  | 29 => 40
  | 30 => 40
  | 31 => 40
  | 32 => 40
  | 33 => 40
  | 34 => 40
  | 35 => 40
  | 36 => 40
  | 37 => 12
  | 38 => 10
  | 39 => 624
  | 40 => 13
  | 41 => 12
  | 42 => 12
  | 43 => 49
  | 44 => 49
  | 45 => 49
  | 46 => 24
  | 47 => 24
  | 48 => 24
  | 49 => 24
  | 50 => 24
  | 51 => 40
  | 52 => 12
  | 53 => 10
  | 54 => 10
  | 55 => 20
  | 56 => 20
  | 57 => 40
  | 58 => 12
  | 59 => 12
  | 60 => 12
  | 61 => 12
  | _ => 0
def kFl : Nat → Nat := fun j => match j with
  | 24 => 0
  | 25 => 1
  | 26 => 2
  | 27 => 3
  | 28 => 4
  | 29 => 5
  | 30 => 6
  | 31 => 7
  | 32 => 8
  | 33 => 9
  | 34 => 10
  | 35 => 11
  | 36 => 12
  | 37 => 14
  | 38 => 15
  | 39 => 16
  | 40 => 17
  | 41 => 18
  | 42 => 19
  | 43 => 21
  | 44 => 22
  | 45 => 23
  | 46 => 25
  | 47 => 26
  | 48 => 27
  | 49 => 28
  | 50 => 29
  | 51 => 31
  | 52 => 32
  | 53 => 33
  | 54 => 34
  | 55 => 36
  | 56 => 37
  | 57 => 44
  | 58 => 49
  | 59 => 50
  | 60 => 51
  | 61 => 52
  | _ => 0
def kRf (B : Nat) (u : Nat → Nat) : Nat → Nat → Nat := fun j k => match j, k with
  | 0, 0 => B + 1
  | 0, 1 => B + 4
  | 0, 2 => B + 7
  | 0, 3 => B + 8
  | 0, 4 => B + 9
  | 0, 5 => B + 13
  | 0, 6 => B + 16
  | 0, 7 => B + 23
  | 1, 4 => B + 2
  | 1, 5 => B + 3
  | 4, 0 => B + 5
  | 4, 1 => B + 6
  | 9, 0 => B + 10
  | 9, 1 => B + 11
  | 9, 2 => B + 12
  | 13, 0 => B + 14
  | 13, 1 => B + 15
  | 16, 0 => B + 17
  | 16, 1 => B + 18
  | 16, 2 => B + 19
  | 16, 3 => B + 20
  | 16, 4 => B + 21
  | 16, 5 => B + 22
  | 24, 1 => B + 25
  | 24, 2 => B + 26
  | 24, 3 => B + 27
  | 24, 4 => B + 28
  | 24, 5 => B + 29
  | 24, 6 => B + 30
  | 24, 7 => B + 31
  | 24, 8 => B + 32
  | 24, 9 => B + 33
  | 24, 10 => B + 34
  | 24, 11 => B + 35
  | 24, 12 => B + 36
  | 24, 14 => B + 37
  | 24, 15 => B + 38
  | 24, 16 => B + 39
  | 24, 17 => B + 40
  | 24, 18 => B + 41
  | 24, 19 => B + 42
  | 24, 21 => B + 43
  | 24, 22 => B + 44
  | 24, 23 => B + 45
  | 24, 25 => B + 46
  | 24, 26 => B + 47
  | 24, 27 => B + 48
  | 24, 28 => B + 49
  | 24, 29 => B + 50
  | 24, 31 => B + 51
  | 24, 32 => B + 52
  | 24, 33 => B + 53
  | 24, 34 => B + 54
  | 24, 36 => B + 55
  | 24, 37 => B + 56
  | 24, 44 => B + 57
  | 24, 49 => B + 58
  | 24, 50 => B + 59
  | 24, 51 => B + 60
  | 24, 52 => B + 61
  | 1, 1 => u 0
  | 1, 2 => u 1
  | 4, 4 => u 2
  | 8, 0 => u 3
  | 8, 1 => u 4
  | _, _ => 0
def kT (B : Nat) (t : Nat → Nat) : Nat → Nat := fun a => if a < B ∨ B + 62 ≤ a then t a else kTg (a - B)
def kL (B : Nat) (l : Nat → Nat) : Nat → Nat := fun a => if a < B ∨ B + 62 ≤ a then l a else kLg (a - B)
def kI {α : Type} (B : Nat) (i c s : Nat → Nat → α) : Nat → Nat → α := fun a k => if a < B ∨ B + 62 ≤ a then i a k else if a < B + 24 then c (a - B) k else s (kFl (a - B)) k
def kW (B : Nat) (r : Nat → Nat → Nat) (u : Nat → Nat) : Nat → Nat → Nat := fun a k => if a < B ∨ B + 62 ≤ a then r a k else kRf B u (a - B) k
theorem kT_at {B : Nat} {t : Nat → Nat} (j : Nat) (h : j < 62) : kT B t (B + j) = kTg j := by
  unfold kT; rw [if_neg (by omega), Nat.add_sub_cancel_left]
theorem kL_at {B : Nat} {l : Nat → Nat} (j : Nat) (h : j < 62) : kL B l (B + j) = kLg j := by
  unfold kL; rw [if_neg (by omega), Nat.add_sub_cancel_left]
theorem kW_at {B : Nat} {r : Nat → Nat → Nat} {u : Nat → Nat} (j k : Nat) (h : j < 62) : kW B r u (B + j) k = kRf B u j k := by
  unfold kW; rw [if_neg (by omega), Nat.add_sub_cancel_left]
theorem kI_atc {α : Type} {B : Nat} {i c s : Nat → Nat → α} (j k : Nat) (h : j < 24) : kI B i c s (B + j) k = c j k := by
  unfold kI; rw [if_neg (by omega), if_pos (by omega), Nat.add_sub_cancel_left]
theorem kI_ats {α : Type} {B : Nat} {i c s : Nat → Nat → α} (j k : Nat) (h : 24 ≤ j ∧ j < 62) : kI B i c s (B + j) k = s (kFl j) k := by
  unfold kI; rw [if_neg (by omega), if_neg (by omega), Nat.add_sub_cancel_left]
theorem kI_wc {α : Type} {B : Nat} {i c s : Nat → Nat → α} (j k : Nat) (v : α) (h : j < 24) : mj_u2 (kI B i c s) (B + j) k v = kI B i (mj_u2 c j k v) s := by
  funext a b
  unfold mj_u2 kI
  by_cases e : a = B + j
  · subst e
    have n1 : ¬ (B + j < B ∨ B + 62 ≤ B + j) := by omega
    have n2 : B + j < B + 24 := by omega
    simp only [n1, n2, true_and, ↓reduceIte, Nat.add_sub_cancel_left]
  · by_cases h1 : a < B ∨ B + 62 ≤ a
    · simp [e, h1]
    · by_cases h2 : a < B + 24
      · have : ¬ a - B = j := by omega
        simp [e, h1, h2, this]
      · simp [e, h1, h2]
theorem kFl_inj {a b : Nat} (ha : 24 ≤ a ∧ a < 62) (hb : 24 ≤ b ∧ b < 62) (h : kFl a = kFl b) : a = b := by
  have h1 : ∀ a : Fin 62, ∀ b : Fin 62, 24 ≤ a.val → 24 ≤ b.val → kFl a.val = kFl b.val → a.val = b.val := by decide +kernel
  exact h1 ⟨a, ha.2⟩ ⟨b, hb.2⟩ ha.1 hb.1 h
theorem kI_ws {α : Type} {B : Nat} {i c s : Nat → Nat → α} (j k : Nat) (v : α) (h : 24 ≤ j ∧ j < 62) : mj_u2 (kI B i c s) (B + j) k v = kI B i c (mj_u2 s (kFl j) k v) := by
  funext a b
  unfold mj_u2 kI
  by_cases e : a = B + j
  · subst e
    have n1 : ¬ (B + j < B ∨ B + 62 ≤ B + j) := by omega
    have n2 : ¬ B + j < B + 24 := by omega
    simp only [n1, n2, true_and, ↓reduceIte, Nat.add_sub_cancel_left]
  · by_cases h1 : a < B ∨ B + 62 ≤ a
    · simp [e, h1]
    · by_cases h2 : a < B + 24
      · simp [e, h1, h2]
      · have : ¬ kFl (a - B) = kFl j := fun z => e (by have := kFl_inj ⟨by omega, by omega⟩ h z; omega)
        simp [e, h1, h2, this]
theorem kT_o {B a : Nat} {t : Nat → Nat} (h : B + 62 ≤ a) : kT B t a = t a := if_pos (.inr h)
theorem kL_o {B a : Nat} {l : Nat → Nat} (h : B + 62 ≤ a) : kL B l a = l a := if_pos (.inr h)
theorem kW_o {B a k : Nat} {r : Nat → Nat → Nat} {u : Nat → Nat} (h : B + 62 ≤ a) : kW B r u a k = r a k := if_pos (.inr h)
theorem kI_o {α : Type} {B a k : Nat} {i c s : Nat → Nat → α} (h : B + 62 ≤ a) : kI B i c s a k = i a k := if_pos (.inr h)
theorem kI_wo {α : Type} {B a k : Nat} {v : α} {i c s : Nat → Nat → α} (h : B + 62 ≤ a) : mj_u2 (kI B i c s) a k v = kI B (mj_u2 i a k v) c s := by
  funext x y
  unfold mj_u2 kI
  by_cases e : x = a
  · subst e; simp [h]
  · by_cases h1 : x < B ∨ B + 62 ≤ x
    · simp [e, h1]
    · by_cases h2 : x < B + 24 <;> simp [e, h1, h2]
theorem kW_wo {B a k v : Nat} {r : Nat → Nat → Nat} {u : Nat → Nat} (h : B + 62 ≤ a) : mj_u2 (kW B r u) a k v = kW B (mj_u2 r a k v) u := by
  funext x y
  unfold mj_u2 kW
  by_cases e : x = a
  · subst e; simp [h]
  · by_cases h1 : x < B ∨ B + 62 ≤ x <;> simp [e, h1]
theorem kT_n {B x c : Nat} {t : Nat → Nat} (h : B + 62 ≤ x) : mj_u1 (kT B t) x c = kT B (mj_u1 t x c) := by
  funext a
  unfold mj_u1 kT
  by_cases e : a = x
  · subst e; simp [h]
  · by_cases h1 : a < B ∨ B + 62 ≤ a <;> simp [e, h1]
theorem kL_n {B x c : Nat} {l : Nat → Nat} (h : B + 62 ≤ x) : mj_u1 (kL B l) x c = kL B (mj_u1 l x c) := by
  funext a
  unfold mj_u1 kL
  by_cases e : a = x
  · subst e; simp [h]
  · by_cases h1 : a < B ∨ B + 62 ≤ a <;> simp [e, h1]
theorem kI_n {α : Type} {B x : Nat} {v : Nat → α} {i c s : Nat → Nat → α} (h : B + 62 ≤ x) : mj_u1 (kI B i c s) x v = kI B (mj_u1 i x v) c s := by
  funext a k
  unfold mj_u1 kI
  by_cases e : a = x
  · subst e; simp [h]
  · by_cases h1 : a < B ∨ B + 62 ≤ a
    · simp [e, h1]
    · by_cases h2 : a < B + 24 <;> simp [e, h1, h2]
theorem kW_n {B x : Nat} {v : Nat → Nat} {r : Nat → Nat → Nat} {u : Nat → Nat} (h : B + 62 ≤ x) : mj_u1 (kW B r u) x v = kW B (mj_u1 r x v) u := by
  funext a k
  unfold mj_u1 kW
  by_cases e : a = x
  · subst e; simp [h]
  · by_cases h1 : a < B ∨ B + 62 ≤ a <;> simp [e, h1]
section
variable {B : Nat} {t l u : Nat → Nat} {r : Nat → Nat → Nat}
theorem kT_0 : kT B t B = 12 := kT_at 0 (by decide)
theorem kT_1 : kT B t (B + 1) = 5 := kT_at 1 (by decide)
theorem kT_2 : kT B t (B + 2) = 101 := kT_at 2 (by decide)
theorem kT_3 : kT B t (B + 3) = 101 := kT_at 3 (by decide)
theorem kT_4 : kT B t (B + 4) = 2 := kT_at 4 (by decide)
theorem kT_5 : kT B t (B + 5) = 101 := kT_at 5 (by decide)
theorem kT_6 : kT B t (B + 6) = 3 := kT_at 6 (by decide)
theorem kT_7 : kT B t (B + 7) = 9 := kT_at 7 (by decide)
theorem kT_8 : kT B t (B + 8) = 8 := kT_at 8 (by decide)
theorem kT_9 : kT B t (B + 9) = 6 := kT_at 9 (by decide)
theorem kT_10 : kT B t (B + 10) = 101 := kT_at 10 (by decide)
theorem kT_11 : kT B t (B + 11) = 101 := kT_at 11 (by decide)
theorem kT_12 : kT B t (B + 12) = 101 := kT_at 12 (by decide)
theorem kT_13 : kT B t (B + 13) = 11 := kT_at 13 (by decide)
theorem kT_14 : kT B t (B + 14) = 101 := kT_at 14 (by decide)
theorem kT_15 : kT B t (B + 15) = 101 := kT_at 15 (by decide)
theorem kT_16 : kT B t (B + 16) = 10 := kT_at 16 (by decide)
theorem kT_17 : kT B t (B + 17) = 101 := kT_at 17 (by decide)
theorem kT_18 : kT B t (B + 18) = 101 := kT_at 18 (by decide)
theorem kT_19 : kT B t (B + 19) = 101 := kT_at 19 (by decide)
theorem kT_20 : kT B t (B + 20) = 101 := kT_at 20 (by decide)
theorem kT_21 : kT B t (B + 21) = 101 := kT_at 21 (by decide)
theorem kT_22 : kT B t (B + 22) = 101 := kT_at 22 (by decide)
theorem kT_23 : kT B t (B + 23) = 101 := kT_at 23 (by decide)
theorem kT_24 : kT B t (B + 24) = 13 := kT_at 24 (by decide)
theorem kT_25 : kT B t (B + 25) = 101 := kT_at 25 (by decide)
theorem kT_26 : kT B t (B + 26) = 101 := kT_at 26 (by decide)
theorem kT_27 : kT B t (B + 27) = 101 := kT_at 27 (by decide)
theorem kT_28 : kT B t (B + 28) = 101 := kT_at 28 (by decide)
theorem kT_29 : kT B t (B + 29) = 101 := kT_at 29 (by decide)
theorem kT_30 : kT B t (B + 30) = 101 := kT_at 30 (by decide)
theorem kT_31 : kT B t (B + 31) = 101 := kT_at 31 (by decide)
theorem kT_32 : kT B t (B + 32) = 101 := kT_at 32 (by decide)
theorem kT_33 : kT B t (B + 33) = 101 := kT_at 33 (by decide)
theorem kT_34 : kT B t (B + 34) = 101 := kT_at 34 (by decide)
theorem kT_35 : kT B t (B + 35) = 101 := kT_at 35 (by decide)
theorem kT_36 : kT B t (B + 36) = 101 := kT_at 36 (by decide)
theorem kT_37 : kT B t (B + 37) = 101 := kT_at 37 (by decide)
theorem kT_38 : kT B t (B + 38) = 101 := kT_at 38 (by decide)
theorem kT_39 : kT B t (B + 39) = 101 := kT_at 39 (by decide)
theorem kT_40 : kT B t (B + 40) = 101 := kT_at 40 (by decide)
theorem kT_41 : kT B t (B + 41) = 101 := kT_at 41 (by decide)
theorem kT_42 : kT B t (B + 42) = 101 := kT_at 42 (by decide)
theorem kT_43 : kT B t (B + 43) = 103 := kT_at 43 (by decide)
theorem kT_44 : kT B t (B + 44) = 103 := kT_at 44 (by decide)
theorem kT_45 : kT B t (B + 45) = 103 := kT_at 45 (by decide)
theorem kT_46 : kT B t (B + 46) = 101 := kT_at 46 (by decide)
theorem kT_47 : kT B t (B + 47) = 101 := kT_at 47 (by decide)
theorem kT_48 : kT B t (B + 48) = 101 := kT_at 48 (by decide)
theorem kT_49 : kT B t (B + 49) = 101 := kT_at 49 (by decide)
theorem kT_50 : kT B t (B + 50) = 101 := kT_at 50 (by decide)
theorem kT_51 : kT B t (B + 51) = 103 := kT_at 51 (by decide)
theorem kT_52 : kT B t (B + 52) = 101 := kT_at 52 (by decide)
theorem kT_53 : kT B t (B + 53) = 101 := kT_at 53 (by decide)
theorem kT_54 : kT B t (B + 54) = 101 := kT_at 54 (by decide)
theorem kT_55 : kT B t (B + 55) = 101 := kT_at 55 (by decide)
theorem kT_56 : kT B t (B + 56) = 101 := kT_at 56 (by decide)
theorem kT_57 : kT B t (B + 57) = 102 := kT_at 57 (by decide)
theorem kT_58 : kT B t (B + 58) = 101 := kT_at 58 (by decide)
theorem kT_59 : kT B t (B + 59) = 101 := kT_at 59 (by decide)
theorem kT_60 : kT B t (B + 60) = 101 := kT_at 60 (by decide)
theorem kT_61 : kT B t (B + 61) = 101 := kT_at 61 (by decide)
theorem kL_2 : kL B l (B + 2) = 10 := kL_at 2 (by decide)
theorem kL_3 : kL B l (B + 3) = 12 := kL_at 3 (by decide)
theorem kL_5 : kL B l (B + 5) = 48 := kL_at 5 (by decide)
theorem kL_10 : kL B l (B + 10) = 12 := kL_at 10 (by decide)
theorem kL_11 : kL B l (B + 11) = 10 := kL_at 11 (by decide)
theorem kL_12 : kL B l (B + 12) = 10 := kL_at 12 (by decide)
theorem kL_14 : kL B l (B + 14) = 20 := kL_at 14 (by decide)
theorem kL_15 : kL B l (B + 15) = 20 := kL_at 15 (by decide)
theorem kL_17 : kL B l (B + 17) = 12 := kL_at 17 (by decide)
theorem kL_18 : kL B l (B + 18) = 12 := kL_at 18 (by decide)
theorem kL_19 : kL B l (B + 19) = 12 := kL_at 19 (by decide)
theorem kL_20 : kL B l (B + 20) = 12 := kL_at 20 (by decide)
theorem kL_21 : kL B l (B + 21) = 12 := kL_at 21 (by decide)
theorem kL_22 : kL B l (B + 22) = 12 := kL_at 22 (by decide)
theorem kL_23 : kL B l (B + 23) = 10 := kL_at 23 (by decide)
theorem kL_25 : kL B l (B + 25) = 40 := kL_at 25 (by decide)
theorem kL_26 : kL B l (B + 26) = 40 := kL_at 26 (by decide)
theorem kL_27 : kL B l (B + 27) = 40 := kL_at 27 (by decide)
theorem kL_28 : kL B l (B + 28) = 40 := kL_at 28 (by decide)
theorem kL_29 : kL B l (B + 29) = 40 := kL_at 29 (by decide)
theorem kL_30 : kL B l (B + 30) = 40 := kL_at 30 (by decide)
theorem kL_31 : kL B l (B + 31) = 40 := kL_at 31 (by decide)
theorem kL_32 : kL B l (B + 32) = 40 := kL_at 32 (by decide)
theorem kL_33 : kL B l (B + 33) = 40 := kL_at 33 (by decide)
theorem kL_34 : kL B l (B + 34) = 40 := kL_at 34 (by decide)
theorem kL_35 : kL B l (B + 35) = 40 := kL_at 35 (by decide)
theorem kL_36 : kL B l (B + 36) = 40 := kL_at 36 (by decide)
theorem kL_37 : kL B l (B + 37) = 12 := kL_at 37 (by decide)
theorem kL_38 : kL B l (B + 38) = 10 := kL_at 38 (by decide)
theorem kL_39 : kL B l (B + 39) = 624 := kL_at 39 (by decide)
theorem kL_40 : kL B l (B + 40) = 13 := kL_at 40 (by decide)
theorem kL_41 : kL B l (B + 41) = 12 := kL_at 41 (by decide)
theorem kL_42 : kL B l (B + 42) = 12 := kL_at 42 (by decide)
theorem kL_43 : kL B l (B + 43) = 49 := kL_at 43 (by decide)
theorem kL_44 : kL B l (B + 44) = 49 := kL_at 44 (by decide)
theorem kL_45 : kL B l (B + 45) = 49 := kL_at 45 (by decide)
theorem kL_46 : kL B l (B + 46) = 24 := kL_at 46 (by decide)
theorem kL_47 : kL B l (B + 47) = 24 := kL_at 47 (by decide)
theorem kL_48 : kL B l (B + 48) = 24 := kL_at 48 (by decide)
theorem kL_49 : kL B l (B + 49) = 24 := kL_at 49 (by decide)
theorem kL_50 : kL B l (B + 50) = 24 := kL_at 50 (by decide)
theorem kL_51 : kL B l (B + 51) = 40 := kL_at 51 (by decide)
theorem kL_52 : kL B l (B + 52) = 12 := kL_at 52 (by decide)
theorem kL_53 : kL B l (B + 53) = 10 := kL_at 53 (by decide)
theorem kL_54 : kL B l (B + 54) = 10 := kL_at 54 (by decide)
theorem kL_55 : kL B l (B + 55) = 20 := kL_at 55 (by decide)
theorem kL_56 : kL B l (B + 56) = 20 := kL_at 56 (by decide)
theorem kL_57 : kL B l (B + 57) = 40 := kL_at 57 (by decide)
theorem kL_58 : kL B l (B + 58) = 12 := kL_at 58 (by decide)
theorem kL_59 : kL B l (B + 59) = 12 := kL_at 59 (by decide)
theorem kL_60 : kL B l (B + 60) = 12 := kL_at 60 (by decide)
theorem kL_61 : kL B l (B + 61) = 12 := kL_at 61 (by decide)
theorem kW_0_0 : kW B r u B 0 = B + 1 := kW_at 0 0 (by decide)
theorem kW_0_1 : kW B r u B 1 = B + 4 := kW_at 0 1 (by decide)
theorem kW_0_2 : kW B r u B 2 = B + 7 := kW_at 0 2 (by decide)
theorem kW_0_3 : kW B r u B 3 = B + 8 := kW_at 0 3 (by decide)
theorem kW_0_4 : kW B r u B 4 = B + 9 := kW_at 0 4 (by decide)
theorem kW_0_5 : kW B r u B 5 = B + 13 := kW_at 0 5 (by decide)
theorem kW_0_6 : kW B r u B 6 = B + 16 := kW_at 0 6 (by decide)
theorem kW_0_7 : kW B r u B 7 = B + 23 := kW_at 0 7 (by decide)
theorem kW_1_4 : kW B r u (B + 1) 4 = B + 2 := kW_at 1 4 (by decide)
theorem kW_1_5 : kW B r u (B + 1) 5 = B + 3 := kW_at 1 5 (by decide)
theorem kW_4_0 : kW B r u (B + 4) 0 = B + 5 := kW_at 4 0 (by decide)
theorem kW_4_1 : kW B r u (B + 4) 1 = B + 6 := kW_at 4 1 (by decide)
theorem kW_9_0 : kW B r u (B + 9) 0 = B + 10 := kW_at 9 0 (by decide)
theorem kW_9_1 : kW B r u (B + 9) 1 = B + 11 := kW_at 9 1 (by decide)
theorem kW_9_2 : kW B r u (B + 9) 2 = B + 12 := kW_at 9 2 (by decide)
theorem kW_13_0 : kW B r u (B + 13) 0 = B + 14 := kW_at 13 0 (by decide)
theorem kW_13_1 : kW B r u (B + 13) 1 = B + 15 := kW_at 13 1 (by decide)
theorem kW_16_0 : kW B r u (B + 16) 0 = B + 17 := kW_at 16 0 (by decide)
theorem kW_16_1 : kW B r u (B + 16) 1 = B + 18 := kW_at 16 1 (by decide)
theorem kW_16_2 : kW B r u (B + 16) 2 = B + 19 := kW_at 16 2 (by decide)
theorem kW_16_3 : kW B r u (B + 16) 3 = B + 20 := kW_at 16 3 (by decide)
theorem kW_16_4 : kW B r u (B + 16) 4 = B + 21 := kW_at 16 4 (by decide)
theorem kW_16_5 : kW B r u (B + 16) 5 = B + 22 := kW_at 16 5 (by decide)
theorem kW_24_1 : kW B r u (B + 24) 1 = B + 25 := kW_at 24 1 (by decide)
theorem kW_24_2 : kW B r u (B + 24) 2 = B + 26 := kW_at 24 2 (by decide)
theorem kW_24_3 : kW B r u (B + 24) 3 = B + 27 := kW_at 24 3 (by decide)
theorem kW_24_4 : kW B r u (B + 24) 4 = B + 28 := kW_at 24 4 (by decide)
theorem kW_24_5 : kW B r u (B + 24) 5 = B + 29 := kW_at 24 5 (by decide)
theorem kW_24_6 : kW B r u (B + 24) 6 = B + 30 := kW_at 24 6 (by decide)
theorem kW_24_7 : kW B r u (B + 24) 7 = B + 31 := kW_at 24 7 (by decide)
theorem kW_24_8 : kW B r u (B + 24) 8 = B + 32 := kW_at 24 8 (by decide)
theorem kW_24_9 : kW B r u (B + 24) 9 = B + 33 := kW_at 24 9 (by decide)
theorem kW_24_10 : kW B r u (B + 24) 10 = B + 34 := kW_at 24 10 (by decide)
theorem kW_24_11 : kW B r u (B + 24) 11 = B + 35 := kW_at 24 11 (by decide)
theorem kW_24_12 : kW B r u (B + 24) 12 = B + 36 := kW_at 24 12 (by decide)
theorem kW_24_14 : kW B r u (B + 24) 14 = B + 37 := kW_at 24 14 (by decide)
theorem kW_24_15 : kW B r u (B + 24) 15 = B + 38 := kW_at 24 15 (by decide)
theorem kW_24_16 : kW B r u (B + 24) 16 = B + 39 := kW_at 24 16 (by decide)
theorem kW_24_17 : kW B r u (B + 24) 17 = B + 40 := kW_at 24 17 (by decide)
theorem kW_24_18 : kW B r u (B + 24) 18 = B + 41 := kW_at 24 18 (by decide)
theorem kW_24_19 : kW B r u (B + 24) 19 = B + 42 := kW_at 24 19 (by decide)
theorem kW_24_21 : kW B r u (B + 24) 21 = B + 43 := kW_at 24 21 (by decide)
theorem kW_24_22 : kW B r u (B + 24) 22 = B + 44 := kW_at 24 22 (by decide)
theorem kW_24_23 : kW B r u (B + 24) 23 = B + 45 := kW_at 24 23 (by decide)
theorem kW_24_25 : kW B r u (B + 24) 25 = B + 46 := kW_at 24 25 (by decide)
theorem kW_24_26 : kW B r u (B + 24) 26 = B + 47 := kW_at 24 26 (by decide)
theorem kW_24_27 : kW B r u (B + 24) 27 = B + 48 := kW_at 24 27 (by decide)
theorem kW_24_28 : kW B r u (B + 24) 28 = B + 49 := kW_at 24 28 (by decide)
theorem kW_24_29 : kW B r u (B + 24) 29 = B + 50 := kW_at 24 29 (by decide)
theorem kW_24_31 : kW B r u (B + 24) 31 = B + 51 := kW_at 24 31 (by decide)
theorem kW_24_32 : kW B r u (B + 24) 32 = B + 52 := kW_at 24 32 (by decide)
theorem kW_24_33 : kW B r u (B + 24) 33 = B + 53 := kW_at 24 33 (by decide)
theorem kW_24_34 : kW B r u (B + 24) 34 = B + 54 := kW_at 24 34 (by decide)
theorem kW_24_36 : kW B r u (B + 24) 36 = B + 55 := kW_at 24 36 (by decide)
theorem kW_24_37 : kW B r u (B + 24) 37 = B + 56 := kW_at 24 37 (by decide)
theorem kW_24_44 : kW B r u (B + 24) 44 = B + 57 := kW_at 24 44 (by decide)
theorem kW_24_49 : kW B r u (B + 24) 49 = B + 58 := kW_at 24 49 (by decide)
theorem kW_24_50 : kW B r u (B + 24) 50 = B + 59 := kW_at 24 50 (by decide)
theorem kW_24_51 : kW B r u (B + 24) 51 = B + 60 := kW_at 24 51 (by decide)
theorem kW_24_52 : kW B r u (B + 24) 52 = B + 61 := kW_at 24 52 (by decide)
theorem kW_1_1 : kW B r u (B + 1) 1 = u 0 := kW_at 1 1 (by decide)
theorem kW_1_2 : kW B r u (B + 1) 2 = u 1 := kW_at 1 2 (by decide)
theorem kW_4_4 : kW B r u (B + 4) 4 = u 2 := kW_at 4 4 (by decide)
theorem kW_8_0 : kW B r u (B + 8) 0 = u 3 := kW_at 8 0 (by decide)
theorem kW_8_1 : kW B r u (B + 8) 1 = u 4 := kW_at 8 1 (by decide)
theorem kW_w1_1 {v : Nat} : mj_u2 (kW B r u) (B + 1) 1 v = kW B r (mj_u1 u 0 v) := by
  funext x y
  unfold mj_u2 mj_u1 kW
  by_cases e : x = B + 1
  · subst e
    have n1 : ¬ (B + 1 < B ∨ B + 62 ≤ B + 1) := by omega
    simp only [n1, true_and, ↓reduceIte, Nat.add_sub_cancel_left]
    by_cases ek : y = 1
    · subst ek; simp [kRf]
    · simp only [ek, ↓reduceIte]
      unfold kRf
      split <;> simp_all
  · simp only [e, false_and, ↓reduceIte]
    by_cases h1 : x < B ∨ B + 62 ≤ x
    · simp only [h1, ↓reduceIte]
    · simp only [h1, ↓reduceIte]
      have e' : ¬ x - B = 1 := by omega
      unfold kRf
      split <;> simp_all
theorem kW_w1_2 {v : Nat} : mj_u2 (kW B r u) (B + 1) 2 v = kW B r (mj_u1 u 1 v) := by
  funext x y
  unfold mj_u2 mj_u1 kW
  by_cases e : x = B + 1
  · subst e
    have n1 : ¬ (B + 1 < B ∨ B + 62 ≤ B + 1) := by omega
    simp only [n1, true_and, ↓reduceIte, Nat.add_sub_cancel_left]
    by_cases ek : y = 2
    · subst ek; simp [kRf]
    · simp only [ek, ↓reduceIte]
      unfold kRf
      split <;> simp_all
  · simp only [e, false_and, ↓reduceIte]
    by_cases h1 : x < B ∨ B + 62 ≤ x
    · simp only [h1, ↓reduceIte]
    · simp only [h1, ↓reduceIte]
      have e' : ¬ x - B = 1 := by omega
      unfold kRf
      split <;> simp_all
theorem kW_w4_4 {v : Nat} : mj_u2 (kW B r u) (B + 4) 4 v = kW B r (mj_u1 u 2 v) := by
  funext x y
  unfold mj_u2 mj_u1 kW
  by_cases e : x = B + 4
  · subst e
    have n1 : ¬ (B + 4 < B ∨ B + 62 ≤ B + 4) := by omega
    simp only [n1, true_and, ↓reduceIte, Nat.add_sub_cancel_left]
    by_cases ek : y = 4
    · subst ek; simp [kRf]
    · simp only [ek, ↓reduceIte]
      unfold kRf
      split <;> simp_all
  · simp only [e, false_and, ↓reduceIte]
    by_cases h1 : x < B ∨ B + 62 ≤ x
    · simp only [h1, ↓reduceIte]
    · simp only [h1, ↓reduceIte]
      have e' : ¬ x - B = 4 := by omega
      unfold kRf
      split <;> simp_all
theorem kW_w8_0 {v : Nat} : mj_u2 (kW B r u) (B + 8) 0 v = kW B r (mj_u1 u 3 v) := by
  funext x y
  unfold mj_u2 mj_u1 kW
  by_cases e : x = B + 8
  · subst e
    have n1 : ¬ (B + 8 < B ∨ B + 62 ≤ B + 8) := by omega
    simp only [n1, true_and, ↓reduceIte, Nat.add_sub_cancel_left]
    by_cases ek : y = 0
    · subst ek; simp [kRf]
    · simp only [ek, ↓reduceIte]
      unfold kRf
      split <;> simp_all
  · simp only [e, false_and, ↓reduceIte]
    by_cases h1 : x < B ∨ B + 62 ≤ x
    · simp only [h1, ↓reduceIte]
    · simp only [h1, ↓reduceIte]
      have e' : ¬ x - B = 8 := by omega
      unfold kRf
      split <;> simp_all
theorem kW_w8_1 {v : Nat} : mj_u2 (kW B r u) (B + 8) 1 v = kW B r (mj_u1 u 4 v) := by
  funext x y
  unfold mj_u2 mj_u1 kW
  by_cases e : x = B + 8
  · subst e
    have n1 : ¬ (B + 8 < B ∨ B + 62 ≤ B + 8) := by omega
    simp only [n1, true_and, ↓reduceIte, Nat.add_sub_cancel_left]
    by_cases ek : y = 1
    · subst ek; simp [kRf]
    · simp only [ek, ↓reduceIte]
      unfold kRf
      split <;> simp_all
  · simp only [e, false_and, ↓reduceIte]
    by_cases h1 : x < B ∨ B + 62 ≤ x
    · simp only [h1, ↓reduceIte]
    · simp only [h1, ↓reduceIte]
      have e' : ¬ x - B = 8 := by omega
      unfold kRf
      split <;> simp_all
end
section
variable {α : Type} {B k : Nat} {v : α} {i c s : Nat → Nat → α}
theorem kI_0 : kI B i c s B k = c 0 k := kI_atc 0 k (by decide)
theorem kI_w0 : mj_u2 (kI B i c s) B k v = kI B i (mj_u2 c 0 k v) s := kI_wc 0 k v (by decide)
theorem kI_1 : kI B i c s (B + 1) k = c 1 k := kI_atc 1 k (by decide)
theorem kI_w1 : mj_u2 (kI B i c s) (B + 1) k v = kI B i (mj_u2 c 1 k v) s := kI_wc 1 k v (by decide)
theorem kI_2 : kI B i c s (B + 2) k = c 2 k := kI_atc 2 k (by decide)
theorem kI_w2 : mj_u2 (kI B i c s) (B + 2) k v = kI B i (mj_u2 c 2 k v) s := kI_wc 2 k v (by decide)
theorem kI_3 : kI B i c s (B + 3) k = c 3 k := kI_atc 3 k (by decide)
theorem kI_w3 : mj_u2 (kI B i c s) (B + 3) k v = kI B i (mj_u2 c 3 k v) s := kI_wc 3 k v (by decide)
theorem kI_4 : kI B i c s (B + 4) k = c 4 k := kI_atc 4 k (by decide)
theorem kI_w4 : mj_u2 (kI B i c s) (B + 4) k v = kI B i (mj_u2 c 4 k v) s := kI_wc 4 k v (by decide)
theorem kI_5 : kI B i c s (B + 5) k = c 5 k := kI_atc 5 k (by decide)
theorem kI_w5 : mj_u2 (kI B i c s) (B + 5) k v = kI B i (mj_u2 c 5 k v) s := kI_wc 5 k v (by decide)
theorem kI_6 : kI B i c s (B + 6) k = c 6 k := kI_atc 6 k (by decide)
theorem kI_w6 : mj_u2 (kI B i c s) (B + 6) k v = kI B i (mj_u2 c 6 k v) s := kI_wc 6 k v (by decide)
theorem kI_7 : kI B i c s (B + 7) k = c 7 k := kI_atc 7 k (by decide)
theorem kI_w7 : mj_u2 (kI B i c s) (B + 7) k v = kI B i (mj_u2 c 7 k v) s := kI_wc 7 k v (by decide)
theorem kI_8 : kI B i c s (B + 8) k = c 8 k := kI_atc 8 k (by decide)
theorem kI_w8 : mj_u2 (kI B i c s) (B + 8) k v = kI B i (mj_u2 c 8 k v) s := kI_wc 8 k v (by decide)
theorem kI_9 : kI B i c s (B + 9) k = c 9 k := kI_atc 9 k (by decide)
theorem kI_w9 : mj_u2 (kI B i c s) (B + 9) k v = kI B i (mj_u2 c 9 k v) s := kI_wc 9 k v (by decide)
theorem kI_10 : kI B i c s (B + 10) k = c 10 k := kI_atc 10 k (by decide)
theorem kI_w10 : mj_u2 (kI B i c s) (B + 10) k v = kI B i (mj_u2 c 10 k v) s := kI_wc 10 k v (by decide)
theorem kI_11 : kI B i c s (B + 11) k = c 11 k := kI_atc 11 k (by decide)
theorem kI_w11 : mj_u2 (kI B i c s) (B + 11) k v = kI B i (mj_u2 c 11 k v) s := kI_wc 11 k v (by decide)
theorem kI_12 : kI B i c s (B + 12) k = c 12 k := kI_atc 12 k (by decide)
theorem kI_w12 : mj_u2 (kI B i c s) (B + 12) k v = kI B i (mj_u2 c 12 k v) s := kI_wc 12 k v (by decide)
theorem kI_13 : kI B i c s (B + 13) k = c 13 k := kI_atc 13 k (by decide)
theorem kI_w13 : mj_u2 (kI B i c s) (B + 13) k v = kI B i (mj_u2 c 13 k v) s := kI_wc 13 k v (by decide)
theorem kI_14 : kI B i c s (B + 14) k = c 14 k := kI_atc 14 k (by decide)
theorem kI_w14 : mj_u2 (kI B i c s) (B + 14) k v = kI B i (mj_u2 c 14 k v) s := kI_wc 14 k v (by decide)
theorem kI_15 : kI B i c s (B + 15) k = c 15 k := kI_atc 15 k (by decide)
theorem kI_w15 : mj_u2 (kI B i c s) (B + 15) k v = kI B i (mj_u2 c 15 k v) s := kI_wc 15 k v (by decide)
theorem kI_16 : kI B i c s (B + 16) k = c 16 k := kI_atc 16 k (by decide)
theorem kI_w16 : mj_u2 (kI B i c s) (B + 16) k v = kI B i (mj_u2 c 16 k v) s := kI_wc 16 k v (by decide)
theorem kI_17 : kI B i c s (B + 17) k = c 17 k := kI_atc 17 k (by decide)
theorem kI_w17 : mj_u2 (kI B i c s) (B + 17) k v = kI B i (mj_u2 c 17 k v) s := kI_wc 17 k v (by decide)
theorem kI_18 : kI B i c s (B + 18) k = c 18 k := kI_atc 18 k (by decide)
theorem kI_w18 : mj_u2 (kI B i c s) (B + 18) k v = kI B i (mj_u2 c 18 k v) s := kI_wc 18 k v (by decide)
theorem kI_19 : kI B i c s (B + 19) k = c 19 k := kI_atc 19 k (by decide)
theorem kI_w19 : mj_u2 (kI B i c s) (B + 19) k v = kI B i (mj_u2 c 19 k v) s := kI_wc 19 k v (by decide)
theorem kI_20 : kI B i c s (B + 20) k = c 20 k := kI_atc 20 k (by decide)
theorem kI_w20 : mj_u2 (kI B i c s) (B + 20) k v = kI B i (mj_u2 c 20 k v) s := kI_wc 20 k v (by decide)
theorem kI_21 : kI B i c s (B + 21) k = c 21 k := kI_atc 21 k (by decide)
theorem kI_w21 : mj_u2 (kI B i c s) (B + 21) k v = kI B i (mj_u2 c 21 k v) s := kI_wc 21 k v (by decide)
theorem kI_22 : kI B i c s (B + 22) k = c 22 k := kI_atc 22 k (by decide)
theorem kI_w22 : mj_u2 (kI B i c s) (B + 22) k v = kI B i (mj_u2 c 22 k v) s := kI_wc 22 k v (by decide)
theorem kI_23 : kI B i c s (B + 23) k = c 23 k := kI_atc 23 k (by decide)
theorem kI_w23 : mj_u2 (kI B i c s) (B + 23) k v = kI B i (mj_u2 c 23 k v) s := kI_wc 23 k v (by decide)
theorem kI_24 : kI B i c s (B + 24) k = s 0 k := kI_ats 24 k (by decide)
theorem kI_w24 : mj_u2 (kI B i c s) (B + 24) k v = kI B i c (mj_u2 s 0 k v) := kI_ws 24 k v (by decide)
theorem kI_25 : kI B i c s (B + 25) k = s 1 k := kI_ats 25 k (by decide)
theorem kI_w25 : mj_u2 (kI B i c s) (B + 25) k v = kI B i c (mj_u2 s 1 k v) := kI_ws 25 k v (by decide)
theorem kI_26 : kI B i c s (B + 26) k = s 2 k := kI_ats 26 k (by decide)
theorem kI_w26 : mj_u2 (kI B i c s) (B + 26) k v = kI B i c (mj_u2 s 2 k v) := kI_ws 26 k v (by decide)
theorem kI_27 : kI B i c s (B + 27) k = s 3 k := kI_ats 27 k (by decide)
theorem kI_w27 : mj_u2 (kI B i c s) (B + 27) k v = kI B i c (mj_u2 s 3 k v) := kI_ws 27 k v (by decide)
theorem kI_28 : kI B i c s (B + 28) k = s 4 k := kI_ats 28 k (by decide)
theorem kI_w28 : mj_u2 (kI B i c s) (B + 28) k v = kI B i c (mj_u2 s 4 k v) := kI_ws 28 k v (by decide)
theorem kI_29 : kI B i c s (B + 29) k = s 5 k := kI_ats 29 k (by decide)
theorem kI_w29 : mj_u2 (kI B i c s) (B + 29) k v = kI B i c (mj_u2 s 5 k v) := kI_ws 29 k v (by decide)
theorem kI_30 : kI B i c s (B + 30) k = s 6 k := kI_ats 30 k (by decide)
theorem kI_w30 : mj_u2 (kI B i c s) (B + 30) k v = kI B i c (mj_u2 s 6 k v) := kI_ws 30 k v (by decide)
theorem kI_31 : kI B i c s (B + 31) k = s 7 k := kI_ats 31 k (by decide)
theorem kI_w31 : mj_u2 (kI B i c s) (B + 31) k v = kI B i c (mj_u2 s 7 k v) := kI_ws 31 k v (by decide)
theorem kI_32 : kI B i c s (B + 32) k = s 8 k := kI_ats 32 k (by decide)
theorem kI_w32 : mj_u2 (kI B i c s) (B + 32) k v = kI B i c (mj_u2 s 8 k v) := kI_ws 32 k v (by decide)
theorem kI_33 : kI B i c s (B + 33) k = s 9 k := kI_ats 33 k (by decide)
theorem kI_w33 : mj_u2 (kI B i c s) (B + 33) k v = kI B i c (mj_u2 s 9 k v) := kI_ws 33 k v (by decide)
theorem kI_34 : kI B i c s (B + 34) k = s 10 k := kI_ats 34 k (by decide)
theorem kI_w34 : mj_u2 (kI B i c s) (B + 34) k v = kI B i c (mj_u2 s 10 k v) := kI_ws 34 k v (by decide)
theorem kI_35 : kI B i c s (B + 35) k = s 11 k := kI_ats 35 k (by decide)
theorem kI_w35 : mj_u2 (kI B i c s) (B + 35) k v = kI B i c (mj_u2 s 11 k v) := kI_ws 35 k v (by decide)
theorem kI_36 : kI B i c s (B + 36) k = s 12 k := kI_ats 36 k (by decide)
theorem kI_w36 : mj_u2 (kI B i c s) (B + 36) k v = kI B i c (mj_u2 s 12 k v) := kI_ws 36 k v (by decide)
theorem kI_37 : kI B i c s (B + 37) k = s 14 k := kI_ats 37 k (by decide)
theorem kI_w37 : mj_u2 (kI B i c s) (B + 37) k v = kI B i c (mj_u2 s 14 k v) := kI_ws 37 k v (by decide)
theorem kI_38 : kI B i c s (B + 38) k = s 15 k := kI_ats 38 k (by decide)
theorem kI_w38 : mj_u2 (kI B i c s) (B + 38) k v = kI B i c (mj_u2 s 15 k v) := kI_ws 38 k v (by decide)
theorem kI_39 : kI B i c s (B + 39) k = s 16 k := kI_ats 39 k (by decide)
theorem kI_w39 : mj_u2 (kI B i c s) (B + 39) k v = kI B i c (mj_u2 s 16 k v) := kI_ws 39 k v (by decide)
theorem kI_40 : kI B i c s (B + 40) k = s 17 k := kI_ats 40 k (by decide)
theorem kI_w40 : mj_u2 (kI B i c s) (B + 40) k v = kI B i c (mj_u2 s 17 k v) := kI_ws 40 k v (by decide)
theorem kI_41 : kI B i c s (B + 41) k = s 18 k := kI_ats 41 k (by decide)
theorem kI_w41 : mj_u2 (kI B i c s) (B + 41) k v = kI B i c (mj_u2 s 18 k v) := kI_ws 41 k v (by decide)
theorem kI_42 : kI B i c s (B + 42) k = s 19 k := kI_ats 42 k (by decide)
theorem kI_w42 : mj_u2 (kI B i c s) (B + 42) k v = kI B i c (mj_u2 s 19 k v) := kI_ws 42 k v (by decide)
theorem kI_43 : kI B i c s (B + 43) k = s 21 k := kI_ats 43 k (by decide)
theorem kI_w43 : mj_u2 (kI B i c s) (B + 43) k v = kI B i c (mj_u2 s 21 k v) := kI_ws 43 k v (by decide)
theorem kI_44 : kI B i c s (B + 44) k = s 22 k := kI_ats 44 k (by decide)
theorem kI_w44 : mj_u2 (kI B i c s) (B + 44) k v = kI B i c (mj_u2 s 22 k v) := kI_ws 44 k v (by decide)
theorem kI_45 : kI B i c s (B + 45) k = s 23 k := kI_ats 45 k (by decide)
theorem kI_w45 : mj_u2 (kI B i c s) (B + 45) k v = kI B i c (mj_u2 s 23 k v) := kI_ws 45 k v (by decide)
theorem kI_46 : kI B i c s (B + 46) k = s 25 k := kI_ats 46 k (by decide)
theorem kI_w46 : mj_u2 (kI B i c s) (B + 46) k v = kI B i c (mj_u2 s 25 k v) := kI_ws 46 k v (by decide)
theorem kI_47 : kI B i c s (B + 47) k = s 26 k := kI_ats 47 k (by decide)
theorem kI_w47 : mj_u2 (kI B i c s) (B + 47) k v = kI B i c (mj_u2 s 26 k v) := kI_ws 47 k v (by decide)
theorem kI_48 : kI B i c s (B + 48) k = s 27 k := kI_ats 48 k (by decide)
theorem kI_w48 : mj_u2 (kI B i c s) (B + 48) k v = kI B i c (mj_u2 s 27 k v) := kI_ws 48 k v (by decide)
theorem kI_49 : kI B i c s (B + 49) k = s 28 k := kI_ats 49 k (by decide)
theorem kI_w49 : mj_u2 (kI B i c s) (B + 49) k v = kI B i c (mj_u2 s 28 k v) := kI_ws 49 k v (by decide)
theorem kI_50 : kI B i c s (B + 50) k = s 29 k := kI_ats 50 k (by decide)
theorem kI_w50 : mj_u2 (kI B i c s) (B + 50) k v = kI B i c (mj_u2 s 29 k v) := kI_ws 50 k v (by decide)
theorem kI_51 : kI B i c s (B + 51) k = s 31 k := kI_ats 51 k (by decide)
theorem kI_w51 : mj_u2 (kI B i c s) (B + 51) k v = kI B i c (mj_u2 s 31 k v) := kI_ws 51 k v (by decide)
theorem kI_52 : kI B i c s (B + 52) k = s 32 k := kI_ats 52 k (by decide)
theorem kI_w52 : mj_u2 (kI B i c s) (B + 52) k v = kI B i c (mj_u2 s 32 k v) := kI_ws 52 k v (by decide)
theorem kI_53 : kI B i c s (B + 53) k = s 33 k := kI_ats 53 k (by decide)
theorem kI_w53 : mj_u2 (kI B i c s) (B + 53) k v = kI B i c (mj_u2 s 33 k v) := kI_ws 53 k v (by decide)
theorem kI_54 : kI B i c s (B + 54) k = s 34 k := kI_ats 54 k (by decide)
theorem kI_w54 : mj_u2 (kI B i c s) (B + 54) k v = kI B i c (mj_u2 s 34 k v) := kI_ws 54 k v (by decide)
theorem kI_55 : kI B i c s (B + 55) k = s 36 k := kI_ats 55 k (by decide)
theorem kI_w55 : mj_u2 (kI B i c s) (B + 55) k v = kI B i c (mj_u2 s 36 k v) := kI_ws 55 k v (by decide)
theorem kI_56 : kI B i c s (B + 56) k = s 37 k := kI_ats 56 k (by decide)
theorem kI_w56 : mj_u2 (kI B i c s) (B + 56) k v = kI B i c (mj_u2 s 37 k v) := kI_ws 56 k v (by decide)
theorem kI_57 : kI B i c s (B + 57) k = s 44 k := kI_ats 57 k (by decide)
theorem kI_w57 : mj_u2 (kI B i c s) (B + 57) k v = kI B i c (mj_u2 s 44 k v) := kI_ws 57 k v (by decide)
theorem kI_58 : kI B i c s (B + 58) k = s 49 k := kI_ats 58 k (by decide)
theorem kI_w58 : mj_u2 (kI B i c s) (B + 58) k v = kI B i c (mj_u2 s 49 k v) := kI_ws 58 k v (by decide)
theorem kI_59 : kI B i c s (B + 59) k = s 50 k := kI_ats 59 k (by decide)
theorem kI_w59 : mj_u2 (kI B i c s) (B + 59) k v = kI B i c (mj_u2 s 50 k v) := kI_ws 59 k v (by decide)
theorem kI_60 : kI B i c s (B + 60) k = s 51 k := kI_ats 60 k (by decide)
theorem kI_w60 : mj_u2 (kI B i c s) (B + 60) k v = kI B i c (mj_u2 s 51 k v) := kI_ws 60 k v (by decide)
theorem kI_61 : kI B i c s (B + 61) k = s 52 k := kI_ats 61 k (by decide)
theorem kI_w61 : mj_u2 (kI B i c s) (B + 61) k v = kI B i c (mj_u2 s 52 k v) := kI_ws 61 k v (by decide)
end

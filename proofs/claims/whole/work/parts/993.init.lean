/-! STAGE B: THE START: the memory grows to its one form -/
def kpT (B j : Nat) : Nat → Nat := fun a => if B ≤ a ∧ a < B + j then kTg (a - B) else 0
def kpL (B j : Nat) : Nat → Nat := fun a => if B ≤ a ∧ a < B + j then kLg (a - B) else 0
def kpI (B j : Nat) (c s : Nat → Nat → Int32) : Nat → Nat → Int32 := fun a k => if B ≤ a ∧ a < B + j then (if a < B + 24 then c (a - B) k else s (kFl (a - B)) k) else 0
def kpW (B j : Nat) (f : Nat → Nat → Nat) : Nat → Nat → Nat := fun a k => if B ≤ a ∧ a < B + j then f (a - B) k else 0
def kpM (B j : Nat) (c s : Nat → Nat → Int32) (f : Nat → Nat → Nat) : mj_M := (kpT B j, kpL B j, kpI B j c s, kpW B j f, fun _ _ => 0, B + j)
section
variable {B j : Nat} {c s : Nat → Nat → Int32} {f : Nat → Nat → Nat}
theorem kp_tag {a : Nat} (h : a < j) : mj_tag (kpM B j c s f) (B + a) = kTg a := by
  show kpT B j (B + a) = _
  unfold kpT; rw [if_pos (by omega), Nat.add_sub_cancel_left]
theorem kp_len {a : Nat} (h : a < j) : mj_len (kpM B j c s f) (B + a) = kLg a := by
  show kpL B j (B + a) = _
  unfold kpL; rw [if_pos (by omega), Nat.add_sub_cancel_left]
theorem kp_r {a k : Nat} (h : a < j) : mj_r (kpM B j c s f) (B + a) k = f a k := by
  show kpW B j f (B + a) k = _
  unfold kpW; rw [if_pos (by omega), Nat.add_sub_cancel_left]
theorem kp_nx : mj_nx (kpM B j c s f) = B + j := rfl
theorem kpT_n {v : Nat} (h : kTg j = v) : mj_u1 (kpT B j) (B + j) v = kpT B (j + 1) := by
  funext a
  unfold mj_u1 kpT
  by_cases e : a = B + j
  · subst e; rw [if_pos rfl, if_pos (by omega), Nat.add_sub_cancel_left]; exact h.symm
  · rw [if_neg e]
    by_cases y : B ≤ a ∧ a < B + j
    · rw [if_pos y, if_pos (by omega)]
    · rw [if_neg y, if_neg (by omega)]
theorem kpL_n {v : Nat} (h : kLg j = v) : mj_u1 (kpL B j) (B + j) v = kpL B (j + 1) := by
  funext a
  unfold mj_u1 kpL
  by_cases e : a = B + j
  · subst e; rw [if_pos rfl, if_pos (by omega), Nat.add_sub_cancel_left]; exact h.symm
  · rw [if_neg e]
    by_cases y : B ≤ a ∧ a < B + j
    · rw [if_pos y, if_pos (by omega)]
    · rw [if_neg y, if_neg (by omega)]
theorem kpL_0 (h : kLg j = 0) : kpL B j = kpL B (j + 1) := by
  funext a
  unfold kpL
  by_cases e : a = B + j
  · subst e; rw [if_neg (by omega), if_pos (by omega), Nat.add_sub_cancel_left]; exact h.symm
  · by_cases y : B ≤ a ∧ a < B + j
    · rw [if_pos y, if_pos (by omega)]
    · rw [if_neg y, if_neg (by omega)]
theorem kpI_n (hc : j < 24 → c j = fun _ => 0) (hs : 24 ≤ j → s (kFl j) = fun _ => 0) : mj_u1 (kpI B j c s) (B + j) (fun _ => 0) = kpI B (j + 1) c s := by
  funext a k
  unfold mj_u1 kpI
  by_cases e : a = B + j
  · subst e
    rw [if_pos rfl, if_pos (by omega), Nat.add_sub_cancel_left]
    by_cases y : j < 24
    · rw [if_pos (by omega), hc y]
    · rw [if_neg (by omega), hs (by omega)]
  · rw [if_neg e]
    by_cases y : B ≤ a ∧ a < B + j
    · rw [if_pos y, if_pos (show B ≤ a ∧ a < B + (j + 1) by omega)]
    · rw [if_neg y, if_neg (show ¬ (B ≤ a ∧ a < B + (j + 1)) by omega)]
theorem kpW_n (h : f j = fun _ => 0) : mj_u1 (kpW B j f) (B + j) (fun _ => 0) = kpW B (j + 1) f := by
  funext a k
  unfold mj_u1 kpW
  by_cases e : a = B + j
  · subst e
    rw [if_pos rfl, if_pos (by omega), Nat.add_sub_cancel_left, h]
  · rw [if_neg e]
    by_cases y : B ≤ a ∧ a < B + j
    · rw [if_pos y, if_pos (by omega)]
    · rw [if_neg y, if_neg (by omega)]
theorem kpW_0 (h : f j = fun _ => 0) : kpW B j f = kpW B (j + 1) f := by
  funext a k
  unfold kpW
  by_cases e : a = B + j
  · subst e
    rw [if_neg (by omega), if_pos (by omega), Nat.add_sub_cancel_left, h]
  · by_cases y : B ≤ a ∧ a < B + j
    · rw [if_pos y, if_pos (by omega)]
    · rw [if_neg y, if_neg (by omega)]
theorem kp_new {j' v : Nat} (hj : j + 1 = j') (hT : kTg j = v + 1) (hL : kLg j = 0) (hc : j < 24 → c j = fun _ => 0) (hs : 24 ≤ j → s (kFl j) = fun _ => 0) (hf : f j = fun _ => 0) : mj_new (kpM B j c s f) v = kpM B j' c s f := by
  subst hj
  unfold kpM
  rw [mq_new, kpT_n hT, ← kpL_0 hL, kpI_n hc hs, kpW_n hf, show mj_u1 (fun _ _ => (0 : Int64)) (B + j) (fun _ => 0) = fun _ _ => 0 from by funext a k; unfold mj_u1; split <;> rfl]
  rfl
theorem kp_newa {j' v n : Nat} (hj : j + 1 = j') (hT : kTg j = v) (hL : kLg j = n) (hc : j < 24 → c j = fun _ => 0) (hs : 24 ≤ j → s (kFl j) = fun _ => 0) (hf : f j = fun _ => 0) : mj_newa (kpM B j c s f) v n = kpM B j' c s f := by
  subst hj
  unfold kpM
  rw [mq_newa, kpT_n hT, kpL_n hL, kpI_n hc hs, ← kpW_0 hf, show mj_u1 (fun _ _ => (0 : Int64)) (B + j) (fun _ => 0) = fun _ _ => 0 from by funext a k; unfold mj_u1; split <;> rfl]
  rfl
theorem kp_wr {a k v : Nat} (h : a < j) : mj_wr (kpM B j c s f) (B + a) k v = kpM B j c s (mj_u2 f a k v) := by
  unfold kpM
  rw [mq_wr]
  have e : mj_u2 (kpW B j f) (B + a) k v = kpW B j (mj_u2 f a k v) := by
    funext x y
    unfold mj_u2 kpW
    by_cases e : x = B + a
    · subst e
      rw [if_pos (show B ≤ B + a ∧ B + a < B + j by omega), if_pos (show B ≤ B + a ∧ B + a < B + j by omega), Nat.add_sub_cancel_left]
      simp only [true_and]
    · by_cases z : B ≤ x ∧ x < B + j
      · have : ¬ x - B = a := by omega
        simp only [e, this, false_and, ↓reduceIte]
      · simp only [e, z, false_and, ↓reduceIte]
  rw [e]
theorem kp_wr0 {k v : Nat} (h : 0 < j) : mj_wr (kpM B j c s f) B k v = kpM B j c s (mj_u2 f 0 k v) := kp_wr (a := 0) h
theorem kp_tag0 (h : 0 < j) : mj_tag (kpM B j c s f) B = 12 := kp_tag (a := 0) h
theorem kp_wc {a k : Nat} {v : Int32} (h : a < j) (h24 : a < 24) : mj_wi (kpM B j c s f) (B + a) k v = kpM B j (mj_u2 c a k v) s f := by
  unfold kpM
  rw [mq_wi]
  have e : mj_u2 (kpI B j c s) (B + a) k v = kpI B j (mj_u2 c a k v) s := by
    funext x y
    unfold mj_u2 kpI
    by_cases e : x = B + a
    · subst e
      rw [if_pos (show B ≤ B + a ∧ B + a < B + j by omega), if_pos (show B ≤ B + a ∧ B + a < B + j by omega), if_pos (show B + a < B + 24 by omega), if_pos (show B + a < B + 24 by omega), Nat.add_sub_cancel_left]
      simp only [true_and]
    · by_cases z : B ≤ x ∧ x < B + j
      · have : ¬ x - B = a := by omega
        simp only [e, this, false_and, ↓reduceIte]
      · simp only [e, z, false_and, ↓reduceIte]
  rw [e]
theorem kp_ws {a k : Nat} {v : Int32} (h : a < j) (h24 : 24 ≤ a) (h62 : j ≤ 62) : mj_wi (kpM B j c s f) (B + a) k v = kpM B j c (mj_u2 s (kFl a) k v) f := by
  unfold kpM
  rw [mq_wi]
  have e : mj_u2 (kpI B j c s) (B + a) k v = kpI B j c (mj_u2 s (kFl a) k v) := by
    funext x y
    unfold mj_u2 kpI
    by_cases e : x = B + a
    · subst e
      rw [if_pos (show B ≤ B + a ∧ B + a < B + j by omega), if_pos (show B ≤ B + a ∧ B + a < B + j by omega), if_neg (show ¬ B + a < B + 24 by omega), if_neg (show ¬ B + a < B + 24 by omega), Nat.add_sub_cancel_left]
      simp only [true_and]
    · by_cases z : B ≤ x ∧ x < B + j
      · by_cases w : x < B + 24
        · simp only [e, w, false_and, ↓reduceIte]
        · have : ¬ kFl (x - B) = kFl a := fun q => by have := kFl_inj (a := x - B) (b := a) (by omega) (by omega) q; omega
          simp only [e, this, false_and, ↓reduceIte]
      · simp only [e, z, false_and, ↓reduceIte]
  rw [e]
/-- the whole of it -/
theorem kp_end (hf : ∀ a k, a < 62 → f a k = kRf B (fun _ => 0) a k) : kpM B 62 c s f = (kT B (fun _ => 0), kL B (fun _ => 0), kI B (fun _ _ => 0) c s, kW B (fun _ _ => 0) (fun _ => 0), kI B (fun _ _ => (0 : Int64)) (fun _ _ => 0) (fun _ _ => 0), B + 62) := by
  unfold kpM
  have e1 : kpT B 62 = kT B (fun _ => 0) := by
    funext a; unfold kpT kT
    by_cases y : B ≤ a ∧ a < B + 62
    · rw [if_pos y, if_neg (by omega)]
    · rw [if_neg y, if_pos (by omega)]
  have e2 : kpL B 62 = kL B (fun _ => 0) := by
    funext a; unfold kpL kL
    by_cases y : B ≤ a ∧ a < B + 62
    · rw [if_pos y, if_neg (by omega)]
    · rw [if_neg y, if_pos (by omega)]
  have e3 : kpI B 62 c s = kI B (fun _ _ => 0) c s := by
    funext a k; unfold kpI kI
    by_cases y : B ≤ a ∧ a < B + 62
    · rw [if_pos y, if_neg (show ¬ (a < B ∨ B + 62 ≤ a) by omega)]
    · rw [if_neg y, if_pos (show (a < B ∨ B + 62 ≤ a) by omega)]
  have e4 : kpW B 62 f = kW B (fun _ _ => 0) (fun _ => 0) := by
    funext a k; unfold kpW kW
    by_cases y : B ≤ a ∧ a < B + 62
    · rw [if_pos y, if_neg (by omega), hf _ _ (by omega)]
    · rw [if_neg y, if_pos (by omega)]
  have e5 : (fun _ _ => (0 : Int64)) = kI B (fun _ _ => (0 : Int64)) (fun _ _ => 0) (fun _ _ => 0) := by
    funext a k; unfold kI; simp only [ite_self]
  rw [e1, e2, e3, e4, ← e5]
/-! filling -/
def kpF (c : Nat → Nat → Int32) (a n : Nat) (v : Int32) : Nat → Nat → Int32 := fun x k => if x = a ∧ k < n then v else c x k
theorem kpF_s {a n : Nat} {v : Int32} : mj_u2 (kpF c a n v) a n v = kpF c a (n + 1) v := by
  funext x k
  unfold mj_u2 kpF
  by_cases e : x = a
  · by_cases y : k = n
    · rw [if_pos ⟨e, y⟩, if_pos ⟨e, by omega⟩]
    · rw [if_neg (fun q => y q.2)]
      by_cases w : k < n
      · rw [if_pos ⟨e, w⟩, if_pos ⟨e, by omega⟩]
      · rw [if_neg (fun q => w q.2), if_neg (by omega)]
  · rw [if_neg (fun q => e q.1), if_neg (fun q => e q.1), if_neg (fun q => e q.1)]
theorem kpF_0 {a : Nat} {v : Int32} : kpF c a 0 v = c := by
  funext x k; unfold kpF; rw [if_neg (by omega)]
theorem kpF_o {a n x : Nat} {v : Int32} (h : x ≠ a) : kpF c a n v x = c x := by
  funext k; unfold kpF; rw [if_neg (fun q => h q.1)]
theorem cl_fil2 {a len : Nat} {v : Int32} (ha : a < j) (h24 : a < 24) (hT : kTg a = 101) (hL : kLg a = len) (hl : len < 2147483648) {post : Unit → mj_M → Prop} (hp : post () (kpM B j (kpF c a len v) s f)) : ∀ (m k : Nat), k + m = len → ∃ fe, vb_J7_fill_53178_5 post fe (B + a) v (nI k) (nI len) (kpM B j (kpF c a k v) s f)
  | 0, k, hk => by
    have e : k = len := by omega
    subst e
    refine ⟨1, ?_⟩
    simp only [vb_J7_fill_53178_5, Int32.le_refl, ↓reduceIte]
    exact hp
  | m + 1, k, hk => by
    have k1 : k < 2147483648 := by omega
    obtain ⟨fe, I⟩ := cl_fil2 ha h24 hT hL hl hp m (k + 1) (by omega)
    refine ⟨fe + 1, ?_⟩
    simp only [vb_J7_fill_53178_5, ix_le hl k1, show ¬ len ≤ k by omega, ↓reduceIte, kp_tag ha, hT, kp_len ha, hL, ix_in k1, ix_nat k1, show k < len by omega, true_and, kp_wc ha h24, kpF_s, nI_1]
    exact I
theorem c_fil2 {a len : Nat} {v : Int32} (ha : a < j) (h24 : a < 24) (hT : kTg a = 101) (hL : kLg a = len) (hl : len < 2147483648) {post : Unit → mj_M → Prop} (hp : post () (kpM B j (kpF c a len v) s f)) : vc_J7_fill_53178 (B + a) v (kpM B j c s f) post := by
  have h := cl_fil2 ha h24 hT hL hl hp len 0 (by omega)
  rw [kpF_0, nI_0] at h
  refine ⟨by rw [kp_tag ha, hT], ?_⟩
  rw [kp_len ha, hL]
  exact h
theorem cl_w14 {post : Unit → mj_M → Prop} (h62 : j = 62) (hf14 : f 24 14 = B + 37) (hp : ∃ fe, vb_X12_init_336 post fe (B + 24) 0 (kpM B j c (kpF s 14 12 1) f)) : ∀ (m k : Nat), k + m = 12 → ∃ fe, vb_X12_init_315 post fe (B + 24) (nI k) (kpM B j c (kpF s 14 k 1) f)
  | 0, k, hk => by
    have e : k = 12 := by omega
    subst e
    refine ⟨1, ?_⟩
    simp only [vb_X12_init_315, show (12 : Int32) = nI 12 by decide, Int32.le_refl, ↓reduceIte]
    exact hp
  | m + 1, k, hk => by
    have k1 : k < 2147483648 := by omega
    obtain ⟨fe, I⟩ := cl_w14 h62 hf14 hp m (k + 1) (by omega)
    subst h62
    have t24 : mj_tag (kpM B 62 c (kpF s 14 k 1) f) (B + 24) = 13 := kp_tag (by decide)
    have t37 : mj_tag (kpM B 62 c (kpF s 14 k 1) f) (B + 37) = 101 := kp_tag (by decide)
    have l37 : mj_len (kpM B 62 c (kpF s 14 k 1) f) (B + 37) = 12 := kp_len (by decide)
    have r24 : mj_r (kpM B 62 c (kpF s 14 k 1) f) (B + 24) 14 = B + 37 := (kp_r (by decide)).trans hf14
    have w : mj_wi (kpM B 62 c (kpF s 14 k 1) f) (B + 37) k 1 = kpM B 62 c (kpF s 14 (k + 1) 1) f := by
      rw [kp_ws (by decide) (by decide) (by decide), show kFl 37 = 14 from rfl, kpF_s]
    refine ⟨fe + 1, ?_⟩
    simp only [vb_X12_init_315, show (12 : Int32) = nI 12 by decide, ix_le (show 12 < 2147483648 by decide) k1, show ¬ 12 ≤ k by omega, ↓reduceIte, t24, r24, t37, l37, ix_in k1, ix_nat k1, show k < 12 by omega, true_and, w, nI_1]
    exact I
theorem cl_w15 {post : Unit → mj_M → Prop} (h62 : j = 62) (hf15 : f 24 15 = B + 38) (hp : post () (kpM B j c (kpF s 15 10 (-6)) f)) : ∀ (m k : Nat), k + m = 10 → ∃ fe, vb_X12_init_336 post fe (B + 24) (nI k) (kpM B j c (kpF s 15 k (-6)) f)
  | 0, k, hk => by
    have e : k = 10 := by omega
    subst e
    refine ⟨1, ?_⟩
    simp only [vb_X12_init_336, show (10 : Int32) = nI 10 by decide, Int32.le_refl, ↓reduceIte]
    exact hp
  | m + 1, k, hk => by
    have k1 : k < 2147483648 := by omega
    obtain ⟨fe, I⟩ := cl_w15 h62 hf15 hp m (k + 1) (by omega)
    subst h62
    have t24 : mj_tag (kpM B 62 c (kpF s 15 k (-6)) f) (B + 24) = 13 := kp_tag (by decide)
    have t37 : mj_tag (kpM B 62 c (kpF s 15 k (-6)) f) (B + 38) = 101 := kp_tag (by decide)
    have l37 : mj_len (kpM B 62 c (kpF s 15 k (-6)) f) (B + 38) = 10 := kp_len (by decide)
    have r24 : mj_r (kpM B 62 c (kpF s 15 k (-6)) f) (B + 24) 15 = B + 38 := (kp_r (by decide)).trans hf15
    have w : mj_wi (kpM B 62 c (kpF s 15 k (-6)) f) (B + 38) k (-6) = kpM B 62 c (kpF s 15 (k + 1) (-6)) f := by
      rw [kp_ws (by decide) (by decide) (by decide), show kFl 38 = 15 from rfl, kpF_s]
    refine ⟨fe + 1, ?_⟩
    simp only [vb_X12_init_336, show (10 : Int32) = nI 10 by decide, ix_le (show 10 < 2147483648 by decide) k1, show ¬ 10 ≤ k by omega, ↓reduceIte, t24, r24, t37, l37, ix_in k1, ix_nat k1, show k < 10 by omega, true_and, w, nI_1]
    exact I
end

/-! STAGE B: the whole is bought: both ways lead to the same -/
section
variable {s s' : Nat → Nat → Int32} {n : Nat} {rk : Nat → Nat}
theorem kCn_c (h40 : n ≤ 40) (hout : ∀ h, h < n → s 1 h = -1 ∨ ∃ k, k < n ∧ s 1 h = nI k) (R : ∀ h, h < n → rk h < n ∧ ∀ k, k < n → s 1 h = nI k → rk k < rk h) : ∀ (f h : Nat), h < n → (∀ x, x < n → rk x ≤ rk h → s' 1 x = s 1 x) → ∀ x, kCn s' f h x = kCn s f h x
  | 0, _, _, _, _ => rfl
  | f + 1, h, hh, he, x => by
    have e1 := he h hh (Nat.le_refl _)
    rcases hout h hh with z | ⟨k, hk, z⟩
    · rw [kCn_0 z, kCn_0 (e1.trans z)]
    · have r := (R h hh).2 k hk z
      rw [kCn_1 z (by omega), kCn_1 (e1.trans z) (by omega), kCn_c h40 hout R f k hk (fun x hx hr => he x hx (by omega)) x]
theorem kxTp_c (h40 : n ≤ 40) (hout : ∀ h, h < n → s 1 h = -1 ∨ ∃ k, k < n ∧ s 1 h = nI k) (R : ∀ h, h < n → rk h < n ∧ ∀ k, k < n → s 1 h = nI k → rk k < rk h) : ∀ (f h : Nat), h < n → (∀ x, x < n → rk x ≤ rk h → s' 1 x = s 1 x) → kxTp s' f h = kxTp s f h
  | 0, _, _, _ => rfl
  | f + 1, h, hh, he => by
    have e1 := he h hh (Nat.le_refl _)
    unfold kxTp
    rw [e1]
    rcases hout h hh with z | ⟨k, hk, z⟩
    · rw [if_pos (by rw [z]; decide), if_pos (by rw [z]; decide)]
    · have r := (R h hh).2 k hk z
      rw [if_neg (by rw [z]; exact nI_pos (by omega)), if_neg (by rw [z]; exact nI_pos (by omega)), z, ix_nat (by omega), kxTp_c h40 hout R f k hk (fun x hx hr => he x hx (by omega))]
theorem kxCl_eq (h40 : n ≤ 40) {d : Int32} : ∀ (f k : Nat) (s : Nat → Nat → Int32), (∀ h, h < n → s 1 h = -1 ∨ ∃ k, k < n ∧ s 1 h = nI k) → (∀ h, h < n → rk h < n ∧ ∀ k, k < n → s 1 h = nI k → rk k < rk h) → k < n → ∀ j x, kxCl d f k s j x = if kCn s f k x = true then (if j = 6 then 5 else if j = 5 then d else s j x) else s j x
  | 0, _, _, _, _, _, _, _ => by rw [if_neg (by intro e; cases e)]; rfl
  | f + 1, k, s, hout, R, hk, j, x => by
    rcases hout k hk with z | ⟨p, hp, z⟩
    · rw [kCn_0 z, if_neg (by decide)]
      unfold kxCl
      rw [if_pos (by rw [z]; decide)]
    · have p1 : p < 2147483648 := by omega
      have r := (R k hk).2 p hp z
      have c1 : mj_u2 (mj_u2 s 6 k 5) 5 k d 1 = s 1 := by rw [mj_u2_ne _ (by decide), mj_u2_ne _ (by decide)]
      have e : kxCl d (f + 1) k s = kxCl d f p (mj_u2 (mj_u2 s 6 k 5) 5 k d) := by
        show (if s 1 k < 0 then s else kxCl d f (s 1 k).toNatClampNeg (mj_u2 (mj_u2 s 6 k 5) 5 k d)) = _
        rw [if_neg (by rw [z]; exact nI_pos p1), z, ix_nat p1]
      have I := kxCl_eq h40 (d := d) f p (mj_u2 (mj_u2 s 6 k 5) 5 k d) (by rw [c1]; exact hout) (by rw [c1]; exact R) hp j x
      rw [e, I, kCn_to c1, kCn_1 z p1]
      by_cases y : x = k
      · subst y
        have nc : kCn s f p x = false := by
          rw [Bool.eq_false_iff]; intro e
          have := (kCn_r h40 hout R f p x hp e).2.1
          omega
        rw [nc]
        simp only [Bool.false_eq_true, ↓reduceIte, decide_true, Bool.true_or]
        by_cases j6 : j = 6
        · subst j6; rw [mq_u2n (by decide), mq_u2s, if_pos rfl]
        · by_cases j5 : j = 5
          · subst j5; rw [mq_u2s, if_neg (by decide), if_pos rfl]
          · rw [mq_u2n j5, mq_u2n j6, if_neg j6, if_neg j5]
      · rw [mq_u2k y, mq_u2k y, decide_eq_false y, Bool.false_or]
theorem kHg_to (h1 : s' 1 = s 1) (hu : kun s' = kun s) {o d : Int32} : ∀ (f h : Nat), kHg s' o d f h = kHg s o d f h
  | 0, _ => rfl
  | f + 1, h => by unfold kHg; rw [h1, hu, kHg_to h1 hu f]
end
/-- the whole's new person, since today -/
def kxP (top : Nat) (a b : Int32) (z : Nat → Nat → Int32) : Nat → Nat → Int32 := mj_u2 (mj_u2 z 7 top a) 8 top b
theorem kxP_o {top : Nat} {a b : Int32} {z : Nat → Nat → Int32} {j : Nat} (h7 : j ≠ 7) (h8 : j ≠ 8) : kxP top a b z j = z j := by
  unfold kxP; rw [mj_u2_ne _ h8, mj_u2_ne _ h7]
theorem kxP_u {top : Nat} {a b : Int32} {z : Nat → Nat → Int32} : kun (kxP top a b z) = kun z := kun_to (kxP_o (by decide) (by decide)) (kxP_o (by decide) (by decide)) (kxP_o (by decide) (by decide))
theorem kFa_P {top n : Nat} {a b v d : Int32} {z : Nat → Nat → Int32} {F : Nat → Bool} : kFa (kxP top a b z) F n 0 v d = kxP top a b (kFa z F n 0 v d) := by
  have o3 : kxP top a b z 3 = z 3 := kxP_o (by decide) (by decide)
  funext j h
  by_cases j78 : j ≠ 7 ∧ j ≠ 8
  · rw [kxP_o j78.1 j78.2]
    by_cases y : h < n ∧ F h = true
    · rw [kFa_in y.1 y.2, kFa_in y.1 y.2, o3, kxP_o j78.1 j78.2]
    · rw [kFa_out (fun q w => y ⟨q, w⟩), kFa_out (fun q w => y ⟨q, w⟩), kxP_o j78.1 j78.2]
  · have j56 : j ≠ 5 ∧ j ≠ 6 ∧ j ≠ 12 := by omega
    rw [kFa_o j56.1 j56.2.1 j56.2.2]
    have e7 : kFa z F n 0 v d 7 = z 7 := kFa_o (by decide) (by decide) (by decide)
    have e8 : kFa z F n 0 v d 8 = z 8 := kFa_o (by decide) (by decide) (by decide)
    unfold kxP mj_u2
    rcases (show j = 7 ∨ j = 8 by omega) with rfl | rfl
    · rw [e7]
    · rw [e8]
theorem kxFl_P {top n : Nat} {a b d : Int32} : ∀ (f k : Nat) (z : Nat → Nat → Int32), kxFl n d f k (kxP top a b z) = kxP top a b (kxFl n d f k z)
  | 0, _, _ => rfl
  | f + 1, k, z => by
    have o1 : kxP top a b z 1 = z 1 := kxP_o (by decide) (by decide)
    unfold kxFl
    rw [o1]
    split
    · rfl
    · have eF : (fun h => kHg (kxP top a b z) (nI k) d n h) = fun h => kHg z (nI k) d n h := funext fun h => kHg_to o1 kxP_u n h
      rw [eF, kFa_P, kxFl_P f]
theorem buy_all {s : Nat → Nat → Int32} {n hg ko : Nat} {rk : Nat → Nat} (H : kHo s n) (h40 : n ≤ 40) (R : ∀ h, h < n → rk h < n ∧ ∀ k, k < n → s 1 h = nI k → rk k < rk h) (hgn : hg < n) (hkn : ko < n) (ho : s 1 hg = nI ko) (hon : kon s hg (s 0 0) = true) :
    ∃ Z Y : Nat → Nat → Int32, kxTp s n ko < n ∧
      kxFl n (s 0 0) n ko (kMvc (kxP (kxTp s n ko) (s 7 hg) (s 0 0) (kxCl (s 0 0) n ko (mj_u2 (mj_u2 s 6 hg 3) 5 hg (s 0 0)))) (kCh (kxP (kxTp s n ko) (s 7 hg) (s 0 0) (kxCl (s 0 0) n ko (mj_u2 (mj_u2 s 6 hg 3) 5 hg (s 0 0)))) (nI hg) (s 0 0)) n 0 (nI (kxTp s n ko))) = kxP (kxTp s n ko) (s 7 hg) (s 0 0) Y ∧
      kxCl (s 0 0) n ko (kMvc (mj_u2 (mj_u2 s 6 hg 3) 5 hg (s 0 0)) (kCh (mj_u2 (mj_u2 s 6 hg 3) 5 hg (s 0 0)) (nI hg) (s 0 0)) n 0 (nI (kxTp s n ko))) = Z ∧
      kMvc (mj_u2 (mj_u2 s 6 hg 3) 5 hg (s 0 0)) (kCh (mj_u2 (mj_u2 s 6 hg 3) 5 hg (s 0 0)) (nI hg) (s 0 0)) n 0 (nI (kxTp s n ko)) 1 hg = nI ko ∧
      kMvc (kxP (kxTp s n ko) (s 7 hg) (s 0 0) (kxCl (s 0 0) n ko (mj_u2 (mj_u2 s 6 hg 3) 5 hg (s 0 0)))) (kCh (kxP (kxTp s n ko) (s 7 hg) (s 0 0) (kxCl (s 0 0) n ko (mj_u2 (mj_u2 s 6 hg 3) 5 hg (s 0 0)))) (nI hg) (s 0 0)) n 0 (nI (kxTp s n ko)) 1 hg = nI ko ∧
      (∀ h, h < n → rk h < n ∧ ∀ k, k < n → kMvc (kxP (kxTp s n ko) (s 7 hg) (s 0 0) (kxCl (s 0 0) n ko (mj_u2 (mj_u2 s 6 hg 3) 5 hg (s 0 0)))) (kCh (kxP (kxTp s n ko) (s 7 hg) (s 0 0) (kxCl (s 0 0) n ko (mj_u2 (mj_u2 s 6 hg 3) 5 hg (s 0 0)))) (nI hg) (s 0 0)) n 0 (nI (kxTp s n ko)) 1 h = nI k → rk k < rk h) ∧
      (∀ h, h < n → kMvc (mj_u2 (mj_u2 s 6 hg 3) 5 hg (s 0 0)) (kCh (mj_u2 (mj_u2 s 6 hg 3) 5 hg (s 0 0)) (nI hg) (s 0 0)) n 0 (nI (kxTp s n ko)) 1 h = -1 ∨ ∃ k, k < n ∧ kMvc (mj_u2 (mj_u2 s 6 hg 3) 5 hg (s 0 0)) (kCh (mj_u2 (mj_u2 s 6 hg 3) 5 hg (s 0 0)) (nI hg) (s 0 0)) n 0 (nI (kxTp s n ko)) 1 h = nI k) ∧
      (∀ h, h < n → rk h < n ∧ ∀ k, k < n → kMvc (mj_u2 (mj_u2 s 6 hg 3) 5 hg (s 0 0)) (kCh (mj_u2 (mj_u2 s 6 hg 3) 5 hg (s 0 0)) (nI hg) (s 0 0)) n 0 (nI (kxTp s n ko)) 1 h = nI k → rk k < rk h) ∧
      kxTp (kMvc (mj_u2 (mj_u2 s 6 hg 3) 5 hg (s 0 0)) (kCh (mj_u2 (mj_u2 s 6 hg 3) 5 hg (s 0 0)) (nI hg) (s 0 0)) n 0 (nI (kxTp s n ko))) n ko = kxTp s n ko ∧
      Z 1 hg = nI ko ∧ kxIv n rk (s 0 0) Z n ko ∧ kxTp Z n ko = kxTp s n ko ∧ Z 0 = s 0 ∧ kxFl n (s 0 0) n ko Z = Y ∧
      kHo (kxP (kxTp s n ko) (s 7 hg) (s 0 0) Y) n ∧ (∀ j, 13 ≤ j → Y j = s j) ∧ Y 0 = s 0 ∧ Y 7 = s 7 ∧ (∀ h, h < n → 0 ≤ s 1 h → 0 ≤ Y 1 h) := by
  have hout : ∀ h, h < n → s 1 h = -1 ∨ ∃ k, k < n ∧ s 1 h = nI k := fun h hh => (H.2.1 h hh).1
  obtain ⟨u1, u2, u3, u4, u5, u6⟩ := H.up hgn hkn ho hon
  have rgo := (R hg hgn).2 ko hkn ho
  obtain ⟨t1, t2, t3⟩ := kxTp_f h40 hout R n ko hkn (R ko hkn).1
  generalize htop : kxTp s n ko = top at t1 t2 t3 ⊢
  have T4 := (H.2.2.2 top t1).2.2.2.1 t2
  have k1 : ko < 2147483648 := by omega
  have g1 : hg < 2147483648 := by omega
  have tp1 : top < 2147483648 := by omega
  have kog : ko ≠ hg := fun z => by rw [z] at rgo; omega
  have tg : top ≠ hg := fun z => by rw [z] at t3; omega
  generalize hs1 : mj_u2 (mj_u2 s 6 hg 3) 5 hg (s 0 0) = s1
  have s1o : ∀ j, j ≠ 5 → j ≠ 6 → s1 j = s j := fun j h5 h6 => by rw [← hs1, mj_u2_ne _ h5, mj_u2_ne _ h6]
  have s11 : s1 1 = s 1 := s1o 1 (by decide) (by decide)
  have s16 : ∀ x, s1 6 x = if x = hg then 3 else s 6 x := fun x => by
    rw [← hs1, mq_u2n (by decide)]
    by_cases y : x = hg
    · rw [y, mq_u2s, if_pos rfl]
    · rw [mq_u2k y, if_neg y]
  have s15 : ∀ x, s1 5 x = if x = hg then s 0 0 else s 5 x := fun x => by
    rw [← hs1]
    by_cases y : x = hg
    · rw [y, mq_u2s, if_pos rfl]
    · rw [mq_u2k y, if_neg y, mq_u2n (by decide)]
  generalize hC : (fun x => kCn s n ko x) = C
  have hCx : ∀ x, kCn s n ko x = C x := fun x => by rw [← hC]
  have Cr : ∀ x, C x = true → x < n ∧ rk x ≤ rk ko ∧ 0 ≤ s 1 x := fun x hx => kCn_r h40 hout R n ko x hkn (by rw [hCx]; exact hx)
  have Cg : C hg = false := by
    rw [Bool.eq_false_iff]; intro e
    have := (Cr hg e).2.1; omega
  have CQ : ∀ x, C x = true → kon s x (s 0 0) = true := fun x hx => kCn_q h40 hout (Q := fun x => kon s x (s 0 0) = true) (fun h k hh hk q z => (H.onup hh hk z q).2) n ko x hkn (H.onup hgn hkn ho hon).2 (by rw [hCx]; exact hx)
  have Cp : ∀ x, C x = true → ∃ p, p < n ∧ s 1 x = nI p ∧ s 6 x = 0 ∧ s 3 x ≤ s 0 0 ∧ (C p = true ∨ p = top) := fun x hx => by
    obtain ⟨c1, c2, c3⟩ := Cr x hx
    rcases hout x c1 with z | ⟨p, hp, z⟩
    · rw [z] at c3; exact absurd c3 (by decide)
    · obtain ⟨v1, v2, _⟩ := H.up c1 hp z (CQ x hx)
      refine ⟨p, hp, z, v1, v2, ?_⟩
      by_cases y : 0 ≤ s 1 p
      · left; rw [← hCx]
        exact kCn_up h40 hout R n ko x p hkn hp (R ko hkn).1 (by rw [hCx]; exact hx) z y
      · right
        -- the last one of the chain is the top
        have key : ∀ (f h : Nat), h < n → rk h < f → kCn s f h x = true → kxTp s f h = p := by
          intro f
          induction f with
          | zero => intro h _ h2; omega
          | succ f ih =>
            intro h hh h2 e
            rcases hout h hh with w | ⟨q, hq, w⟩
            · rw [kCn_0 w] at e; cases e
            · have rr := (R h hh).2 q hq w
              have e2 : kxTp s (f + 1) h = kxTp s f q := by
                show (if s 1 h < 0 then h else kxTp s f (s 1 h).toNatClampNeg) = _
                rw [if_neg (by rw [w]; exact nI_pos (by omega)), w, ix_nat (by omega)]
              rw [e2]
              rw [kCn_1 w (by omega)] at e
              simp only [Bool.or_eq_true, decide_eq_true_eq] at e
              rcases e with e | e
              · subst e
                rw [z, ix_eq (by omega) (by omega)] at w
                subst w
                obtain ⟨f', rfl⟩ : ∃ f', f = f' + 1 := ⟨f - 1, by omega⟩
                unfold kxTp
                rw [if_pos (Int32.not_le.mp y)]
              · exact ih q hq (by omega) e
        rw [← htop]
        exact (key n ko hkn (R ko hkn).1 (by rw [hCx]; exact hx)).symm
  generalize hcd : (fun x => kCh s (nI hg) (s 0 0) x) = cond
  have hcx : ∀ x, kCh s (nI hg) (s 0 0) x = cond x := fun x => by rw [← hcd]
  have cg : cond hg = false := by
    rw [← hcx]
    have : ¬ s 1 hg = nI hg := by rw [ho, ix_eq k1 g1]; exact kog
    simp only [kCh, this, true_or, or_true, false_or, or_false, not_true_eq_false, not_false_eq_true, true_and, and_true, false_and, and_false, and_self, decide_true, decide_false, ↓reduceIte, Bool.true_and, Bool.false_and, Bool.and_true, Bool.and_false, Bool.not_true, Bool.not_false, Bool.false_eq_true, Bool.true_or, Bool.or_true, Bool.false_or, Bool.or_false, reduceCtorEq, Bool.and_self, Bool.or_self, ne_eq]
  have cq : ∀ x, x < n → cond x = true → s 1 x = nI hg ∧ s 6 x = 0 ∧ rk hg < rk x ∧ x ≠ hg ∧ C x = false := fun x hx e => by
    have e' := e
    rw [← hcx] at e
    simp only [kCh, Bool.and_eq_true, decide_eq_true_eq] at e
    have r := (R x hx).2 hg hgn e.1
    refine ⟨e.1, (H.child hx hgn e.1 u1 e.2).1, r, fun y => (by rw [y, cg] at e'; cases e'), ?_⟩
    rw [Bool.eq_false_iff]; intro w
    have := (Cr x w).2.1; omega
  have ec1 : kCh s1 (nI hg) (s 0 0) = cond := by
    funext x
    rw [← hcx]
    by_cases y : x = hg
    · have n1 : ¬ s 1 hg = nI hg := by rw [ho, ix_eq k1 g1]; exact kog
      rw [y]; unfold kCh; rw [s11]; simp only [n1, true_or, or_true, false_or, or_false, not_true_eq_false, not_false_eq_true, true_and, and_true, false_and, and_false, and_self, decide_true, decide_false, ↓reduceIte, Bool.true_and, Bool.false_and, Bool.and_true, Bool.and_false, Bool.not_true, Bool.not_false, Bool.false_eq_true, Bool.true_or, Bool.or_true, Bool.false_or, Bool.or_false, reduceCtorEq, Bool.and_self, Bool.or_self, ne_eq]
    · unfold kCh; rw [s11, ← hs1, kun_cl y]
  rw [ec1]
  -- the moved rows
  generalize hS1 : kMvc s cond n 0 (nI top) = S1
  have S1o : ∀ j, j ≠ 1 → S1 j = s j := fun j hj => by rw [← hS1]; exact kMvc_n hj
  have S11 : ∀ x, x < n → S1 1 x = if cond x = true then nI top else s 1 x := fun x hx => by
    rw [← hS1]; unfold kMvc
    by_cases y : cond x = true
    · rw [if_pos ⟨rfl, by omega, by omega, y⟩, if_pos y]
    · rw [if_neg (fun w => y w.2.2.2), if_neg y]
  have S1e : ∀ e : Nat → Nat → Int32, e 1 = s 1 → kMvc e cond n 0 (nI top) 1 = S1 1 := fun e he => by
    rw [← hS1]; funext x; unfold kMvc; rw [he]
  have S1out : ∀ h, h < n → S1 1 h = -1 ∨ ∃ k, k < n ∧ S1 1 h = nI k := fun h hh => by
    rw [S11 h hh]; split
    · exact .inr ⟨top, t1, rfl⟩
    · exact hout h hh
  have S1R : ∀ h, h < n → rk h < n ∧ ∀ k, k < n → S1 1 h = nI k → rk k < rk h := fun h hh => ⟨(R h hh).1, fun k hk e => by
    rw [S11 h hh] at e
    by_cases y : cond h = true
    · rw [if_pos y, ix_eq tp1 (by omega)] at e
      subst e
      have := (cq h hh y).2.2.1
      omega
    · rw [if_neg y] at e; exact (R h hh).2 k hk e⟩
  have S1g : S1 1 hg = nI ko := by rw [S11 hg hgn, cg]; exact ho
  have S1c : ∀ x, x < n → rk x ≤ rk ko → S1 1 x = s 1 x := fun x hx hr => by
    rw [S11 x hx]
    by_cases y : cond x = true
    · have := (cq x hx y).2.2.1; omega
    · rw [if_neg y]
  have tS1 : kxTp S1 n ko = top := by rw [kxTp_c h40 hout R n ko hkn S1c]; exact htop
  have CS1 : ∀ x, kCn S1 n ko x = C x := fun x => by rw [kCn_c h40 hout R n ko hkn S1c, hCx]
  -- the rows after the ends
  generalize hZ : (fun j x => if j = 6 then (if x = hg then 3 else if C x = true then 5 else s 6 x) else if j = 5 then (if x = hg ∨ C x = true then s 0 0 else s 5 x) else S1 j x : Nat → Nat → Int32) = Z
  have Z6 : ∀ x, Z 6 x = if x = hg then 3 else if C x = true then 5 else s 6 x := fun x => by rw [← hZ]; rfl
  have Z5 : ∀ x, Z 5 x = if x = hg ∨ C x = true then s 0 0 else s 5 x := fun x => by rw [← hZ]; rfl
  have Zo : ∀ j, j ≠ 5 → j ≠ 6 → Z j = S1 j := fun j h5 h6 => by rw [← hZ]; funext x; simp only [h5, h6, ↓reduceIte]
  have Z1 : Z 1 = S1 1 := Zo 1 (by decide) (by decide)
  have m2 : kMvc s1 cond n 0 (nI top) 1 = S1 1 := S1e s1 s11
  have eZ : kxCl (s 0 0) n ko (kMvc s1 cond n 0 (nI top)) = Z := by
    funext j x
    rw [kxCl_eq h40 (rk := rk) n ko _ (by rw [m2]; exact S1out) (by rw [m2]; exact S1R) hkn j x, kCn_to m2, CS1]
    by_cases j1 : j = 1
    · subst j1; rw [m2, Z1]; simp only [Nat.reduceEqDiff, ↓reduceIte, ite_self]
    · rw [kMvc_n j1]
      by_cases j6 : j = 6
      · subst j6
        rw [Z6, s16]
        by_cases y : x = hg
        · rw [y, Cg]; rfl
        · simp only [y, ↓reduceIte]
      · by_cases j5 : j = 5
        · subst j5
          rw [Z5, s15]
          by_cases y : x = hg
          · rw [y, Cg]; simp
          · by_cases w : C x = true <;> simp [y, w]
        · rw [Zo j j5 j6, S1o j j1, s1o j j5 j6]
          simp only [j5, j6, ↓reduceIte, ite_self]
  have eE : ∀ j x, kxCl (s 0 0) n ko s1 j x = if C x = true then (if j = 6 then 5 else if j = 5 then s 0 0 else s1 j x) else s1 j x := fun j x => by
    rw [kxCl_eq h40 (rk := rk) n ko s1 (by rw [s11]; exact hout) (by rw [s11]; exact R) hkn j x, kCn_to s11, hCx]
  have E1 : kxCl (s 0 0) n ko s1 1 = s 1 := by
    funext x; rw [eE, s11]; simp only [Nat.reduceEqDiff, ↓reduceIte, ite_self]
  have P1 : kxP top (s 7 hg) (s 0 0) (kxCl (s 0 0) n ko s1) 1 = s 1 := by rw [kxP_o (by decide) (by decide), E1]
  have eM : kMvc (kxP top (s 7 hg) (s 0 0) (kxCl (s 0 0) n ko s1)) (kCh (kxP top (s 7 hg) (s 0 0) (kxCl (s 0 0) n ko s1)) (nI hg) (s 0 0)) n 0 (nI top) = kMvc (kxP top (s 7 hg) (s 0 0) (kxCl (s 0 0) n ko s1)) cond n 0 (nI top) :=
    kMvc_c fun x _ hx => by
      have hx' : x < n := by omega
      rw [← hcx]
      unfold kCh
      rw [P1, kxP_u]
      by_cases y : s 1 x = nI hg
      · have r := (R x hx').2 hg hgn y
        have xg : x ≠ hg := fun w => by rw [w] at r; omega
        have nc : ¬ C x = true := fun w => by have := (Cr x w).2.1; omega
        have ku : kun (kxCl (s 0 0) n ko s1) x = kun s x := by
          unfold kun
          rw [eE, eE, eE, if_neg nc, if_neg nc, if_neg nc, s16, s15, if_neg xg, if_neg xg, s1o 4 (by decide) (by decide)]
        rw [ku]
      · simp only [y, true_or, or_true, false_or, or_false, not_true_eq_false, not_false_eq_true, true_and, and_true, false_and, and_false, and_self, decide_true, decide_false, ↓reduceIte, Bool.true_and, Bool.false_and, Bool.and_true, Bool.and_false, Bool.not_true, Bool.not_false, Bool.false_eq_true, Bool.true_or, Bool.or_true, Bool.false_or, Bool.or_false, reduceCtorEq, Bool.and_self, Bool.or_self, ne_eq]
  have eP : kMvc (kxP top (s 7 hg) (s 0 0) (kxCl (s 0 0) n ko s1)) cond n 0 (nI top) = kxP top (s 7 hg) (s 0 0) Z := by
    funext j x
    by_cases j1 : j = 1
    · subst j1
      rw [S1e _ P1, kxP_o (by decide) (by decide), Z1]
    · rw [kMvc_n j1]
      have eq : kxCl (s 0 0) n ko s1 j = Z j := by
        funext x
        rw [← eZ, eE, kxCl_eq h40 (rk := rk) n ko _ (by rw [m2]; exact S1out) (by rw [m2]; exact S1R) hkn j x, kCn_to m2, CS1, kMvc_n j1]
      unfold kxP mj_u2
      rw [eq]
  rw [eM, eP]
  have kuZ : ∀ x, kun Z x = if x = hg ∨ C x = true then s 0 0 else kun s x := fun x => by
    have z4 : Z 4 x = s 4 x := by rw [Zo 4 (by decide) (by decide), S1o 4 (by decide)]
    have d3 : ¬ (3 : Int32) = 0 := by decide
    have d5 : ¬ (5 : Int32) = 0 := by decide
    unfold kun
    rw [Z6, Z5, z4]
    by_cases y : x = hg
    · simp only [y, d3, true_or, ↓reduceIte]
    · by_cases w : C x = true
      · simp only [y, w, d5, or_true, ↓reduceIte]
      · simp only [y, w, or_self, ↓reduceIte, Bool.false_eq_true]
  have Iv : kxIv n rk (s 0 0) Z n ko := by
    refine ⟨by rw [Z1]; exact S1out, by rw [Z1]; exact S1R, fun h hh h6 hd p hp hz => ?_, fun x hx => ?_⟩
    · rw [kCn_to Z1, CS1]
      rw [kuZ] at hd
      have xg : h ≠ hg := fun w => by
        rw [if_pos (Or.inl w)] at hd
        exact absurd hd Int32.lt_irrefl
      have nc : ¬ C h = true := fun w => by
        rw [if_pos (Or.inr w)] at hd
        exact absurd hd Int32.lt_irrefl
      rw [Z6, if_neg xg, if_neg nc] at h6
      have hd' : s 0 0 < kun s h := by
        rw [if_neg (fun w => by rcases w with w | w; exact xg w; exact nc w)] at hd
        exact hd
      have ncd : ¬ cond h = true := fun w => h6 (cq h hh w).2.1
      rw [Z1, S11 h hh, if_neg ncd] at hz
      have p6 : s 6 p ≠ 0 := fun w => h6 (H.child hh hp hz w hd').1
      have pg : p ≠ hg := fun w => p6 (by rw [w]; exact u1)
      have pc : ¬ C p = true := fun w => by obtain ⟨_, _, _, v, _⟩ := Cp p w; exact p6 v
      refine ⟨by rw [Z6, if_neg pg, if_neg pc]; exact p6, by rw [Bool.eq_false_iff]; exact pc⟩
    · rw [kCn_to Z1, CS1] at hx
      rw [Z6, if_pos hx]
      split <;> decide
  obtain ⟨F, f1, f2, f3, f4⟩ := fl_char h40 n ko Z Iv hkn (R ko hkn).1
  have f2' : ∀ h, F h = true → h < n ∧ s 6 h = 0 ∧ h ≠ hg ∧ C h = false := fun h e => by
    have hh : h < n := by
      rcases Nat.lt_or_ge h n with y | y
      · exact y
      · rw [f1 h y] at e; cases e
    have := (f2 h hh e).1
    rw [Z6] at this
    by_cases y : h = hg
    · rw [if_pos y] at this; exact absurd this (by decide)
    · rw [if_neg y] at this
      by_cases w : C h = true
      · rw [if_pos w] at this; exact absurd this (by decide)
      · rw [if_neg w] at this
        exact ⟨hh, this, y, by rw [Bool.eq_false_iff]; exact w⟩
  have Zj : ∀ j, j ≠ 5 → j ≠ 6 → j ≠ 12 → kFa Z F n 0 (-6) (s 0 0) j = Z j := fun j h5 h6 h12 => kFa_o h5 h6 h12
  refine ⟨Z, kFa Z F n 0 (-6) (s 0 0), t1, by rw [kxFl_P, f4], eZ, by rw [m2]; exact S1g, by rw [kxP_o (by decide) (by decide), Z1]; exact S1g, by rw [kxP_o (by decide) (by decide), Z1]; exact S1R, by rw [m2]; exact S1out, by rw [m2]; exact S1R, by rw [kxTp_to m2]; exact tS1, by rw [Z1]; exact S1g, Iv, by rw [kxTp_to Z1]; exact tS1, by rw [Zo 0 (by decide) (by decide), S1o 0 (by decide)], f4, ?_, ?_, ?_, ?_, ?_⟩
  · have HS : kHo S1 n := by
      rw [← hS1]
      refine H.mv h40 t1 (by rw [kMvc_n (by decide)]) (fun j a b => kMvc_n (by omega)) (fun h hh => ?_) ⟨rk, by rw [hS1]; exact S1R⟩
      rw [hS1, S11 h hh]
      by_cases e : cond h = true
      · right
        rw [if_pos e]
        obtain ⟨z1, z2, _⟩ := cq h hh e
        refine ⟨rfl, ⟨hg, hgn, z1⟩, z2, ?_, .inr ?_, T4.1⟩
        · rw [T4.2.1]; exact (H.2.1 h hh).2.2.1.2.2
        · rw [T4.2.2]; exact H.1.1
      · left; rw [if_neg e]
    have S2 := HS.cut (Rt := fun h => decide (h = hg) || C h) (F := F) (w := fun h => if h = hg then 3 else 5) (v := -6) h40 (fun h hh e => by
        simp only [Bool.or_eq_true, decide_eq_true_eq] at e
        rw [S1o 6 (by decide), S1o 3 (by decide), S1o 0 (by decide)]
        have nF : F h = false := by
          rw [Bool.eq_false_iff]; intro w
          obtain ⟨_, _, w1, w2⟩ := f2' h w
          rcases e with e | e
          · exact w1 e
          · rw [e] at w2; cases w2
        have n1 : S1 1 h ≠ -1 := by
          rw [S11 h hh]; split
          · intro z; exact absurd z (by rw [ix_m1 tp1]; exact id)
          · rcases e with e | e
            · rw [e, ho]; intro z; exact absurd z (by rw [ix_m1 k1]; exact id)
            · obtain ⟨p, hp, z, _⟩ := Cp h e
              rw [z]; intro z; exact absurd z (by rw [ix_m1 (by omega)]; exact id)
        have w6 : s 6 h = 0 ∧ s 3 h ≤ s 0 0 := by
          rcases e with e | e
          · rw [e]; exact ⟨u1, u2⟩
          · obtain ⟨p, hp, z, y1, y2, _⟩ := Cp h e
            exact ⟨y1, y2⟩
        refine ⟨nF, w6.1, w6.2, n1, ?_, ?_, ?_⟩ <;> split <;> decide)
      (fun h hh e => by
        obtain ⟨a1, a2, p, hp, a3, a4⟩ := f2 h hh e
        rw [S1o 6 (by decide)]
        refine ⟨(f2' h e).2.1, p, hp, by rw [← Z1]; exact a3, ?_⟩
        rcases a4 with a4 | a4
        · exact .inl a4
        · right
          rw [kCn_to Z1, CS1] at a4
          have pg : p ≠ hg := fun w => by rw [w, Cg] at a4; cases a4
          refine ⟨by simp [a4], .inl ⟨rfl, by rw [if_neg pg]⟩⟩)
      (fun h k hh hk a1 a2 a3 a4 => by
        simp only [Bool.or_eq_true, decide_eq_true_eq] at a4 ⊢
        rw [S1o 6 (by decide)] at a2
        rw [S1o 0 (by decide), S1o 4 (by decide)] at a3
        by_cases hgh : h = hg
        · exact .inl (.inl hgh)
        · by_cases ch : C h = true
          · exact .inl (.inr ch)
          · have z6 : Z 6 h = 0 := by rw [Z6, if_neg hgh, if_neg ch]; exact a2
            have z4 : s 0 0 < Z 4 h := by rw [Zo 4 (by decide) (by decide), S1o 4 (by decide)]; exact a3
            right
            refine f3 h k hh hk (by rw [Z1]; exact a1) z6 z4 ?_
            rw [kCn_to Z1, CS1]
            rcases a4 with (a4 | a4) | a4
            · exfalso
              rw [a4, S11 h hh] at a1
              by_cases e : cond h = true
              · rw [if_pos e, ix_eq tp1 g1] at a1; exact tg a1
              · rw [if_neg e] at a1
                apply e
                rw [← hcx]
                have : kun s h = s 4 h := if_pos a2
                simp only [kCh, a1, this, a3, true_or, or_true, false_or, or_false, not_true_eq_false, not_false_eq_true, true_and, and_true, false_and, and_false, and_self, decide_true, decide_false, ↓reduceIte, Bool.true_and, Bool.false_and, Bool.and_true, Bool.and_false, Bool.not_true, Bool.not_false, Bool.false_eq_true, Bool.true_or, Bool.or_true, Bool.false_or, Bool.or_false, reduceCtorEq, Bool.and_self, Bool.or_self, ne_eq]
            · exact .inr a4
            · exact .inl a4) (.inl rfl)
    have eK : ∀ j, 1 ≤ j → j ≤ 12 → kFa Z F n 0 (-6) (s 0 0) j = kCut S1 (fun h => decide (h = hg) || C h) F (fun h => if h = hg then 3 else 5) (-6) j := fun j j1 j2 => by
      funext x
      unfold kCut
      rw [S1o 0 (by decide), S1o 3 (by decide)]
      by_cases w : F x = true
      · obtain ⟨x1, x2, x3, x4⟩ := f2' x w
        rw [kFa_in x1 w, Zo 3 (by decide) (by decide), S1o 3 (by decide)]
        simp only [x3, x4, w, decide_false, Bool.or_self, Bool.false_eq_true, ↓reduceIte]
        by_cases j6 : j = 6
        · simp only [j6, ↓reduceIte]
        · by_cases j5 : j = 5
          · simp only [j5, Nat.reduceEqDiff, ↓reduceIte]
          · by_cases j12 : j = 12
            · simp only [j12, Nat.reduceEqDiff, ↓reduceIte]
            · simp only [j6, j5, j12, ↓reduceIte]; rw [Zo j j5 j6]
      · rw [kFa_out (fun _ => w)]
        simp only [w, ↓reduceIte, Bool.false_eq_true]
        by_cases j6 : j = 6
        · subst j6
          rw [Z6, if_pos rfl, S1o 6 (by decide)]
          by_cases y : x = hg
          · simp [y]
          · simp [y]
        · by_cases j5 : j = 5
          · subst j5
            rw [Z5, S1o 5 (by decide)]
            simp only [Nat.reduceEqDiff, ↓reduceIte, Bool.or_eq_true, decide_eq_true_eq]
          · rw [Zo j j5 j6]
            by_cases j12 : j = 12
            · subst j12; simp only [Nat.reduceEqDiff, ↓reduceIte]
            · simp only [j6, j5, j12, ↓reduceIte]
    have HY : kHo (kFa Z F n 0 (-6) (s 0 0)) n := S2.to (by
      rw [Zj 0 (by decide) (by decide) (by decide), Zo 0 (by decide) (by decide)]; rfl) eK
    refine HY.free (by rw [kxP_o (by decide) (by decide)]) (fun j a b e => kxP_o (by omega) (by omega)) (fun h hh => ?_)
    obtain ⟨q1, q2, q3, q4, q5, q6, q7, q8, q9, q10, q11⟩ := HY.2.1 h hh
    rw [kxP_o (show 9 ≠ 7 by decide) (by decide), kxP_o (show 10 ≠ 7 by decide) (by decide), kxP_o (show 11 ≠ 7 by decide) (by decide)]
    refine ⟨?_, ?_, q8, q9, q10⟩
    · unfold kxP
      rw [mq_u2n (by decide)]
      by_cases e : h = top
      · rw [e, mq_u2s]; exact (H.2.1 hg hgn).2.2.2.2.2.1
      · rw [mq_u2k e]; exact q6
    · unfold kxP
      by_cases e : h = top
      · rw [e, mq_u2s]; exact H.1
      · rw [mq_u2k e, mq_u2n (by decide)]; exact q7
  · intro j hj
    rw [Zj j (by omega) (by omega) (by omega), Zo j (by omega) (by omega), S1o j (by omega)]
  · rw [Zj 0 (by decide) (by decide) (by decide), Zo 0 (by decide) (by decide), S1o 0 (by decide)]
  · rw [Zj 7 (by decide) (by decide) (by decide), Zo 7 (by decide) (by decide), S1o 7 (by decide)]
  · intro h hh h1
    rw [Zj 1 (by decide) (by decide) (by decide), Z1, S11 h hh]
    split
    · exact nI_pos' tp1
    · exact h1

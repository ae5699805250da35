/-! STAGE B: what falls as the whole is bought -/
/-- what holds as those above a place are fallen under, one after another -/
def kxIv (n : Nat) (rk : Nat → Nat) (d : Int32) (s : Nat → Nat → Int32) (f k : Nat) : Prop :=
  (∀ h, h < n → s 1 h = -1 ∨ ∃ p, p < n ∧ s 1 h = nI p) ∧ (∀ h, h < n → rk h < n ∧ ∀ p, p < n → s 1 h = nI p → rk p < rk h) ∧
  (∀ h, h < n → s 6 h ≠ 0 → d < kun s h → ∀ p, p < n → s 1 h = nI p → s 6 p ≠ 0 ∧ kCn s f k p = false) ∧ (∀ x, kCn s f k x = true → s 6 x ≠ 0)
theorem kCn_1 {s : Nat → Nat → Int32} {f k p x : Nat} (hz : s 1 k = nI p) (hp : p < 2147483648) : kCn s (f + 1) k x = (decide (x = k) || kCn s f p x) := by
  show (decide (0 ≤ s 1 k) && (decide (x = k) || kCn s f (s 1 k).toNatClampNeg x)) = _
  rw [hz, ix_nat hp, show decide ((0 : Int32) ≤ nI p) = true from decide_eq_true (nI_pos' hp), Bool.true_and]
theorem kCn_0 {s : Nat → Nat → Int32} {f k x : Nat} (hz : s 1 k = -1) : kCn s f k x = false := by
  cases f with
  | zero => rfl
  | succ f =>
    show (decide (0 ≤ s 1 k) && _) = _
    rw [hz, show decide ((0 : Int32) ≤ -1) = false by decide, Bool.false_and]
theorem kFa_in {e : Nat → Nat → Int32} {F : Nat → Bool} {n : Nat} {v d : Int32} {j h : Nat} (hh : h < n) (hF : F h = true) : kFa e F n 0 v d j h = if j = 6 then 4 else if j = 5 then imx d (e 3 h) else if j = 12 then v else e j h := by
  unfold kFa; rw [if_pos ⟨Nat.zero_le _, by omega, hF⟩]
theorem kFa_out {e : Nat → Nat → Int32} {F : Nat → Bool} {n : Nat} {v d : Int32} {j h : Nat} (hF : h < n → ¬ F h = true) : kFa e F n 0 v d j h = e j h := by
  unfold kFa; rw [if_neg (fun y => hF (by omega) y.2.2)]
section
variable {s : Nat → Nat → Int32} {n : Nat} {rk : Nat → Nat} {d : Int32}
theorem kxIv.F1 {f k p : Nat} (h40 : n ≤ 40) (I : kxIv n rk d s (f + 1) k) (hk : k < n) (hp : p < n) (z : s 1 k = nI p) : ∀ h, h < n → (kHg s (nI k) d n h = true ↔ (s 6 h = 0 ∧ d < s 4 h ∧ ∃ q, q < n ∧ s 1 h = nI q ∧ (q = k ∨ kHg s (nI k) d n q = true))) := by
  obtain ⟨i1, i2, i3, i4⟩ := I
  refine fall_F1 h40 hk i1 i2 fun h hh h6 hd q hq hz => ?_
  obtain ⟨a1, a2⟩ := i3 h hh h6 hd q hq hz
  refine ⟨fun y => ?_, fun _ => a1⟩
  rw [y, kCn_1 z (by omega)] at a2
  simp at a2
theorem kxIv.step {f k p : Nat} (h40 : n ≤ 40) (I : kxIv n rk d s (f + 1) k) (hk : k < n) (hp : p < n) (z : s 1 k = nI p) : kxIv n rk d (kFa s (fun h => kHg s (nI k) d n h) n 0 (-6) d) f p := by
  have F1 := I.F1 h40 hk hp z
  obtain ⟨i1, i2, i3, i4⟩ := I
  have c1 : kFa s (fun h => kHg s (nI k) d n h) n 0 (-6) d 1 = s 1 := kFa_o (by decide) (by decide) (by decide)
  have c6 : ∀ h, h < n → kFa s (fun h => kHg s (nI k) d n h) n 0 (-6) d 6 h = if kHg s (nI k) d n h = true then 4 else s 6 h := fun h hh => by
    unfold kFa
    by_cases e : kHg s (nI k) d n h = true
    · rw [if_pos ⟨by omega, by omega, e⟩, if_pos e]; rfl
    · rw [if_neg (fun y => e y.2.2), if_neg e]
  have c6g : ∀ h, s 6 h ≠ 0 → kFa s (fun h => kHg s (nI k) d n h) n 0 (-6) d 6 h ≠ 0 := fun h hh => by
    unfold kFa
    split
    · simp only [↓reduceIte]; decide
    · exact hh
  have ck : ∀ x, kCn (kFa s (fun h => kHg s (nI k) d n h) n 0 (-6) d) f p x = kCn s f p x := fun x => kCn_to c1 f p x
  have kk : kCn s f p k = false := by
    rw [Bool.eq_false_iff]; intro e
    have := (kCn_r h40 i1 i2 f p k hp e).2.1
    have := (i2 k hk).2 p hp z
    omega
  refine ⟨by rw [c1]; exact i1, by rw [c1]; exact i2, ?_, ?_⟩
  · intro h hh h6 hd q hq hz
    rw [c1] at hz
    rw [ck]
    by_cases e : kHg s (nI k) d n h = true
    · obtain ⟨a1, a2, q', hq', a3, a4⟩ := (F1 h hh).mp e
      rw [hz, ix_eq (by omega) (by omega)] at a3
      subst a3
      rcases a4 with a4 | a4
      · rw [a4]
        refine ⟨c6g k (i4 k (by rw [kCn_1 z (by omega)]; simp)), kk⟩
      · refine ⟨by rw [c6 q hq, if_pos a4]; decide, ?_⟩
        rw [Bool.eq_false_iff]; intro y
        have := i4 q (by rw [kCn_1 z (by omega), y]; simp)
        exact this ((F1 q hq).mp a4).1
    · rw [c6 h hh, if_neg e] at h6
      have hd' : d < kun s h := by
        have : kun (kFa s (fun h => kHg s (nI k) d n h) n 0 (-6) d) h = kun s h := by
          unfold kun
          have g : ∀ j, kFa s (fun h => kHg s (nI k) d n h) n 0 (-6) d j h = s j h := fun j => by
            unfold kFa; rw [if_neg (fun y => e y.2.2)]
          rw [g 6, g 4, g 5]
        rw [this] at hd; exact hd
      obtain ⟨a1, a2⟩ := i3 h hh h6 hd' q hq hz
      refine ⟨c6g q a1, ?_⟩
      rw [kCn_1 z (by omega)] at a2
      simp only [Bool.or_eq_false_iff] at a2
      exact a2.2
  · intro x hx
    rw [ck] at hx
    exact c6g x (i4 x (by rw [kCn_1 z (by omega), hx]; simp))
theorem fl_char (h40 : n ≤ 40) : ∀ (f k : Nat) (s : Nat → Nat → Int32), kxIv n rk d s f k → k < n → rk k < f → ∃ F : Nat → Bool, (∀ h, n ≤ h → F h = false) ∧ (∀ h, h < n → F h = true → s 6 h = 0 ∧ d < s 4 h ∧ ∃ p, p < n ∧ s 1 h = nI p ∧ (F p = true ∨ kCn s f k p = true)) ∧
    (∀ h p, h < n → p < n → s 1 h = nI p → s 6 h = 0 → d < s 4 h → (F p = true ∨ kCn s f k p = true) → F h = true) ∧ kxFl n d f k s = kFa s F n 0 (-6) d
  | 0, _, _, _, _, h2 => by omega
  | f + 1, k, s, I, hk, h2 => by
    rcases I.1 k hk with z | ⟨p, hp, z⟩
    · refine ⟨fun _ => false, fun _ _ => rfl, fun h hh e => (by cases e), fun h p hh hp hz h6 hd e => ?_, ?_⟩
      · rcases e with e | e
        · cases e
        · rw [kCn_0 z] at e; cases e
      · unfold kxFl
        rw [if_pos (by rw [z]; decide)]
        funext j h; unfold kFa; rw [if_neg (fun y => by cases y.2.2)]
    · have p1 : p < 2147483648 := by omega
      have rr := (I.2.1 k hk).2 p hp z
      have F1 := I.F1 h40 hk hp z
      have J := I.step h40 hk hp z
      have c1 : kFa s (fun h => kHg s (nI k) d n h) n 0 (-6) d 1 = s 1 := kFa_o (by decide) (by decide) (by decide)
      have c3 : kFa s (fun h => kHg s (nI k) d n h) n 0 (-6) d 3 = s 3 := kFa_o (by decide) (by decide) (by decide)
      have c4 : kFa s (fun h => kHg s (nI k) d n h) n 0 (-6) d 4 = s 4 := kFa_o (by decide) (by decide) (by decide)
      have c6 : ∀ h, h < n → kFa s (fun h => kHg s (nI k) d n h) n 0 (-6) d 6 h = if kHg s (nI k) d n h = true then 4 else s 6 h := fun h hh => by
        unfold kFa
        by_cases e : kHg s (nI k) d n h = true
        · rw [if_pos ⟨by omega, by omega, e⟩, if_pos e]; rfl
        · rw [if_neg (fun y => e y.2.2), if_neg e]
      have ck : ∀ x, kCn (kFa s (fun h => kHg s (nI k) d n h) n 0 (-6) d) f p x = kCn s f p x := fun x => kCn_to c1 f p x
      obtain ⟨F, f1, f2, f3, f4⟩ := fl_char h40 f p _ J hp (by omega)
      rw [c1, c4] at f2 f3
      refine ⟨fun h => (decide (h < n) && kHg s (nI k) d n h) || F h, fun h hh => ?_, fun h hh e => ?_, fun h q hh hq hz h6 hd e => ?_, ?_⟩
      · show ((decide (h < n) && kHg s (nI k) d n h) || F h) = false
        rw [f1 h hh, decide_eq_false (by omega)]; rfl
      · simp only [Bool.or_eq_true, Bool.and_eq_true, decide_eq_true_eq] at e
        rcases e with ⟨_, e⟩ | e
        · obtain ⟨a1, a2, q, hq, a3, a4⟩ := (F1 h hh).mp e
          refine ⟨a1, a2, q, hq, a3, ?_⟩
          rcases a4 with a4 | a4
          · right; rw [kCn_1 z p1, a4]; simp
          · left; simp [hq, a4]
        · obtain ⟨a1, a2, q, hq, a3, a4⟩ := f2 h hh e
          rw [c6 h hh] at a1
          by_cases y : kHg s (nI k) d n h = true
          · rw [if_pos y] at a1; exact absurd a1 (by decide)
          · rw [if_neg y] at a1
            refine ⟨a1, a2, q, hq, a3, ?_⟩
            rcases a4 with a4 | a4
            · left; simp [a4]
            · right; rw [ck] at a4; rw [kCn_1 z p1, a4]; simp
      · simp only [Bool.or_eq_true, Bool.and_eq_true, decide_eq_true_eq] at e ⊢
        by_cases y : kHg s (nI k) d n h = true
        · exact .inl ⟨hh, y⟩
        · have e' : ¬ q = k ∧ ¬ kHg s (nI k) d n q = true := by
            constructor
            · intro w; exact y ((F1 h hh).mpr ⟨h6, hd, q, hq, hz, .inl w⟩)
            · intro w; exact y ((F1 h hh).mpr ⟨h6, hd, q, hq, hz, .inr w⟩)
          right
          refine f3 h q hh hq hz (by rw [c6 h hh, if_neg y]; exact h6) hd ?_
          rcases e with (⟨_, e⟩ | e) | e
          · exact absurd e e'.2
          · exact .inl e
          · right
            rw [kCn_1 z p1] at e
            simp only [Bool.or_eq_true, decide_eq_true_eq] at e
            rw [ck]
            rcases e with e | e
            · exact absurd e e'.1
            · exact e
      · have e2 : kxFl n d (f + 1) k s = kxFl n d f p (kFa s (fun h => kHg s (nI k) d n h) n 0 (-6) d) := by
          show (if s 1 k < 0 then s else kxFl n d f (s 1 k).toNatClampNeg _) = _
          rw [if_neg (by rw [z]; exact nI_pos p1), z, ix_nat p1]
        rw [e2, f4]
        funext j h
        by_cases hh : h < n
        · by_cases y : kHg s (nI k) d n h = true
          · have yF : ¬ F h = true := fun w => by
              have := (f2 h hh w).1
              rw [c6 h hh, if_pos y] at this; exact absurd this (by decide)
            rw [kFa_out (fun _ => yF), kFa_in hh y, kFa_in (F := fun h => (decide (h < n) && kHg s (nI k) d n h) || F h) hh (by simp [hh, y])]
          · have o : ∀ j, kFa s (fun h => kHg s (nI k) d n h) n 0 (-6) d j h = s j h := fun j => kFa_out (fun _ => y)
            by_cases w : F h = true
            · rw [kFa_in hh w, o, o, kFa_in (F := fun h => (decide (h < n) && kHg s (nI k) d n h) || F h) hh (by simp [w])]
            · rw [kFa_out (fun _ => w), o, kFa_out (F := fun h => (decide (h < n) && kHg s (nI k) d n h) || F h) (fun _ v => by
                simp only [Bool.or_eq_true, Bool.and_eq_true] at v
                rcases v with ⟨_, v⟩ | v
                · exact y v
                · exact w v)]
        · rw [kFa_out (fun v => absurd v hh), kFa_out (fun v => absurd v hh), kFa_out (fun v => absurd v hh)]
end
section
variable {B x n : Nat} {t l u : Nat → Nat} {i c : Nat → Nat → Int32} {r : Nat → Nat → Nat} {q g w : Nat → Nat → Int64}
theorem ml_fl (h40 : n ≤ 40) {rk : Nat → Nat} {d : Int32} {h0 top : Nat} (hh0 : h0 < n) (htop : top < n) {post : Unit → mj_M → Prop} : ∀ (f k : Nat) (s s' : Nat → Nat → Int32), (∀ j, j ≠ 31 → s' j = s j) → s 0 0 = d → s 0 13 = nI n → kxIv n rk d s f k → k < n → rk k < f → kxTp s f k = top →
    (∀ s'', (∀ j, j ≠ 31 → s'' j = kxFl n d f k s j) → post () (kT B t, kL B l, kI B i c (mj_u2 (mj_u2 s'' 7 top (s'' 7 h0)) 8 top d), kW B r u, kI B q g w, x)) → vb_X12_buy_62 post f (B + 24) (nI h0) (nI top) (nI k) (kT B t, kL B l, kI B i c s', kW B r u, kI B q g w, x)
  | 0, _, _, _, _, _, _, _, _, h2, _, _ => by omega
  | f + 1, k, s, s', hs, hd, hn, I, hk, h2, ht, hp => by
    have k1 : k < 2147483648 := by omega
    have t1 : top < 2147483648 := by omega
    have h01 : h0 < 2147483648 := by omega
    rcases I.1 k hk with z | ⟨p, hpn, z⟩
    · have e1 : kxTp s (f + 1) k = k := by unfold kxTp; rw [if_pos (by rw [z]; decide)]
      have e2 : kxFl n d (f + 1) k s = s := by unfold kxFl; rw [if_pos (by rw [z]; decide)]
      rw [e1] at ht
      rw [e2] at hp
      subst ht
      have d' : s' 0 0 = d := by rw [hs 0 (by decide)]; exact hd
      simp only [vb_X12_buy_62, mq_tag, mq_len, mq_i, mq_r, mq_l, mq_nx, mq_wi, mq_wr, mq_wl, true_and, and_true, and_false, false_and, and_self, ↓reduceIte, kT_24, kT_25, kT_26, kT_27, kT_28, kT_29, kT_30, kT_31, kT_32, kT_33, kT_34, kT_35, kT_36, kT_37, kT_38, kT_39, kT_40, kT_41, kT_42, kT_43, kT_44, kT_45, kT_46, kT_47, kT_48, kT_49, kT_50, kT_51, kT_52, kT_53, kT_54, kT_55, kT_56, kT_57, kT_58, kT_59, kT_60, kT_61, kL_25, kL_26, kL_27, kL_28, kL_29, kL_30, kL_31, kL_32, kL_33, kL_34, kL_35, kL_36, kL_37, kL_38, kL_39, kL_40, kL_41, kL_42, kL_43, kL_44, kL_45, kL_46, kL_47, kL_48, kL_49, kL_50, kL_51, kL_52, kL_53, kL_54, kL_55, kL_56, kL_57, kL_58, kL_59, kL_60, kL_61, kW_24_1, kW_24_2, kW_24_3, kW_24_4, kW_24_5, kW_24_6, kW_24_7, kW_24_8, kW_24_9, kW_24_10, kW_24_11, kW_24_12, kW_24_14, kW_24_15, kW_24_16, kW_24_17, kW_24_18, kW_24_19, kW_24_21, kW_24_22, kW_24_23, kW_24_25, kW_24_26, kW_24_27, kW_24_28, kW_24_29, kW_24_31, kW_24_32, kW_24_33, kW_24_34, kW_24_36, kW_24_37, kW_24_44, kW_24_49, kW_24_50, kW_24_51, kW_24_52, kI_24, kI_w24, kI_25, kI_w25, kI_26, kI_w26, kI_27, kI_w27, kI_28, kI_w28, kI_29, kI_w29, kI_30, kI_w30, kI_31, kI_w31, kI_32, kI_w32, kI_33, kI_w33, kI_34, kI_w34, kI_35, kI_w35, kI_36, kI_w36, kI_37, kI_w37, kI_38, kI_w38, kI_39, kI_w39, kI_40, kI_w40, kI_41, kI_w41, kI_42, kI_w42, kI_43, kI_w43, kI_44, kI_w44, kI_45, kI_w45, kI_46, kI_w46, kI_47, kI_w47, kI_48, kI_w48, kI_49, kI_w49, kI_50, kI_w50, kI_51, kI_w51, kI_52, kI_w52, kI_53, kI_w53, kI_54, kI_w54, kI_55, kI_w55, kI_56, kI_w56, kI_57, kI_w57, kI_58, kI_w58, kI_59, kI_w59, kI_60, kI_w60, kI_61, kI_w61, ix_in k1, ix_nat k1, show k < 40 by omega, ix_in h01, ix_nat h01, show h0 < 40 by omega, mq_u2n, ne_eq, Nat.reduceEqDiff, not_false_eq_true, d']
      exact hp s' hs
    · have p1 : p < 2147483648 := by omega
      have rr := (I.2.1 k hk).2 p hpn z
      have F1 := I.F1 h40 hk hpn z
      have J := I.step h40 hk hpn z
      have e1 : kxTp s (f + 1) k = kxTp s f p := by
        show (if s 1 k < 0 then k else kxTp s f (s 1 k).toNatClampNeg) = _
        rw [if_neg (by rw [z]; exact nI_pos p1), z, ix_nat p1]
      have e2 : kxFl n d (f + 1) k s = kxFl n d f p (kFa s (fun h => kHg s (nI k) d n h) n 0 (-6) d) := by
        show (if s 1 k < 0 then s else kxFl n d f (s 1 k).toNatClampNeg _) = _
        rw [if_neg (by rw [z]; exact nI_pos p1), z, ix_nat p1]
      rw [e1] at ht
      rw [e2] at hp
      have t3 := (kxTp_f h40 I.1 I.2.1 f p hpn (by omega)).2.2
      rw [ht] at t3
      have tk : ¬ k = top := fun y => by rw [← y] at t3; omega
      have c1 : kFa s (fun h => kHg s (nI k) d n h) n 0 (-6) d 1 = s 1 := kFa_o (by decide) (by decide) (by decide)
      have c0 : kFa s (fun h => kHg s (nI k) d n h) n 0 (-6) d 0 = s 0 := kFa_o (by decide) (by decide) (by decide)
      have s0 := hs 0 (by decide)
      have s1 := hs 1 (by decide)
      have s3 := hs 3 (by decide)
      have s4 := hs 4 (by decide)
      have s6 := hs 6 (by decide)
      have M := fun post => m_fallAll (B := B) (t := t) (l := l) (u := u) (i := i) (c := c) (r := r) (q := q) (g := g) (w := w) (x := x) (s := s') (F := fun h => decide (h < n) && kHg s (nI k) d n h) (o := k) (v := -6) (rk := rk) (post := post) (by rw [s0]; exact hn) h40 hk (by rw [s1]; exact I.1) (fun h hh => by
        rw [s6, s0, s1, s4, hd]
        simp only [hh, decide_true, Bool.true_and]
        rw [F1 h hh]
        constructor
        · rintro ⟨a1, a2, j, hj, a3, a4⟩; exact ⟨a1, a2, j, hj, a3, by simp only [hj, decide_true, Bool.true_and]; exact a4⟩
        · rintro ⟨a1, a2, j, hj, a3, a4⟩; exact ⟨a1, a2, j, hj, a3, by simp only [hj, decide_true, Bool.true_and] at a4; exact a4⟩) (fun h hh => by rw [decide_eq_false (by omega)]; rfl) (by rw [s1]; exact I.2.1)
      have eF : ∀ j, j ≠ 31 → kFs s' (fun h => decide (h < n) && kHg s (nI k) d n h) (-6) j = kFa s (fun h => kHg s (nI k) d n h) n 0 (-6) d j := fun j hj => by
        funext h
        unfold kFs
        rw [if_neg hj, s0, s3, hd, hs j hj]
        by_cases hh : h < n
        · by_cases y : kHg s (nI k) d n h = true
          · rw [if_pos (by simp [hh, y]), kFa_in hh y]
          · rw [if_neg (by simp [y]), kFa_out (fun _ => y)]
        · rw [if_neg (by simp [hh]), kFa_out (fun v => absurd v hh)]
      simp only [vb_X12_buy_62, ix_eq k1 t1, tk, M, mq_tag, mq_len, mq_i, mq_r, mq_l, mq_nx, mq_wi, mq_wr, mq_wl, true_and, and_true, and_false, false_and, and_self, ↓reduceIte, kT_24, kT_25, kT_26, kT_27, kT_28, kT_29, kT_30, kT_31, kT_32, kT_33, kT_34, kT_35, kT_36, kT_37, kT_38, kT_39, kT_40, kT_41, kT_42, kT_43, kT_44, kT_45, kT_46, kT_47, kT_48, kT_49, kT_50, kT_51, kT_52, kT_53, kT_54, kT_55, kT_56, kT_57, kT_58, kT_59, kT_60, kT_61, kL_25, kL_26, kL_27, kL_28, kL_29, kL_30, kL_31, kL_32, kL_33, kL_34, kL_35, kL_36, kL_37, kL_38, kL_39, kL_40, kL_41, kL_42, kL_43, kL_44, kL_45, kL_46, kL_47, kL_48, kL_49, kL_50, kL_51, kL_52, kL_53, kL_54, kL_55, kL_56, kL_57, kL_58, kL_59, kL_60, kL_61, kW_24_1, kW_24_2, kW_24_3, kW_24_4, kW_24_5, kW_24_6, kW_24_7, kW_24_8, kW_24_9, kW_24_10, kW_24_11, kW_24_12, kW_24_14, kW_24_15, kW_24_16, kW_24_17, kW_24_18, kW_24_19, kW_24_21, kW_24_22, kW_24_23, kW_24_25, kW_24_26, kW_24_27, kW_24_28, kW_24_29, kW_24_31, kW_24_32, kW_24_33, kW_24_34, kW_24_36, kW_24_37, kW_24_44, kW_24_49, kW_24_50, kW_24_51, kW_24_52, kI_24, kI_w24, kI_25, kI_w25, kI_26, kI_w26, kI_27, kI_w27, kI_28, kI_w28, kI_29, kI_w29, kI_30, kI_w30, kI_31, kI_w31, kI_32, kI_w32, kI_33, kI_w33, kI_34, kI_w34, kI_35, kI_w35, kI_36, kI_w36, kI_37, kI_w37, kI_38, kI_w38, kI_39, kI_w39, kI_40, kI_w40, kI_41, kI_w41, kI_42, kI_w42, kI_43, kI_w43, kI_44, kI_w44, kI_45, kI_w45, kI_46, kI_w46, kI_47, kI_w47, kI_48, kI_w48, kI_49, kI_w49, kI_50, kI_w50, kI_51, kI_w51, kI_52, kI_w52, kI_53, kI_w53, kI_54, kI_w54, kI_55, kI_w55, kI_56, kI_w56, kI_57, kI_w57, kI_58, kI_w58, kI_59, kI_w59, kI_60, kI_w60, kI_61, kI_w61, ix_in k1, ix_nat k1, show k < 40 by omega]
      rw [eF 1 (by decide), c1, z]
      exact ml_fl h40 hh0 htop f p _ _ eF (by rw [c0]; exact hd) (by rw [c0]; exact hn) J hpn (by omega) (by rw [kxTp_to c1]; exact ht) hp
end

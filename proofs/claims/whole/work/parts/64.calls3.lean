/-! STAGE B: holdings are made -/
theorem kCD.alloc {B x n na nn : Nat} {A AA AT AN : Nat → Nat} {t l : Nat → Nat} {i e : Nat → Nat → Int32} {r : Nat → Nat → Nat} {v : Nat} {i' : Nat → Nat → Int32} {r' : Nat → Nat → Nat} {l' : Nat → Nat} (H : kCD B A AA AT AN n na nn e t l i r x) (hi : ∀ a, a ≠ x → i' a = i a) (hr : ∀ a, a ≠ x → r' a = r a) (hl : ∀ a, a ≠ x → l' a = l a) : kCD B A AA AT AN n na nn e (mj_u1 t x v) l' i' r' (x + 1) := by
  obtain ⟨⟨p1, p2, p3, p4, p5⟩, ⟨⟨a1, a2⟩, ⟨b1, b2⟩, ⟨c1, c2⟩, ⟨d1, d2⟩⟩, v1, v2, k1, k2, k3⟩ := id H
  have tt : ∀ a, a < x → mj_u1 t x v a = t a := fun a h => mq_u1n (by omega)
  refine ⟨⟨p1, p2, p3, p4, by omega⟩, ⟨⟨?_, a2⟩, ⟨?_, b2⟩, ⟨?_, c2⟩, ⟨?_, d2⟩⟩, v1, v2, ?_, ?_, ?_⟩
  · intro h hh; obtain ⟨q1, q2, q3⟩ := a1 h hh; rw [tt _ q2]; exact ⟨q1, by omega, q3⟩
  · intro h hh; obtain ⟨q1, q2, q3⟩ := b1 h hh; rw [tt _ q2]; exact ⟨q1, by omega, q3⟩
  · intro h hh; obtain ⟨q1, q2, q3⟩ := c1 h hh; rw [tt _ q2]; exact ⟨q1, by omega, q3⟩
  · intro h hh; obtain ⟨q1, q2, q3⟩ := d1 h hh; rw [tt _ q2]; exact ⟨q1, by omega, q3⟩
  · intro h hh
    have h1 : A h ≠ x := by have := (a1 h hh).2.1; omega
    unfold kH1; rw [hi _ h1, hr _ h1]; exact k1 h hh
  · intro a ha
    have h1 : AA a ≠ x := by have := (b1 a ha).2.1; omega
    have h2 : AT a ≠ x := by have := (c1 a ha).2.1; omega
    unfold kA1; rw [hi _ h1, hr _ h1, hi _ h2, hl _ h2]; exact k2 a ha
  · intro k hk
    have h1 : AN k ≠ x := by have := (d1 k hk).2.1; omega
    unfold kN1; rw [hi _ h1, hr _ h1]; exact k3 k hk
/-- what is in force or would be: one within another -/
theorem kR2.within {s : Nat → Nat → Int32} {n k : Nat} {f a b : Int32} (h : kR2 s n k) (hd : khd s k f a b = true) (h1 : s 0 0 ≤ a) (h2 : a < b) : s 6 k = 0 ∧ b ≤ s 4 k ∧ s 3 k ≤ a := by
  simp only [khd, decide_eq_true_eq] at hd
  obtain ⟨_, q1, q2⟩ := hd
  obtain ⟨p1, p2, p3, p4, p5⟩ := h
  by_cases hw : s 6 k = 0
  · simp only [kun, hw, ↓reduceIte] at q2
    exact ⟨hw, q2, q1⟩
  · exfalso
    simp only [kun, hw, ↓reduceIte] at q2
    rw [i_le] at q1 q2 h1; rw [i_lt] at h2
    by_cases h4 : s 6 k = 4
    · rcases p3 h4 with z | z
      · rw [i_le] at z; omega
      · rw [z] at q2; omega
    · have := i_le.mp (p1 hw h4).1; omega
theorem kHo.add {s : Nat → Nat → Int32} {n : Nat} {o f a b p d : Int32} (h : kHo s n) (hn : n < 40)
    (hf : 1 ≤ f ∧ f ≤ 4095) (ha : 0 ≤ a ∧ a < b ∧ b ≤ 73000) (hp : 0 ≤ p ∧ p ≤ 9) (hd : 0 ≤ d ∧ d ≤ 73000)
    (ho : (o = -1 ∧ a = 0 ∧ b = 73000) ∨ (∃ k, k < n ∧ o = nI k ∧ b ≤ s 4 k ∧ (s 3 k ≤ a ∨ s 3 k ≤ s 0 0) ∧ s 6 k = 0)) : kHo (kAdd s n o f a b p d) (n + 1) := by
  obtain ⟨h1, h2, ⟨rk, h3⟩, h4⟩ := h
  have E : ∀ {j h : Nat}, 1 ≤ j → h < n → kAdd s n o f a b p d j h = s j h := fun hj hh => kAdd_lt hj hh
  have E0 : kAdd s n o f a b p d 0 0 = s 0 0 := kAdd_0 (by decide)
  obtain ⟨n1, n2, n3, n4, n5, n6, n7, n8, n9, n10, n11, n12⟩ := @kAdd_n s n o f a b p d
  have old : ∀ {h k : Nat} {j : Nat}, h < n → (j = 1 ∨ j = 12) → k < n + 1 → s j h = nI k → k < n := by
    intro h k j hh hj hk he
    obtain ⟨q1, _, _, _, _, _, _, _, _, _, q11⟩ := h2 h hh
    rcases hj with rfl | rfl
    · rcases q1 with z | ⟨k', hk', z⟩
      · rw [z] at he; exact absurd he.symm (by rw [ix_m1 (by omega)]; exact id)
      · rw [z, ix_eq (by omega) (by omega)] at he; omega
    · rcases q11 with z | ⟨k', hk', z⟩
      · rw [z] at he; exact absurd he.symm (by rw [ix_m6 (by omega)]; exact id)
      · rw [z, ix_eq (by omega) (by omega)] at he; omega
  refine ⟨by rw [E0]; exact h1, ?_, ?_, ?_⟩
  · intro h hh
    by_cases e : h = n
    · subst e
      unfold kR1
      rw [n1, n2, n3, n4, n5, n6, n7, n8, n9, n10, n11, n12]
      refine ⟨?_, hf, ha, by decide, by decide, hp, hd, by decide, by decide, .inl rfl, .inl rfl⟩
      rcases ho with ⟨z, _⟩ | ⟨k, hk, z, _⟩
      · exact .inl z
      · exact .inr ⟨k, by omega, z⟩
    · have hh' : h < n := by omega
      obtain ⟨q1, q2, q3, q4, q5, q6, q7, q8, q9, q10, q11⟩ := h2 h hh'
      unfold kR1
      rw [E (by decide) hh', E (by decide) hh', E (by decide) hh', E (by decide) hh', E (by decide) hh', E (by decide) hh', E (by decide) hh', E (by decide) hh', E (by decide) hh', E (by decide) hh', E (by decide) hh', E (by decide) hh']
      refine ⟨?_, q2, q3, q4, q5, q6, q7, q8, q9, q10, ?_⟩
      · rcases q1 with z | ⟨k, hk, z⟩
        · exact .inl z
        · exact .inr ⟨k, by omega, z⟩
      · rcases q11 with z | ⟨k, hk, z⟩
        · exact .inl z
        · exact .inr ⟨k, by omega, z⟩
  · rcases ho with ⟨z, _⟩ | ⟨k0, hk0, z, _⟩
    · refine ⟨fun h => if h = n then 0 else rk h, fun h hh => ?_⟩
      by_cases e : h = n
      · subst e; simp only [↓reduceIte]
        refine ⟨by omega, fun k hk he => ?_⟩
        rw [n1, z] at he; exact absurd he.symm (by rw [ix_m1 (by omega)]; exact id)
      · have hh' : h < n := by omega
        simp only [e, ↓reduceIte]
        refine ⟨by have := (h3 h hh').1; omega, fun k hk he => ?_⟩
        rw [E (by decide) hh'] at he
        have hk' := old hh' (.inl rfl) hk he
        rw [if_neg (by omega)]; exact (h3 h hh').2 k hk' he
    · refine ⟨fun h => if h = n then rk k0 + 1 else rk h, fun h hh => ?_⟩
      by_cases e : h = n
      · subst e; simp only [↓reduceIte]
        have := (h3 k0 hk0).1
        refine ⟨by omega, fun k hk he => ?_⟩
        rw [n1, z, ix_eq (by omega) (by omega)] at he
        subst he
        rw [if_neg (by omega)]; omega
      · have hh' : h < n := by omega
        simp only [e, ↓reduceIte]
        refine ⟨by have := (h3 h hh').1; omega, fun k hk he => ?_⟩
        rw [E (by decide) hh'] at he
        have hk' := old hh' (.inl rfl) hk he
        rw [if_neg (by omega)]; exact (h3 h hh').2 k hk' he
  · intro h hh
    by_cases e : h = n
    · subst e
      unfold kR2
      rw [n1, n3, n4, n5, n6, n12, E0]
      refine ⟨fun z => absurd rfl z, fun z => absurd rfl z, fun z => absurd z (by decide), ?_, ?_⟩
      · intro z
        rcases ho with ⟨_, z2, z3⟩ | ⟨k, hk, z2, _⟩
        · exact ⟨rfl, z3, z2⟩
        · rw [z2] at z; exact absurd z (by rw [ix_m1 (by omega)]; exact id)
      · intro k hk he
        rcases ho with ⟨z, _⟩ | ⟨k0, hk0, z, z1, z2, z3⟩
        · rw [z] at he; exact absurd he.symm (by rw [ix_m1 (by omega)]; exact id)
        · rw [z, ix_eq (by omega) (by omega)] at he
          subst he
          unfold kun
          rw [E (by decide) hk0, E (by decide) hk0, E (by decide) hk0, E (by decide) hk0, E (by decide) hk0, if_pos z3]
          exact ⟨z1, z2, fun _ _ => z1, fun _ _ => z3, fun z => absurd z (by decide)⟩
    · have hh' : h < n := by omega
      obtain ⟨q1, q2, q3, q4, q5⟩ := h4 h hh'
      unfold kR2
      rw [E (by decide) hh', E (by decide) hh', E (by decide) hh', E (by decide) hh', E (by decide) hh', E (by decide) hh', E0]
      refine ⟨q1, q2, q3, q4, fun k hk he => ?_⟩
      have hk' := old hh' (.inl rfl) hk he
      obtain ⟨r1, r2, r3, r4, r5⟩ := q5 k hk' he
      unfold kun
      rw [E (by decide) hk', E (by decide) hk', E (by decide) hk', E (by decide) hk', E (by decide) hk']
      refine ⟨r1, r2, r3, r4, fun z => ⟨(r5 z).1, fun m hm hm2 => (r5 z).2 m (old hh' (.inr rfl) hm hm2) hm2⟩⟩
section
variable {B : Nat} {M : mj_M} {K : Int32 → Int32 → mj_M → Prop}
/-- J of a new leaf -/
theorem kJ.add {B x : Nat} {t l u : Nat → Nat} {i c s : Nat → Nat → Int32} {r : Nat → Nat → Nat} {q g w : Nat → Nat → Int64} {A AA AT AN N : Nat → Nat} (hG : kG B A AA AT AN N c s t l i r u x) (hn : N 0 < 40) {o f a b p d : Int32} (hV : kV (N 0) o) (hf : 1 ≤ f ∧ f ≤ 4095) (ha : 0 ≤ a ∧ a < b ∧ b ≤ 73000) (hp : 0 ≤ p ∧ p ≤ 9) (hd : 0 ≤ d ∧ d ≤ 73000)
    (ho : (o = -1 ∧ a = 0 ∧ b = 73000) ∨ (∃ k, k < N 0 ∧ o = nI k ∧ b ≤ s 4 k ∧ (s 3 k ≤ a ∨ s 3 k ≤ s 0 0) ∧ s 6 k = 0)) :
    kJ B (kT B (mj_u1 t x 4), kL B l, kI B (mj_u2 (mj_u2 (mj_u2 (mj_u2 (mj_u2 (mj_u2 (mj_u2 (mj_u1 i x fun _ => 0) x 12 (-6)) x 3 f) x 4 a) x 5 b) x 8 p) x 9 d) x 0 (nI (N 0))) (mj_u2 c 1 3 (nI (N 0 + 1))) (kAdd s (N 0) o f a b p d), kW B (if N 0 = 0 then mj_u2 (mj_u1 r x fun _ => 0) x 2 (kR A o) else mj_u2 (mj_u2 (mj_u1 r x fun _ => 0) x 2 (kR A o)) (A (N 0 - 1)) 1 x) (if N 0 = 0 then mj_u1 (mj_u1 u 0 x) 1 x else mj_u1 u 1 x), kI B q g w, x + 1) := by
  obtain ⟨g1, g2, g3, g4, g5, g6, g7, g8, g9, g10⟩ := id hG
  obtain ⟨n1, n2, n3, n4, n5, n6, n7, n8, n9, n10, n11, n12⟩ := @kAdd_n s (N 0) o f a b p d
  have hx := g1.x62
  have hne : ∀ h, h < N 0 → A h ≠ x := fun h hh => by have := g1.AHx hh; omega
  refine kJ.mk (A := mj_u1 A (N 0) x) (AA := AA) (AT := AT) (AN := AN) (N := fun j => if j = 0 then N 0 + 1 else N j) ⟨?c1, ?c2, ?c3, g4.to ?_ ?_ ?_ ?_ ?_ ?_ ?_ ?_, g5.to ?_ ?_ ?_ ?_ ?_ ?_ ?_ ?_ ?_ ?_, g6.to ?_ ?_ ?_ ?_ ?_ ?_, g7.to ?_ ?_ ?_ ?_ ?_ ?_ ?_ ?_ ?_ ?_ ?_ ?_ ?_, ?c8, g9.to ?_ ?_, ?c10⟩
  case c1 =>
    refine g1.new hn ?_ ?_ ?_ ?_ ?_ ?_ ?_ ?_
    · intro h hh
      have e := hne h hh
      obtain ⟨q1, q2, _⟩ := g1.2.2.2.2.1 h hh
      refine ⟨?_, fun j a1 a2 => ?_⟩
      · simp only [mq_u2, mq_u1, e, mq_tag, mq_len, mq_i, mq_r, mq_l, mq_nx, mq_wi, mq_wr, mq_wl, true_and, and_true, and_false, false_and, and_self, ↓reduceIte]; exact q1
      · rw [kAdd_lt (by omega) hh]; simp only [mq_u2, mq_u1, e, mq_tag, mq_len, mq_i, mq_r, mq_l, mq_nx, mq_wi, mq_wr, mq_wl, true_and, and_true, and_false, false_and, and_self, ↓reduceIte]; exact q2 j a1 a2
    · intro h hh
      have e := hne h hh
      obtain ⟨_, _, q3, q4, q5⟩ := g1.2.2.2.2.1 h hh
      have h0 : ¬ N 0 = 0 := by omega
      rw [kAdd_lt (by decide) hh, kAdd_lt (by decide) hh]
      have e4 : kR (mj_u1 A (N 0) x) (s 1 h) = kR A (s 1 h) := by
        rcases g1.V1 hh with hv | ⟨k, hk, hv⟩
        · rw [kR_n hv, kR_n hv]
        · rw [hv, kR_I (by omega), kR_I (by omega)]; exact mq_u1n (by omega)
      rw [e4]
      refine ⟨?_, ?_, ?_⟩
      · simp only [h0, ↓reduceIte]
        by_cases e2 : h + 1 = N 0
        · have e3 : h = N 0 - 1 := by omega
          subst e3
          rw [mq_u2s, if_pos e2]
        · have e3 : A h ≠ A (N 0 - 1) := fun z => by rw [g1.inj hh (by omega)] at z; omega
          rw [mq_u2n e3, if_neg e2]
          simp only [mq_u2, mq_u1, e, mq_tag, mq_len, mq_i, mq_r, mq_l, mq_nx, mq_wi, mq_wr, mq_wl, true_and, and_true, and_false, false_and, and_self, ↓reduceIte]; rw [q3, kP_lt (by omega)]
      · simp only [h0, ↓reduceIte, mq_u2, mq_u1, e, mq_tag, mq_len, mq_i, mq_r, mq_l, mq_nx, mq_wi, mq_wr, mq_wl, true_and, and_true, and_false, false_and, and_self, ↓reduceIte, Nat.reduceEqDiff]; exact q4
      · simp only [h0, ↓reduceIte, mq_u2, mq_u1, e, mq_tag, mq_len, mq_i, mq_r, mq_l, mq_nx, mq_wi, mq_wr, mq_wl, true_and, and_true, and_false, false_and, and_self, ↓reduceIte, Nat.reduceEqDiff]; exact q5
    · have e9 : ∀ k, (if N 0 = 0 then mj_u2 (mj_u1 r x fun _ => 0) x 2 (kR A o) else mj_u2 (mj_u2 (mj_u1 r x fun _ => 0) x 2 (kR A o)) (A (N 0 - 1)) 1 x) x k = mj_u2 (mj_u1 r x fun _ => 0) x 2 (kR A o) x k := by
        intro k
        by_cases h0 : N 0 = 0
        · rw [if_pos h0]
        · rw [if_neg h0, mq_u2n (Ne.symm (hne _ (by omega)))]
      have e4 : kR (mj_u1 A (N 0) x) o = kR A o := by
        rcases hV with hv | ⟨k, hk, rfl⟩
        · rw [kR_n hv, kR_n hv]
        · rw [kR_I (by omega), kR_I (by omega)]; exact mq_u1n (by omega)
      refine ⟨mq_u2s, fun j a1 a2 => ?_, ?_, ?_, ?_⟩
      · obtain rfl | rfl | rfl | rfl | rfl | rfl | rfl | rfl | rfl | rfl : j = 2 ∨ j = 3 ∨ j = 4 ∨ j = 5 ∨ j = 6 ∨ j = 7 ∨ j = 8 ∨ j = 9 ∨ j = 10 ∨ j = 11 := by omega
        all_goals simp [kfd, mq_u2, mq_u1, n2, n3, n4, n5, n6, n7, n8, n9, n10, n11]
      · rw [e9]; simp [mq_u2, mq_u1]
      · rw [e9, n1, e4]; simp [mq_u2, mq_u1]
      · rw [e9]; simp [mq_u2, mq_u1]
    · intro h hh
      by_cases e : h = N 0
      · subst e; rw [n1]; exact kV_up hV (by omega)
      · rw [kAdd_lt (by decide) (by omega)]; exact kV_up (g1.V1 (by omega)) (by omega)
    · intro h hh; rw [kAdd_lt (by decide) hh]; exact g1.V12 hh
    · rw [n12]; decide
    · intro a ha hax
      refine ⟨?_, ?_⟩
      · funext k; simp [mq_u2, mq_u1, hax]
      · funext k
        by_cases h0 : N 0 = 0
        · simp [h0, mq_u2, mq_u1, hax]
        · have : a ≠ A (N 0 - 1) := fun z => ha (by rw [z]; exact g1.tH (by omega))
          simp [h0, mq_u2, mq_u1, hax, this]
    · intro j hj; exact kAdd_hi hj
  case c2 =>
    obtain ⟨q1, q2, q3, q4, q5⟩ := g2
    by_cases h0 : N 0 = 0
    · simp only [kU, h0, ↓reduceIte]
      refine ⟨?_, ?_, ?_, ?_, ?_⟩
      · simp [mq_u1, kP]
      · simp [mq_u1]
      · simpa [mq_u1] using q3
      · simpa [mq_u1] using q4
      · simpa [mq_u1] using q5
    · simp only [kU, h0, ↓reduceIte]
      refine ⟨?_, ?_, ?_, ?_, ?_⟩
      · rw [mq_u1n (by decide), q1, kP_lt (by omega), kP_lt (by omega)]; exact (mq_u1n (by omega)).symm
      · simp [mq_u1]
      · simpa [mq_u1] using q3
      · simpa [mq_u1] using q4
      · simpa [mq_u1] using q5
  case c3 =>
    obtain ⟨q1, q2, q3, q4, q5⟩ := g3
    refine ⟨?_, ?_, ?_, ?_, ?_⟩
    · rw [mq_u2k (by decide), kAdd_0 (by decide)]; exact q1
    · rw [mq_u2s]; rfl
    · rw [kAdd_13]; rfl
    · intro p hp; rw [mq_u2n (by decide), kAdd_hi (by decide)]; exact q4 p hp
    · intro p hp; rw [mq_u2n (by decide), kAdd_hi (by decide)]; exact q5 p hp
  case c8 => exact g8.add hn hf ha hp hd ho
  case c10 =>
    obtain ⟨q1, q2⟩ := g10
    unfold kNo
    rw [kAdd_hi (j := 25) (by decide), kAdd_hi (j := 26) (by decide), kAdd_hi (j := 27) (by decide), kAdd_hi (j := 28) (by decide), kAdd_hi (j := 29) (by decide)]
    refine ⟨fun k hk => ?_, q2⟩
    obtain ⟨⟨j, h1, h2, h3⟩, h4⟩ := q1 k hk
    exact ⟨⟨j, by simp only [↓reduceIte]; omega, h2, by rw [kAdd_lt (by decide) h1]; exact h3⟩, h4⟩
  all_goals first | rfl | (exact kAdd_0 (by decide)) | (exact kAdd_hi (by decide)) | (simp [mq_u2]; done) | (funext _; simp [mq_u2]; done) | (rw [kAdd_hi (by decide)]; done) | (intros; rw [kAdd_hi (by decide)]; done) | (intros; rw [kAdd_hi (by decide), kAdd_hi (by decide), kAdd_hi (by decide)]; exact ⟨rfl, rfl, rfl⟩)
theorem T_whole (h : kJ B M) (a b : Int32) (hK : ∀ v M', kJ B M' → K v v M') : vc_X11_whole B a b M (fun v M1 => mj_tag M1 (B + 24) = 13 ∧ vc_X12_whole (B + 24) a b M1 (fun v' M2 => K v v' M2)) := by
  obtain ⟨A, AA, AT, AN, N, t, l, u, i, c, s, r, q, g, w, x, rfl, hG⟩ := h
  obtain ⟨g1, g2, g3, g4, g5, g6, g7, g8, g9, g10⟩ := id hG
  have h40 := hG.n40
  have hx := g1.x62
  by_cases hb : 0 ≤ b ∧ b ≤ 9
  · by_cases ha : 1 ≤ a ∧ a ≤ 4095
    · by_cases hf : N 0 = 40
      · have e40 : nI (N 0) = 40 := by rw [hf]; decide
        simp only [vc_X11_whole, vc_X12_whole, vc_X4_isFull, mq_tag, mq_len, mq_i, mq_r, mq_l, mq_nx, mq_wi, mq_wr, mq_wl, true_and, and_true, and_false, false_and, and_self, ↓reduceIte, kT_0, kT_1, kT_2, kT_3, kT_4, kT_5, kT_6, kT_7, kT_8, kT_9, kT_10, kT_11, kT_12, kT_13, kT_14, kT_15, kT_16, kT_17, kT_18, kT_19, kT_20, kT_21, kT_22, kT_23, kL_2, kL_3, kL_5, kL_10, kL_11, kL_12, kL_14, kL_15, kL_17, kL_18, kL_19, kL_20, kL_21, kL_22, kL_23, kW_0_0, kW_0_1, kW_0_2, kW_0_3, kW_0_4, kW_0_5, kW_0_6, kW_0_7, kW_1_4, kW_1_5, kW_4_0, kW_4_1, kW_9_0, kW_9_1, kW_9_2, kW_13_0, kW_13_1, kW_16_0, kW_16_1, kW_16_2, kW_16_3, kW_16_4, kW_16_5, kW_1_1, kW_1_2, kW_4_4, kW_8_0, kW_8_1, kW_w1_1, kW_w1_2, kW_w4_4, kW_w8_0, kW_w8_1, kI_0, kI_w0, kI_1, kI_w1, kI_2, kI_w2, kI_3, kI_w3, kI_4, kI_w4, kI_5, kI_w5, kI_6, kI_w6, kI_7, kI_w7, kI_8, kI_w8, kI_9, kI_w9, kI_10, kI_w10, kI_11, kI_w11, kI_12, kI_w12, kI_13, kI_w13, kI_14, kI_w14, kI_15, kI_w15, kI_16, kI_w16, kI_17, kI_w17, kI_18, kI_w18, kI_19, kI_w19, kI_20, kI_w20, kI_21, kI_w21, kI_22, kI_w22, kI_23, kI_w23, kT_24, kT_25, kT_26, kT_27, kT_28, kT_29, kT_30, kT_31, kT_32, kT_33, kT_34, kT_35, kT_36, kT_37, kT_38, kT_39, kT_40, kT_41, kT_42, kT_43, kT_44, kT_45, kT_46, kT_47, kT_48, kT_49, kT_50, kT_51, kT_52, kT_53, kT_54, kT_55, kT_56, kT_57, kT_58, kT_59, kT_60, kT_61, kL_25, kL_26, kL_27, kL_28, kL_29, kL_30, kL_31, kL_32, kL_33, kL_34, kL_35, kL_36, kL_37, kL_38, kL_39, kL_40, kL_41, kL_42, kL_43, kL_44, kL_45, kL_46, kL_47, kL_48, kL_49, kL_50, kL_51, kL_52, kL_53, kL_54, kL_55, kL_56, kL_57, kL_58, kL_59, kL_60, kL_61, kW_24_1, kW_24_2, kW_24_3, kW_24_4, kW_24_5, kW_24_6, kW_24_7, kW_24_8, kW_24_9, kW_24_10, kW_24_11, kW_24_12, kW_24_14, kW_24_15, kW_24_16, kW_24_17, kW_24_18, kW_24_19, kW_24_21, kW_24_22, kW_24_23, kW_24_25, kW_24_26, kW_24_27, kW_24_28, kW_24_29, kW_24_31, kW_24_32, kW_24_33, kW_24_34, kW_24_36, kW_24_37, kW_24_44, kW_24_49, kW_24_50, kW_24_51, kW_24_52, kI_24, kI_w24, kI_25, kI_w25, kI_26, kI_w26, kI_27, kI_w27, kI_28, kI_w28, kI_29, kI_w29, kI_30, kI_w30, kI_31, kI_w31, kI_32, kI_w32, kI_33, kI_w33, kI_34, kI_w34, kI_35, kI_w35, kI_36, kI_w36, kI_37, kI_w37, kI_38, kI_w38, kI_39, kI_w39, kI_40, kI_w40, kI_41, kI_w41, kI_42, kI_w42, kI_43, kI_w43, kI_44, kI_w44, kI_45, kI_w45, kI_46, kI_w46, kI_47, kI_w47, kI_48, kI_w48, kI_49, kI_w49, kI_50, kI_w50, kI_51, kI_w51, kI_52, kI_w52, kI_53, kI_w53, kI_54, kI_w54, kI_55, kI_w55, kI_56, kI_w56, kI_57, kI_w57, kI_58, kI_w58, kI_59, kI_w59, kI_60, kI_w60, kI_61, kI_w61, c_isPerson, m_isPerson, c_isFloors, m_areFloors, hb, ha, decide_true, g3.2.1, hG.hn, e40]
        exact hK _ _ (kJ.mk hG)
      · have e40 : (nI (N 0) = 40) = False := eq_false (by rw [show (40 : Int32) = nI 40 by decide, ix_eq (by omega) (by decide)]; exact hf)
        rcases Bool.eq_false_or_eq_true (kAny (fun h => decide (s 1 h < 0 ∧ ¬ s 2 h &&& a = 0)) (N 0) 0) with hy | hy
        · simp only [vc_X11_whole, vc_X12_whole, vc_X4_isFull, mq_tag, mq_len, mq_i, mq_r, mq_l, mq_nx, mq_wi, mq_wr, mq_wl, true_and, and_true, and_false, false_and, and_self, ↓reduceIte, kT_0, kT_1, kT_2, kT_3, kT_4, kT_5, kT_6, kT_7, kT_8, kT_9, kT_10, kT_11, kT_12, kT_13, kT_14, kT_15, kT_16, kT_17, kT_18, kT_19, kT_20, kT_21, kT_22, kT_23, kL_2, kL_3, kL_5, kL_10, kL_11, kL_12, kL_14, kL_15, kL_17, kL_18, kL_19, kL_20, kL_21, kL_22, kL_23, kW_0_0, kW_0_1, kW_0_2, kW_0_3, kW_0_4, kW_0_5, kW_0_6, kW_0_7, kW_1_4, kW_1_5, kW_4_0, kW_4_1, kW_9_0, kW_9_1, kW_9_2, kW_13_0, kW_13_1, kW_16_0, kW_16_1, kW_16_2, kW_16_3, kW_16_4, kW_16_5, kW_1_1, kW_1_2, kW_4_4, kW_8_0, kW_8_1, kW_w1_1, kW_w1_2, kW_w4_4, kW_w8_0, kW_w8_1, kI_0, kI_w0, kI_1, kI_w1, kI_2, kI_w2, kI_3, kI_w3, kI_4, kI_w4, kI_5, kI_w5, kI_6, kI_w6, kI_7, kI_w7, kI_8, kI_w8, kI_9, kI_w9, kI_10, kI_w10, kI_11, kI_w11, kI_12, kI_w12, kI_13, kI_w13, kI_14, kI_w14, kI_15, kI_w15, kI_16, kI_w16, kI_17, kI_w17, kI_18, kI_w18, kI_19, kI_w19, kI_20, kI_w20, kI_21, kI_w21, kI_22, kI_w22, kI_23, kI_w23, kT_24, kT_25, kT_26, kT_27, kT_28, kT_29, kT_30, kT_31, kT_32, kT_33, kT_34, kT_35, kT_36, kT_37, kT_38, kT_39, kT_40, kT_41, kT_42, kT_43, kT_44, kT_45, kT_46, kT_47, kT_48, kT_49, kT_50, kT_51, kT_52, kT_53, kT_54, kT_55, kT_56, kT_57, kT_58, kT_59, kT_60, kT_61, kL_25, kL_26, kL_27, kL_28, kL_29, kL_30, kL_31, kL_32, kL_33, kL_34, kL_35, kL_36, kL_37, kL_38, kL_39, kL_40, kL_41, kL_42, kL_43, kL_44, kL_45, kL_46, kL_47, kL_48, kL_49, kL_50, kL_51, kL_52, kL_53, kL_54, kL_55, kL_56, kL_57, kL_58, kL_59, kL_60, kL_61, kW_24_1, kW_24_2, kW_24_3, kW_24_4, kW_24_5, kW_24_6, kW_24_7, kW_24_8, kW_24_9, kW_24_10, kW_24_11, kW_24_12, kW_24_14, kW_24_15, kW_24_16, kW_24_17, kW_24_18, kW_24_19, kW_24_21, kW_24_22, kW_24_23, kW_24_25, kW_24_26, kW_24_27, kW_24_28, kW_24_29, kW_24_31, kW_24_32, kW_24_33, kW_24_34, kW_24_36, kW_24_37, kW_24_44, kW_24_49, kW_24_50, kW_24_51, kW_24_52, kI_24, kI_w24, kI_25, kI_w25, kI_26, kI_w26, kI_27, kI_w27, kI_28, kI_w28, kI_29, kI_w29, kI_30, kI_w30, kI_31, kI_w31, kI_32, kI_w32, kI_33, kI_w33, kI_34, kI_w34, kI_35, kI_w35, kI_36, kI_w36, kI_37, kI_w37, kI_38, kI_w38, kI_39, kI_w39, kI_40, kI_w40, kI_41, kI_w41, kI_42, kI_w42, kI_43, kI_w43, kI_44, kI_w44, kI_45, kI_w45, kI_46, kI_w46, kI_47, kI_w47, kI_48, kI_w48, kI_49, kI_w49, kI_50, kI_w50, kI_51, kI_w51, kI_52, kI_w52, kI_53, kI_w53, kI_54, kI_w54, kI_55, kI_w55, kI_56, kI_w56, kI_57, kI_w57, kI_58, kI_w58, kI_59, kI_w59, kI_60, kI_w60, kI_61, kI_w61, c_isPerson, m_isPerson, c_isFloors, m_areFloors, hb, ha, decide_true, g3.2.1, hG.hn, e40, Bool.false_eq_true, c_owned g1 g2, hy]
          rw [← nI_0, ml_whole hG.hn h40 (N 0) 0 (by omega), hy]
          simp only [↓reduceIte]
          exact hK _ _ (kJ.mk hG)
        · have tx : kT B (mj_u1 t x 4) x = 4 := (kT_o hx).trans mq_u1s
          have x0 : (x = 0) = False := eq_false (by omega)
          simp only [vc_X11_whole, vc_X4_isFull, mq_tag, mq_len, mq_i, mq_r, mq_l, mq_nx, mq_wi, mq_wr, mq_wl, true_and, and_true, and_false, false_and, and_self, ↓reduceIte, kT_0, kT_1, kT_2, kT_3, kT_4, kT_5, kT_6, kT_7, kT_8, kT_9, kT_10, kT_11, kT_12, kT_13, kT_14, kT_15, kT_16, kT_17, kT_18, kT_19, kT_20, kT_21, kT_22, kT_23, kL_2, kL_3, kL_5, kL_10, kL_11, kL_12, kL_14, kL_15, kL_17, kL_18, kL_19, kL_20, kL_21, kL_22, kL_23, kW_0_0, kW_0_1, kW_0_2, kW_0_3, kW_0_4, kW_0_5, kW_0_6, kW_0_7, kW_1_4, kW_1_5, kW_4_0, kW_4_1, kW_9_0, kW_9_1, kW_9_2, kW_13_0, kW_13_1, kW_16_0, kW_16_1, kW_16_2, kW_16_3, kW_16_4, kW_16_5, kW_1_1, kW_1_2, kW_4_4, kW_8_0, kW_8_1, kW_w1_1, kW_w1_2, kW_w4_4, kW_w8_0, kW_w8_1, kI_0, kI_w0, kI_1, kI_w1, kI_2, kI_w2, kI_3, kI_w3, kI_4, kI_w4, kI_5, kI_w5, kI_6, kI_w6, kI_7, kI_w7, kI_8, kI_w8, kI_9, kI_w9, kI_10, kI_w10, kI_11, kI_w11, kI_12, kI_w12, kI_13, kI_w13, kI_14, kI_w14, kI_15, kI_w15, kI_16, kI_w16, kI_17, kI_w17, kI_18, kI_w18, kI_19, kI_w19, kI_20, kI_w20, kI_21, kI_w21, kI_22, kI_w22, kI_23, kI_w23, c_isPerson, c_isFloors, hb, ha, decide_true, g3.2.1, e40, Bool.false_eq_true, c_owned g1 g2, hy, mq_new, forall_eq, kT_n hx, kI_n hx, kW_n hx, vc_X3_init, tx, x0, not_false_eq_true, kI_wo hx, kW_wo hx]
          rw [c_add (n := N 0) (A := A) hx mq_u1s g2.2.1 (fun h0 => ⟨g1.AH (by omega), by rw [mq_u1n (by have := g1.AHx (show N 0 - 1 < N 0 by omega); omega)]; exact g1.tH (by omega)⟩) g3.2.1]
          refine ⟨kT_24, ?_⟩
          simp only [vc_X12_whole, mq_tag, mq_len, mq_i, mq_r, mq_l, mq_nx, mq_wi, mq_wr, mq_wl, true_and, and_true, and_false, false_and, and_self, ↓reduceIte, kT_24, kT_25, kT_26, kT_27, kT_28, kT_29, kT_30, kT_31, kT_32, kT_33, kT_34, kT_35, kT_36, kT_37, kT_38, kT_39, kT_40, kT_41, kT_42, kT_43, kT_44, kT_45, kT_46, kT_47, kT_48, kT_49, kT_50, kT_51, kT_52, kT_53, kT_54, kT_55, kT_56, kT_57, kT_58, kT_59, kT_60, kT_61, kL_25, kL_26, kL_27, kL_28, kL_29, kL_30, kL_31, kL_32, kL_33, kL_34, kL_35, kL_36, kL_37, kL_38, kL_39, kL_40, kL_41, kL_42, kL_43, kL_44, kL_45, kL_46, kL_47, kL_48, kL_49, kL_50, kL_51, kL_52, kL_53, kL_54, kL_55, kL_56, kL_57, kL_58, kL_59, kL_60, kL_61, kW_24_1, kW_24_2, kW_24_3, kW_24_4, kW_24_5, kW_24_6, kW_24_7, kW_24_8, kW_24_9, kW_24_10, kW_24_11, kW_24_12, kW_24_14, kW_24_15, kW_24_16, kW_24_17, kW_24_18, kW_24_19, kW_24_21, kW_24_22, kW_24_23, kW_24_25, kW_24_26, kW_24_27, kW_24_28, kW_24_29, kW_24_31, kW_24_32, kW_24_33, kW_24_34, kW_24_36, kW_24_37, kW_24_44, kW_24_49, kW_24_50, kW_24_51, kW_24_52, kI_24, kI_w24, kI_25, kI_w25, kI_26, kI_w26, kI_27, kI_w27, kI_28, kI_w28, kI_29, kI_w29, kI_30, kI_w30, kI_31, kI_w31, kI_32, kI_w32, kI_33, kI_w33, kI_34, kI_w34, kI_35, kI_w35, kI_36, kI_w36, kI_37, kI_w37, kI_38, kI_w38, kI_39, kI_w39, kI_40, kI_w40, kI_41, kI_w41, kI_42, kI_w42, kI_43, kI_w43, kI_44, kI_w44, kI_45, kI_w45, kI_46, kI_w46, kI_47, kI_w47, kI_48, kI_w48, kI_49, kI_w49, kI_50, kI_w50, kI_51, kI_w51, kI_52, kI_w52, kI_53, kI_w53, kI_54, kI_w54, kI_55, kI_w55, kI_56, kI_w56, kI_57, kI_w57, kI_58, kI_w58, kI_59, kI_w59, kI_60, kI_w60, kI_61, kI_w61, m_isPerson, m_areFloors, hb, ha, decide_true, hG.hn, e40]
          rw [← nI_0, ml_whole hG.hn h40 (N 0) 0 (by omega), hy]
          simp only [Bool.false_eq_true, ↓reduceIte]
          rw [m_add hG.hn (by omega), hG.hd, nI_0]
          have J := kJ.add (q := mj_u1 q x fun _ => 0) (g := g) (w := w) hG (by omega) kV_m1 ha (by decide) hb g8.1 (.inl ⟨rfl, rfl, rfl⟩)
          rw [kR_m1] at J
          exact hK _ _ J
    · simp only [vc_X11_whole, vc_X12_whole, mq_tag, mq_len, mq_i, mq_r, mq_l, mq_nx, mq_wi, mq_wr, mq_wl, true_and, and_true, and_false, false_and, and_self, ↓reduceIte, kT_0, kT_1, kT_2, kT_3, kT_4, kT_5, kT_6, kT_7, kT_8, kT_9, kT_10, kT_11, kT_12, kT_13, kT_14, kT_15, kT_16, kT_17, kT_18, kT_19, kT_20, kT_21, kT_22, kT_23, kL_2, kL_3, kL_5, kL_10, kL_11, kL_12, kL_14, kL_15, kL_17, kL_18, kL_19, kL_20, kL_21, kL_22, kL_23, kW_0_0, kW_0_1, kW_0_2, kW_0_3, kW_0_4, kW_0_5, kW_0_6, kW_0_7, kW_1_4, kW_1_5, kW_4_0, kW_4_1, kW_9_0, kW_9_1, kW_9_2, kW_13_0, kW_13_1, kW_16_0, kW_16_1, kW_16_2, kW_16_3, kW_16_4, kW_16_5, kW_1_1, kW_1_2, kW_4_4, kW_8_0, kW_8_1, kW_w1_1, kW_w1_2, kW_w4_4, kW_w8_0, kW_w8_1, kI_0, kI_w0, kI_1, kI_w1, kI_2, kI_w2, kI_3, kI_w3, kI_4, kI_w4, kI_5, kI_w5, kI_6, kI_w6, kI_7, kI_w7, kI_8, kI_w8, kI_9, kI_w9, kI_10, kI_w10, kI_11, kI_w11, kI_12, kI_w12, kI_13, kI_w13, kI_14, kI_w14, kI_15, kI_w15, kI_16, kI_w16, kI_17, kI_w17, kI_18, kI_w18, kI_19, kI_w19, kI_20, kI_w20, kI_21, kI_w21, kI_22, kI_w22, kI_23, kI_w23, kT_24, kT_25, kT_26, kT_27, kT_28, kT_29, kT_30, kT_31, kT_32, kT_33, kT_34, kT_35, kT_36, kT_37, kT_38, kT_39, kT_40, kT_41, kT_42, kT_43, kT_44, kT_45, kT_46, kT_47, kT_48, kT_49, kT_50, kT_51, kT_52, kT_53, kT_54, kT_55, kT_56, kT_57, kT_58, kT_59, kT_60, kT_61, kL_25, kL_26, kL_27, kL_28, kL_29, kL_30, kL_31, kL_32, kL_33, kL_34, kL_35, kL_36, kL_37, kL_38, kL_39, kL_40, kL_41, kL_42, kL_43, kL_44, kL_45, kL_46, kL_47, kL_48, kL_49, kL_50, kL_51, kL_52, kL_53, kL_54, kL_55, kL_56, kL_57, kL_58, kL_59, kL_60, kL_61, kW_24_1, kW_24_2, kW_24_3, kW_24_4, kW_24_5, kW_24_6, kW_24_7, kW_24_8, kW_24_9, kW_24_10, kW_24_11, kW_24_12, kW_24_14, kW_24_15, kW_24_16, kW_24_17, kW_24_18, kW_24_19, kW_24_21, kW_24_22, kW_24_23, kW_24_25, kW_24_26, kW_24_27, kW_24_28, kW_24_29, kW_24_31, kW_24_32, kW_24_33, kW_24_34, kW_24_36, kW_24_37, kW_24_44, kW_24_49, kW_24_50, kW_24_51, kW_24_52, kI_24, kI_w24, kI_25, kI_w25, kI_26, kI_w26, kI_27, kI_w27, kI_28, kI_w28, kI_29, kI_w29, kI_30, kI_w30, kI_31, kI_w31, kI_32, kI_w32, kI_33, kI_w33, kI_34, kI_w34, kI_35, kI_w35, kI_36, kI_w36, kI_37, kI_w37, kI_38, kI_w38, kI_39, kI_w39, kI_40, kI_w40, kI_41, kI_w41, kI_42, kI_w42, kI_43, kI_w43, kI_44, kI_w44, kI_45, kI_w45, kI_46, kI_w46, kI_47, kI_w47, kI_48, kI_w48, kI_49, kI_w49, kI_50, kI_w50, kI_51, kI_w51, kI_52, kI_w52, kI_53, kI_w53, kI_54, kI_w54, kI_55, kI_w55, kI_56, kI_w56, kI_57, kI_w57, kI_58, kI_w58, kI_59, kI_w59, kI_60, kI_w60, kI_61, kI_w61, c_isPerson, m_isPerson, c_isFloors, m_areFloors, hb, ha, decide_true, not_true_eq_false, not_false_eq_true, true_and, and_true, false_and, and_false, and_self, decide_true, decide_false, ↓reduceIte, Bool.true_and, Bool.false_and, Bool.and_true, Bool.and_false, Bool.not_true, Bool.not_false, Bool.false_eq_true, Bool.true_or, Bool.or_true, Bool.false_or, Bool.or_false, reduceCtorEq, Bool.and_self, Bool.or_self, ne_eq]
      exact hK _ _ (kJ.mk hG)
  · simp only [vc_X11_whole, vc_X12_whole, mq_tag, mq_len, mq_i, mq_r, mq_l, mq_nx, mq_wi, mq_wr, mq_wl, true_and, and_true, and_false, false_and, and_self, ↓reduceIte, kT_0, kT_1, kT_2, kT_3, kT_4, kT_5, kT_6, kT_7, kT_8, kT_9, kT_10, kT_11, kT_12, kT_13, kT_14, kT_15, kT_16, kT_17, kT_18, kT_19, kT_20, kT_21, kT_22, kT_23, kL_2, kL_3, kL_5, kL_10, kL_11, kL_12, kL_14, kL_15, kL_17, kL_18, kL_19, kL_20, kL_21, kL_22, kL_23, kW_0_0, kW_0_1, kW_0_2, kW_0_3, kW_0_4, kW_0_5, kW_0_6, kW_0_7, kW_1_4, kW_1_5, kW_4_0, kW_4_1, kW_9_0, kW_9_1, kW_9_2, kW_13_0, kW_13_1, kW_16_0, kW_16_1, kW_16_2, kW_16_3, kW_16_4, kW_16_5, kW_1_1, kW_1_2, kW_4_4, kW_8_0, kW_8_1, kW_w1_1, kW_w1_2, kW_w4_4, kW_w8_0, kW_w8_1, kI_0, kI_w0, kI_1, kI_w1, kI_2, kI_w2, kI_3, kI_w3, kI_4, kI_w4, kI_5, kI_w5, kI_6, kI_w6, kI_7, kI_w7, kI_8, kI_w8, kI_9, kI_w9, kI_10, kI_w10, kI_11, kI_w11, kI_12, kI_w12, kI_13, kI_w13, kI_14, kI_w14, kI_15, kI_w15, kI_16, kI_w16, kI_17, kI_w17, kI_18, kI_w18, kI_19, kI_w19, kI_20, kI_w20, kI_21, kI_w21, kI_22, kI_w22, kI_23, kI_w23, kT_24, kT_25, kT_26, kT_27, kT_28, kT_29, kT_30, kT_31, kT_32, kT_33, kT_34, kT_35, kT_36, kT_37, kT_38, kT_39, kT_40, kT_41, kT_42, kT_43, kT_44, kT_45, kT_46, kT_47, kT_48, kT_49, kT_50, kT_51, kT_52, kT_53, kT_54, kT_55, kT_56, kT_57, kT_58, kT_59, kT_60, kT_61, kL_25, kL_26, kL_27, kL_28, kL_29, kL_30, kL_31, kL_32, kL_33, kL_34, kL_35, kL_36, kL_37, kL_38, kL_39, kL_40, kL_41, kL_42, kL_43, kL_44, kL_45, kL_46, kL_47, kL_48, kL_49, kL_50, kL_51, kL_52, kL_53, kL_54, kL_55, kL_56, kL_57, kL_58, kL_59, kL_60, kL_61, kW_24_1, kW_24_2, kW_24_3, kW_24_4, kW_24_5, kW_24_6, kW_24_7, kW_24_8, kW_24_9, kW_24_10, kW_24_11, kW_24_12, kW_24_14, kW_24_15, kW_24_16, kW_24_17, kW_24_18, kW_24_19, kW_24_21, kW_24_22, kW_24_23, kW_24_25, kW_24_26, kW_24_27, kW_24_28, kW_24_29, kW_24_31, kW_24_32, kW_24_33, kW_24_34, kW_24_36, kW_24_37, kW_24_44, kW_24_49, kW_24_50, kW_24_51, kW_24_52, kI_24, kI_w24, kI_25, kI_w25, kI_26, kI_w26, kI_27, kI_w27, kI_28, kI_w28, kI_29, kI_w29, kI_30, kI_w30, kI_31, kI_w31, kI_32, kI_w32, kI_33, kI_w33, kI_34, kI_w34, kI_35, kI_w35, kI_36, kI_w36, kI_37, kI_w37, kI_38, kI_w38, kI_39, kI_w39, kI_40, kI_w40, kI_41, kI_w41, kI_42, kI_w42, kI_43, kI_w43, kI_44, kI_w44, kI_45, kI_w45, kI_46, kI_w46, kI_47, kI_w47, kI_48, kI_w48, kI_49, kI_w49, kI_50, kI_w50, kI_51, kI_w51, kI_52, kI_w52, kI_53, kI_w53, kI_54, kI_w54, kI_55, kI_w55, kI_56, kI_w56, kI_57, kI_w57, kI_58, kI_w58, kI_59, kI_w59, kI_60, kI_w60, kI_61, kI_w61, c_isPerson, m_isPerson, hb, not_true_eq_false, not_false_eq_true, true_and, and_true, false_and, and_false, and_self, decide_true, decide_false, ↓reduceIte, Bool.true_and, Bool.false_and, Bool.and_true, Bool.and_false, Bool.not_true, Bool.not_false, Bool.false_eq_true, Bool.true_or, Bool.or_true, Bool.false_or, Bool.or_false, reduceCtorEq, Bool.and_self, Bool.or_self, ne_eq]
    exact hK _ _ (kJ.mk hG)
end

/-! STAGE B: the start keeps the one form -/
set_option maxRecDepth 100000 in
set_option maxHeartbeats 4000000 in
theorem kfM_at {B : Nat} (a k : Nat) : kfM B a k = kRf B (fun _ => 0) a k := by
  unfold kfM kfF mj_u2
  by_cases c0 : a = 24 ∧ k = 52
  · rw [if_pos c0]; obtain ⟨rfl, rfl⟩ := c0; rfl
  rw [if_neg c0]
  by_cases c1 : a = 24 ∧ k = 51
  · rw [if_pos c1]; obtain ⟨rfl, rfl⟩ := c1; rfl
  rw [if_neg c1]
  by_cases c2 : a = 24 ∧ k = 50
  · rw [if_pos c2]; obtain ⟨rfl, rfl⟩ := c2; rfl
  rw [if_neg c2]
  by_cases c3 : a = 24 ∧ k = 49
  · rw [if_pos c3]; obtain ⟨rfl, rfl⟩ := c3; rfl
  rw [if_neg c3]
  by_cases c4 : a = 24 ∧ k = 44
  · rw [if_pos c4]; obtain ⟨rfl, rfl⟩ := c4; rfl
  rw [if_neg c4]
  by_cases c5 : a = 24 ∧ k = 37
  · rw [if_pos c5]; obtain ⟨rfl, rfl⟩ := c5; rfl
  rw [if_neg c5]
  by_cases c6 : a = 24 ∧ k = 36
  · rw [if_pos c6]; obtain ⟨rfl, rfl⟩ := c6; rfl
  rw [if_neg c6]
  by_cases c7 : a = 24 ∧ k = 34
  · rw [if_pos c7]; obtain ⟨rfl, rfl⟩ := c7; rfl
  rw [if_neg c7]
  by_cases c8 : a = 24 ∧ k = 33
  · rw [if_pos c8]; obtain ⟨rfl, rfl⟩ := c8; rfl
  rw [if_neg c8]
  by_cases c9 : a = 24 ∧ k = 32
  · rw [if_pos c9]; obtain ⟨rfl, rfl⟩ := c9; rfl
  rw [if_neg c9]
  by_cases c10 : a = 24 ∧ k = 31
  · rw [if_pos c10]; obtain ⟨rfl, rfl⟩ := c10; rfl
  rw [if_neg c10]
  by_cases c11 : a = 24 ∧ k = 29
  · rw [if_pos c11]; obtain ⟨rfl, rfl⟩ := c11; rfl
  rw [if_neg c11]
  by_cases c12 : a = 24 ∧ k = 28
  · rw [if_pos c12]; obtain ⟨rfl, rfl⟩ := c12; rfl
  rw [if_neg c12]
  by_cases c13 : a = 24 ∧ k = 27
  · rw [if_pos c13]; obtain ⟨rfl, rfl⟩ := c13; rfl
  rw [if_neg c13]
  by_cases c14 : a = 24 ∧ k = 26
  · rw [if_pos c14]; obtain ⟨rfl, rfl⟩ := c14; rfl
  rw [if_neg c14]
  by_cases c15 : a = 24 ∧ k = 25
  · rw [if_pos c15]; obtain ⟨rfl, rfl⟩ := c15; rfl
  rw [if_neg c15]
  by_cases c16 : a = 24 ∧ k = 23
  · rw [if_pos c16]; obtain ⟨rfl, rfl⟩ := c16; rfl
  rw [if_neg c16]
  by_cases c17 : a = 24 ∧ k = 22
  · rw [if_pos c17]; obtain ⟨rfl, rfl⟩ := c17; rfl
  rw [if_neg c17]
  by_cases c18 : a = 24 ∧ k = 21
  · rw [if_pos c18]; obtain ⟨rfl, rfl⟩ := c18; rfl
  rw [if_neg c18]
  by_cases c19 : a = 24 ∧ k = 19
  · rw [if_pos c19]; obtain ⟨rfl, rfl⟩ := c19; rfl
  rw [if_neg c19]
  by_cases c20 : a = 24 ∧ k = 18
  · rw [if_pos c20]; obtain ⟨rfl, rfl⟩ := c20; rfl
  rw [if_neg c20]
  by_cases c21 : a = 24 ∧ k = 17
  · rw [if_pos c21]; obtain ⟨rfl, rfl⟩ := c21; rfl
  rw [if_neg c21]
  by_cases c22 : a = 24 ∧ k = 16
  · rw [if_pos c22]; obtain ⟨rfl, rfl⟩ := c22; rfl
  rw [if_neg c22]
  by_cases c23 : a = 24 ∧ k = 15
  · rw [if_pos c23]; obtain ⟨rfl, rfl⟩ := c23; rfl
  rw [if_neg c23]
  by_cases c24 : a = 24 ∧ k = 14
  · rw [if_pos c24]; obtain ⟨rfl, rfl⟩ := c24; rfl
  rw [if_neg c24]
  by_cases c25 : a = 24 ∧ k = 12
  · rw [if_pos c25]; obtain ⟨rfl, rfl⟩ := c25; rfl
  rw [if_neg c25]
  by_cases c26 : a = 24 ∧ k = 11
  · rw [if_pos c26]; obtain ⟨rfl, rfl⟩ := c26; rfl
  rw [if_neg c26]
  by_cases c27 : a = 24 ∧ k = 10
  · rw [if_pos c27]; obtain ⟨rfl, rfl⟩ := c27; rfl
  rw [if_neg c27]
  by_cases c28 : a = 24 ∧ k = 9
  · rw [if_pos c28]; obtain ⟨rfl, rfl⟩ := c28; rfl
  rw [if_neg c28]
  by_cases c29 : a = 24 ∧ k = 8
  · rw [if_pos c29]; obtain ⟨rfl, rfl⟩ := c29; rfl
  rw [if_neg c29]
  by_cases c30 : a = 24 ∧ k = 7
  · rw [if_pos c30]; obtain ⟨rfl, rfl⟩ := c30; rfl
  rw [if_neg c30]
  by_cases c31 : a = 24 ∧ k = 6
  · rw [if_pos c31]; obtain ⟨rfl, rfl⟩ := c31; rfl
  rw [if_neg c31]
  by_cases c32 : a = 24 ∧ k = 5
  · rw [if_pos c32]; obtain ⟨rfl, rfl⟩ := c32; rfl
  rw [if_neg c32]
  by_cases c33 : a = 24 ∧ k = 4
  · rw [if_pos c33]; obtain ⟨rfl, rfl⟩ := c33; rfl
  rw [if_neg c33]
  by_cases c34 : a = 24 ∧ k = 3
  · rw [if_pos c34]; obtain ⟨rfl, rfl⟩ := c34; rfl
  rw [if_neg c34]
  by_cases c35 : a = 24 ∧ k = 2
  · rw [if_pos c35]; obtain ⟨rfl, rfl⟩ := c35; rfl
  rw [if_neg c35]
  by_cases c36 : a = 24 ∧ k = 1
  · rw [if_pos c36]; obtain ⟨rfl, rfl⟩ := c36; rfl
  rw [if_neg c36]
  by_cases c37 : a = 0 ∧ k = 7
  · rw [if_pos c37]; obtain ⟨rfl, rfl⟩ := c37; rfl
  rw [if_neg c37]
  by_cases c38 : a = 0 ∧ k = 6
  · rw [if_pos c38]; obtain ⟨rfl, rfl⟩ := c38; rfl
  rw [if_neg c38]
  by_cases c39 : a = 16 ∧ k = 5
  · rw [if_pos c39]; obtain ⟨rfl, rfl⟩ := c39; rfl
  rw [if_neg c39]
  by_cases c40 : a = 16 ∧ k = 4
  · rw [if_pos c40]; obtain ⟨rfl, rfl⟩ := c40; rfl
  rw [if_neg c40]
  by_cases c41 : a = 16 ∧ k = 3
  · rw [if_pos c41]; obtain ⟨rfl, rfl⟩ := c41; rfl
  rw [if_neg c41]
  by_cases c42 : a = 16 ∧ k = 2
  · rw [if_pos c42]; obtain ⟨rfl, rfl⟩ := c42; rfl
  rw [if_neg c42]
  by_cases c43 : a = 16 ∧ k = 1
  · rw [if_pos c43]; obtain ⟨rfl, rfl⟩ := c43; rfl
  rw [if_neg c43]
  by_cases c44 : a = 16 ∧ k = 0
  · rw [if_pos c44]; obtain ⟨rfl, rfl⟩ := c44; rfl
  rw [if_neg c44]
  by_cases c45 : a = 0 ∧ k = 5
  · rw [if_pos c45]; obtain ⟨rfl, rfl⟩ := c45; rfl
  rw [if_neg c45]
  by_cases c46 : a = 13 ∧ k = 1
  · rw [if_pos c46]; obtain ⟨rfl, rfl⟩ := c46; rfl
  rw [if_neg c46]
  by_cases c47 : a = 13 ∧ k = 0
  · rw [if_pos c47]; obtain ⟨rfl, rfl⟩ := c47; rfl
  rw [if_neg c47]
  by_cases c48 : a = 0 ∧ k = 4
  · rw [if_pos c48]; obtain ⟨rfl, rfl⟩ := c48; rfl
  rw [if_neg c48]
  by_cases c49 : a = 9 ∧ k = 2
  · rw [if_pos c49]; obtain ⟨rfl, rfl⟩ := c49; rfl
  rw [if_neg c49]
  by_cases c50 : a = 9 ∧ k = 1
  · rw [if_pos c50]; obtain ⟨rfl, rfl⟩ := c50; rfl
  rw [if_neg c50]
  by_cases c51 : a = 9 ∧ k = 0
  · rw [if_pos c51]; obtain ⟨rfl, rfl⟩ := c51; rfl
  rw [if_neg c51]
  by_cases c52 : a = 0 ∧ k = 3
  · rw [if_pos c52]; obtain ⟨rfl, rfl⟩ := c52; rfl
  rw [if_neg c52]
  by_cases c53 : a = 0 ∧ k = 2
  · rw [if_pos c53]; obtain ⟨rfl, rfl⟩ := c53; rfl
  rw [if_neg c53]
  by_cases c54 : a = 0 ∧ k = 1
  · rw [if_pos c54]; obtain ⟨rfl, rfl⟩ := c54; rfl
  rw [if_neg c54]
  by_cases c55 : a = 4 ∧ k = 1
  · rw [if_pos c55]; obtain ⟨rfl, rfl⟩ := c55; rfl
  rw [if_neg c55]
  by_cases c56 : a = 4 ∧ k = 0
  · rw [if_pos c56]; obtain ⟨rfl, rfl⟩ := c56; rfl
  rw [if_neg c56]
  by_cases c57 : a = 0 ∧ k = 0
  · rw [if_pos c57]; obtain ⟨rfl, rfl⟩ := c57; rfl
  rw [if_neg c57]
  by_cases c58 : a = 1 ∧ k = 5
  · rw [if_pos c58]; obtain ⟨rfl, rfl⟩ := c58; rfl
  rw [if_neg c58]
  by_cases c59 : a = 1 ∧ k = 4
  · rw [if_pos c59]; obtain ⟨rfl, rfl⟩ := c59; rfl
  rw [if_neg c59]
  by_cases m0 : a = 1 ∧ k = 1
  · obtain ⟨rfl, rfl⟩ := m0; rfl
  by_cases m1 : a = 1 ∧ k = 2
  · obtain ⟨rfl, rfl⟩ := m1; rfl
  by_cases m2 : a = 4 ∧ k = 4
  · obtain ⟨rfl, rfl⟩ := m2; rfl
  by_cases m3 : a = 8 ∧ k = 0
  · obtain ⟨rfl, rfl⟩ := m3; rfl
  by_cases m4 : a = 8 ∧ k = 1
  · obtain ⟨rfl, rfl⟩ := m4; rfl
  rw [kRf.eq_66]
  all_goals (intro h1 h2; subst h1; subst h2; simp_all)
theorem kJ_first {B : Nat} (hB : 0 < B) : kJ B (kpM B 62 kcF ksF (kfM B)) := by
  rw [kp_end (fun a k _ => kfM_at a k)]
  have nl : ∀ (h : Nat), h < 0 → False := fun h => Nat.not_lt_zero h
  have ad : ∀ c : Nat, kAd B (B + 62) (fun _ => 0) 0 c (fun _ => 0) := fun c => ⟨fun h hh => (nl h hh).elim, fun a b ha => (nl a ha).elim⟩
  refine kJ.mk (A := fun _ => 0) (AA := fun _ => 0) (AT := fun _ => 0) (AN := fun _ => 0) (N := fun _ => 0) ⟨?_, ?_, ?_, ?_, ?_, ?_, ?_, ?_, ?_, ?_⟩
  · exact ⟨⟨by decide, by decide, by decide, hB, Nat.le_refl _⟩, ⟨ad 4, ad 1, ad 101, ad 7⟩, fun h hh => (nl h hh).elim, fun h hh => (nl h hh).elim, fun h hh => (nl h hh).elim, fun h hh => (nl h hh).elim, fun h hh => (nl h hh).elim⟩
  · exact ⟨rfl, rfl, rfl, rfl, rfl⟩
  · refine ⟨by decide, by decide, by decide, fun p hp => ⟨?_, ?_⟩, fun f hf => ⟨?_, ?_⟩⟩
    · simp [kcF, ksF, ksM, kpF, mj_u2, hp]
    · left; simp [ksF, ksM, kpF, mj_u2, hp]
    · simp [kcF, ksF, ksM, kpF, mj_u2, hf]
    · have : ksF 14 f = 1 := by simp [ksF, ksM, kpF, mj_u2, hf]
      rw [this]; decide
  · exact ⟨by decide, by decide, by decide, fun k hk => (nl k hk).elim, by decide, by decide, by decide, by decide⟩
  · refine ⟨by decide, by decide, by decide, fun k hk => (nl k hk).elim, fun k hk => (nl _ hk).elim, by decide, by decide, by decide, by decide, by decide, by decide, fun f hf => ?_⟩
    have e1 : kcF 10 f = 0 := by simp [kcF, kpF, mj_u2]
    have e2 : ksF 32 f = 0 := by simp [ksF, ksM, kpF, mj_u2]
    rw [e1, e2]; decide
  · exact ⟨by decide, by decide, by decide, fun k hk => (nl k hk).elim⟩
  · refine ⟨by decide, by decide, by decide, fun k hk => (nl k hk).elim, fun k hk => ⟨0, by decide, ?_, fun j hj => (nl j hj).elim⟩, fun k hk => ⟨0, by decide, ?_, fun j hj => (nl j hj).elim⟩, .inl (by decide)⟩
    · have : kcF 21 k = 0 := by simp [kcF, kpF, mj_u2]
      rw [this]; decide
    · have : kcF 22 k = 0 := by simp [kcF, kpF, mj_u2]
      rw [this]; decide
  · exact ⟨by decide, fun h hh => (nl h hh).elim, ⟨fun _ => 0, fun h hh => (nl h hh).elim⟩, fun h hh => (nl h hh).elim⟩
  · exact fun a ha => (nl a ha).elim
  · exact ⟨fun k hk => (nl k hk).elim, fun k _ => by simp [ksF, ksM, kpF, mj_u2]⟩
theorem mj_M0_kp (N : Nat) : mj_M0 N = kpM (N + 1) 0 (fun _ _ => 0) (fun _ _ => 0) (fun _ _ => 0) := by
  unfold mj_M0 kpM
  have e1 : kpT (N + 1) 0 = fun _ => 0 := by funext a; unfold kpT; rw [if_neg (by omega)]
  have e2 : kpL (N + 1) 0 = fun _ => 0 := by funext a; unfold kpL; rw [if_neg (by omega)]
  have e3 : kpI (N + 1) 0 (fun _ _ => 0) (fun _ _ => 0) = fun _ _ => 0 := by funext a k; unfold kpI; rw [if_neg (by omega)]
  have e4 : kpW (N + 1) 0 (fun _ _ => 0) = fun _ _ => 0 := by funext a k; unfold kpW; rw [if_neg (by omega)]
  rw [e1, e2, e3, e4]
theorem mj_pure (xs : Nat → Int32) (L N : Nat) (hL : L ≤ 3072) : vc_L_law xs L (mj_M0 N) := by
  rw [mj_M0_kp]
  unfold vc_L_law
  intro M e
  rw [kp_new (j := 0) (j' := 1) (v := 11) rfl rfl rfl (fun _ => rfl) (fun h => absurd h (by decide)) rfl] at e
  subst e
  simp only [kp_nx, Nat.add_zero]
  refine ⟨by omega, i_X11 (by omega) ?_⟩
  intro M e
  rw [kp_new (j := 24) (j' := 25) (v := 12) rfl rfl rfl (fun h => absurd h (by decide)) (fun _ => rfl) (by funext k; simp [kfF, mj_u2])] at e
  subst e
  simp only [kp_nx]
  refine ⟨by omega, i_X12 (by omega) ?_⟩
  refine ⟨600, by decide, ?_⟩
  have h := lw_loop (xs := xs) hL 600 0 _ (kJ_first (B := N + 1) (by omega)) (Nat.zero_le _) (by omega)
  rw [nI_0] at h
  exact h

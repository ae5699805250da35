/-! the law's own numbers out of the script -/
theorem nI_mul (a b : Nat) : nI a * nI b = nI (a * b) := (Int32.ofNat_mul a b).symm
theorem nI_div {a b : Nat} (ha : a < 2147483648) (hb : b < 2147483648) : nI a / nI b = nI (a / b) := by
  have h := Nat.div_le_self a b
  apply Int32.toInt_inj.mp
  rw [Int32.toInt_div, nI_toInt ha, nI_toInt hb, nI_toInt (by omega), ← Int.ofNat_tdiv]
  generalize a / b = y at h ⊢
  rw [Int.bmod_eq_of_le (by omega) (by omega)]
theorem n_rem {a b : Nat} (ha : a < 2147483648) (hb : b < 2147483648) : nI a - nI a / nI b * nI b = nI (a % b) := by
  have h := Nat.div_mul_le_self a b
  have h3 := Nat.div_add_mod' a b
  rw [nI_div ha hb, nI_mul, n_sub h]
  exact congrArg nI (by omega)
theorem n_mask (x : Int32) : ∃ m, m < 4194304 ∧ x &&& 4194303 = nI m := by
  refine ⟨(x &&& 4194303).toBitVec.toNat, ?_, ?_⟩
  · rw [Int32.toBitVec_and, BitVec.toNat_and]
    have : (4194303 : Int32).toBitVec.toNat = 4194303 := by decide
    rw [this]
    exact Nat.lt_succ_of_le Nat.and_le_right
  · show _ = Int32.ofNat _
    rw [Int32.ofNat_bitVecToNat]
    rfl
theorem c_cell {xs : Nat → Int32} {Ln k n : Nat} {M : mj_M} {post : Int32 → mj_M → Prop} (hL : Ln ≤ 260) (hk : k < 100) (hn : 0 < n ∧ n < 2147483648 ∨ 0 < n ∧ n < 40000) (h : ∀ c, c < n → post (nI c) M) : vc_L_cell xs Ln (nI k) (nI n) M post := by
  have hn0 : ¬ nI n = 0 := nI_ne0 (by omega) (by omega)
  have hz : Int32.ofNat Ln = nI Ln := rfl
  unfold vc_L_cell
  rw [hz]
  by_cases e : nI Ln = 0
  · rw [if_pos e]
    refine ⟨hn0, ?_⟩
    rw [show (37 : Int32) = nI 37 from rfl, show (5 : Int32) = nI 5 from rfl, nI_mul, nI_add, n_rem (by omega) (by omega)]
    exact h _ (Nat.mod_lt _ (by omega))
  · rw [if_neg e]
    have hL0 : 0 < Ln := by
      rcases Nat.eq_zero_or_pos Ln with z | z
      · exact absurd (by rw [z]; rfl) e
      · exact z
    rw [n_rem (by omega) (by omega)]
    refine ⟨e, ?_, hn0, ?_⟩
    · exact nI_in (Nat.mod_lt _ hL0) (by omega)
    · obtain ⟨m, hm, em⟩ := n_mask (xs (nI (k % Ln) : Int32).toNatClampNeg >>> ((nI k - nI k / 7 * 7) &&& 31))
      rw [em, n_rem (by omega) (by omega)]
      exact h _ (Nat.mod_lt _ (by omega))

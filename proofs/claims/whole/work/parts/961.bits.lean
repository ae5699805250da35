/-! STAGE B: masks of lines -/
def kMk (v : Int32) (P : Nat → Bool) : Prop := ∃ m, m < 4096 ∧ v = nI m ∧ ∀ j, j < 12 → m.testBit j = P j
theorem nI_or {a b : Nat} (ha : a < 4096) (hb : b < 4096) : nI a ||| nI b = nI (a ||| b) := by
  apply Int32.toBitVec_inj.mp
  rw [Int32.toBitVec_or]
  have t1 : ∀ k, (nI k).toBitVec = BitVec.ofNat 32 k := fun k => rfl
  rw [t1, t1, t1]
  apply BitVec.eq_of_toNat_eq
  have hc : a ||| b < 4096 := Nat.or_lt_two_pow (n := 12) ha hb
  rw [BitVec.toNat_or, BitVec.toNat_ofNat, BitVec.toNat_ofNat, BitVec.toNat_ofNat, Nat.mod_eq_of_lt (by omega), Nat.mod_eq_of_lt (by omega), Nat.mod_eq_of_lt (by omega)]
theorem nI_bit : ∀ b : Fin 12, (1 : Int32) <<< (nI b.val &&& 31) = nI (2 ^ b.val) := by decide
theorem kMk.or {v : Int32} {P : Nat → Bool} (h : kMk v P) {b : Nat} (hb : b < 12) : kMk (v ||| (1 <<< (nI b &&& 31))) (fun j => P j || decide (j = b)) := by
  obtain ⟨m, h1, rfl, h3⟩ := h
  have e := nI_bit ⟨b, hb⟩
  simp only at e
  have hp : 2 ^ b < 4096 := Nat.pow_lt_pow_right (m := b) (n := 12) (a := 2) (by decide) hb
  refine ⟨m ||| 2 ^ b, Nat.or_lt_two_pow (n := 12) h1 hp, by rw [e, nI_or h1 hp], fun j hj => ?_⟩
  rw [Nat.testBit_or, h3 j hj, Nat.testBit_two_pow]
  congr 1
  exact decide_eq_decide.mpr ⟨Eq.symm, Eq.symm⟩
theorem kMk.to {v : Int32} {P Q : Nat → Bool} (h : kMk v P) (he : ∀ j, j < 12 → P j = Q j) : kMk v Q := by
  obtain ⟨m, h1, h2, h3⟩ := h
  exact ⟨m, h1, h2, fun j hj => (h3 j hj).trans (he j hj)⟩
theorem kMk_p {v : Int32} {P : Nat → Bool} {p : Nat} (hp : p ≤ 12) : (∃ m, m < 2 ^ p ∧ v = nI m ∧ ∀ j, j < p → m.testBit j = P j) ↔ kMk v (fun j => decide (j < p) && P j) := by
  have h12 : 2 ^ p ≤ 2 ^ 12 := Nat.pow_le_pow_right (by decide) hp
  constructor
  · rintro ⟨m, h1, h2, h3⟩
    refine ⟨m, by omega, h2, fun j hj => ?_⟩
    by_cases z : j < p
    · rw [h3 j z]; simp [z]
    · rw [Nat.testBit_lt_two_pow (Nat.lt_of_lt_of_le h1 (Nat.pow_le_pow_right (by decide) (by omega)))]; simp [z]
  · rintro ⟨m, h1, h2, h3⟩
    refine ⟨m, ?_, h2, fun j hj => by rw [h3 j (by omega)]; simp [hj]⟩
    apply Nat.lt_pow_two_of_testBit
    intro i hi
    by_cases z : i < 12
    · rw [h3 i z]; simp; omega
    · exact Nat.testBit_lt_two_pow (Nat.lt_of_lt_of_le h1 (show 4096 ≤ 2 ^ i from by
        have : 2 ^ 12 ≤ 2 ^ i := Nat.pow_le_pow_right (by decide) (by omega)
        omega))
/-- one is related to another -/
def kRl (c s : Nat → Nat → Int32) (a b : Nat) : Nat → Nat → Int32 :=
  let up := decide (s 50 a = s 49 b)
  let c1 := if up = true then mj_u2 c 22 a (c 22 a ||| (1 <<< (nI b &&& 31))) else c
  if decide (s 49 a = s 49 b) || (up && !rWi s a b) then mj_u2 (mj_u2 c1 21 a (c1 21 a ||| (1 <<< (nI b &&& 31)))) 21 b ((mj_u2 c1 21 a (c1 21 a ||| (1 <<< (nI b &&& 31)))) 21 b ||| (1 <<< (nI a &&& 31))) else c1
section
variable {B x : Nat} {t l u : Nat → Nat} {i c s e : Nat → Nat → Int32} {r : Nat → Nat → Nat} {q g w : Nat → Nat → Int64}
theorem c_relate {a b : Nat} (ha : a < 12) (hb : b < 12) (h17 : c 17 a = e 49 a ∧ c 17 b = e 49 b) (h18 : c 18 a = e 50 a) (h19 : c 19 a = e 51 a ∧ c 19 b = e 51 b) (h20 : c 20 a = e 52 a ∧ c 20 b = e 52 b) {post : Unit → mj_M → Prop} : vc_X9_relate (B + 16) (nI a) (nI b) (kT B t, kL B l, kI B i c s, kW B r u, kI B q g w, x) post = post () (kT B t, kL B l, kI B i (kRl c e a b) s, kW B r u, kI B q g w, x) := by
  have a1 : a < 2147483648 := by omega
  have b1 : b < 2147483648 := by omega
  have ew : rWi e a b = (!(decide (e 51 a < e 51 b)) && !(decide (e 52 b < e 52 a))) := by
    unfold rWi
    simp only [← i_nlt]
    by_cases z1 : e 51 a < e 51 b <;> by_cases z2 : e 52 b < e 52 a <;> simp [z1, z2]
  unfold kRl
  rw [ew]
  simp only [vc_X9_relate, vb_X9_relate_20, vb_X9_relate_55, vb_X9_relate_56, vb_X9_relate_74, vb_X9_relate_98, mq_tag, mq_len, mq_i, mq_r, mq_l, mq_nx, mq_wi, mq_wr, mq_wl, true_and, and_true, and_false, false_and, and_self, ↓reduceIte, kT_0, kT_1, kT_2, kT_3, kT_4, kT_5, kT_6, kT_7, kT_8, kT_9, kT_10, kT_11, kT_12, kT_13, kT_14, kT_15, kT_16, kT_17, kT_18, kT_19, kT_20, kT_21, kT_22, kT_23, kL_2, kL_3, kL_5, kL_10, kL_11, kL_12, kL_14, kL_15, kL_17, kL_18, kL_19, kL_20, kL_21, kL_22, kL_23, kW_0_0, kW_0_1, kW_0_2, kW_0_3, kW_0_4, kW_0_5, kW_0_6, kW_0_7, kW_1_4, kW_1_5, kW_4_0, kW_4_1, kW_9_0, kW_9_1, kW_9_2, kW_13_0, kW_13_1, kW_16_0, kW_16_1, kW_16_2, kW_16_3, kW_16_4, kW_16_5, kW_1_1, kW_1_2, kW_4_4, kW_8_0, kW_8_1, kW_w1_1, kW_w1_2, kW_w4_4, kW_w8_0, kW_w8_1, kI_0, kI_w0, kI_1, kI_w1, kI_2, kI_w2, kI_3, kI_w3, kI_4, kI_w4, kI_5, kI_w5, kI_6, kI_w6, kI_7, kI_w7, kI_8, kI_w8, kI_9, kI_w9, kI_10, kI_w10, kI_11, kI_w11, kI_12, kI_w12, kI_13, kI_w13, kI_14, kI_w14, kI_15, kI_w15, kI_16, kI_w16, kI_17, kI_w17, kI_18, kI_w18, kI_19, kI_w19, kI_20, kI_w20, kI_21, kI_w21, kI_22, kI_w22, kI_23, kI_w23, ix_in a1, ix_nat a1, ix_in b1, ix_nat b1, ha, hb, h17, h18, h19, h20, mq_u2n, ne_eq, Nat.reduceEqDiff, not_false_eq_true, Bool.false_eq_true]
  rcases Classical.propComplete (e 50 a = e 49 b) with z1 | z1 <;> rcases Classical.propComplete (e 51 a < e 51 b) with z2 | z2 <;> rcases Classical.propComplete (e 52 b < e 52 a) with z3 | z3 <;> rcases Classical.propComplete (e 49 a = e 49 b) with z4 | z4 <;> simp only [z1, z2, z3, z4, mq_u2n, Nat.reduceEqDiff, true_or, or_true, false_or, or_false, not_true_eq_false, not_false_eq_true, true_and, and_true, false_and, and_false, and_self, decide_true, decide_false, ↓reduceIte, Bool.true_and, Bool.false_and, Bool.and_true, Bool.and_false, Bool.not_true, Bool.not_false, Bool.false_eq_true, Bool.true_or, Bool.or_true, Bool.false_or, Bool.or_false, reduceCtorEq, Bool.and_self, Bool.or_self, ne_eq]
end

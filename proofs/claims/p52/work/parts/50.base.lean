/-! THE MATHEMATICS OF p52: the law's one story, walked over the memory as it stands. ad B k: the k-th cell from the class's object B on. -/
/-- an equation whose proof no walk sees through -/
theorem nr {α : Sort _} {a b : α} (h : a = b) : a = b := h
def ad (B k : Nat) : Nat := B + k
theorem ad_eq {B j k : Nat} : (ad B j = ad B k) = (j = k) := by unfold ad; apply propext; omega
theorem ad_s {B k : Nat} : ad B k + 1 = ad B (k + 1) := nr rfl
theorem ad_z {B k : Nat} (h : 0 < B) : (ad B k = 0) = False := eq_false (by unfold ad; omega)
theorem ad_y {B k : Nat} (h : 0 < B) : (0 = ad B k) = False := eq_false (by unfold ad; omega)
/-! reading -/
section
variable {M : mj_M} {a b k j c n : Nat} {v : Int32} {w : Nat} {x : Int64}
theorem rt_wi : mj_tag (mj_wi M a k v) b = mj_tag M b := nr rfl
theorem rt_wr : mj_tag (mj_wr M a k w) b = mj_tag M b := nr rfl
theorem rt_wl : mj_tag (mj_wl M a k x) b = mj_tag M b := nr rfl
theorem rt_nw : mj_tag (mj_new M c) b = if b = mj_nx M then c + 1 else mj_tag M b := nr rfl
theorem rt_na : mj_tag (mj_newa M c n) b = if b = mj_nx M then c else mj_tag M b := nr rfl
theorem rt_cp : mj_tag (mj_copy M a n) b = if b = mj_nx M then 101 else mj_tag M b := nr rfl
theorem rn_wi : mj_len (mj_wi M a k v) b = mj_len M b := nr rfl
theorem rn_wr : mj_len (mj_wr M a k w) b = mj_len M b := nr rfl
theorem rn_wl : mj_len (mj_wl M a k x) b = mj_len M b := nr rfl
theorem rn_nw : mj_len (mj_new M c) b = mj_len M b := nr rfl
theorem rn_na : mj_len (mj_newa M c n) b = if b = mj_nx M then n else mj_len M b := nr rfl
theorem rn_cp : mj_len (mj_copy M a n) b = if b = mj_nx M then n else mj_len M b := nr rfl
theorem ri_wi : mj_i (mj_wi M a k v) b j = if b = a ∧ j = k then v else mj_i M b j := nr rfl
theorem ri_wr : mj_i (mj_wr M a k w) b j = mj_i M b j := nr rfl
theorem ri_wl : mj_i (mj_wl M a k x) b j = mj_i M b j := nr rfl
theorem ri_nw : mj_i (mj_new M c) b j = if b = mj_nx M then 0 else mj_i M b j := by
  show mj_u1 (mj_i M) (mj_nx M) (fun _ => 0) b j = _
  unfold mj_u1; split <;> rfl
theorem ri_na : mj_i (mj_newa M c n) b j = if b = mj_nx M then 0 else mj_i M b j := by
  show mj_u1 (mj_i M) (mj_nx M) (fun _ => 0) b j = _
  unfold mj_u1; split <;> rfl
theorem ri_cp : mj_i (mj_copy M a n) b j = if b = mj_nx M then mj_i M a j else mj_i M b j := by
  show mj_u1 (mj_i M) (mj_nx M) (mj_i M a) b j = _
  unfold mj_u1; split <;> rfl
theorem rr_wi : mj_r (mj_wi M a k v) b j = mj_r M b j := nr rfl
theorem rr_wr : mj_r (mj_wr M a k w) b j = if b = a ∧ j = k then w else mj_r M b j := nr rfl
theorem rr_wl : mj_r (mj_wl M a k x) b j = mj_r M b j := nr rfl
theorem rr_nw : mj_r (mj_new M c) b j = if b = mj_nx M then 0 else mj_r M b j := by
  show mj_u1 (mj_r M) (mj_nx M) (fun _ => 0) b j = _
  unfold mj_u1; split <;> rfl
theorem rr_na : mj_r (mj_newa M c n) b j = mj_r M b j := nr rfl
theorem rr_cp : mj_r (mj_copy M a n) b j = mj_r M b j := nr rfl
theorem rl_wi : mj_l (mj_wi M a k v) b j = mj_l M b j := nr rfl
theorem rl_wr : mj_l (mj_wr M a k w) b j = mj_l M b j := nr rfl
theorem rl_wl : mj_l (mj_wl M a k x) b j = if b = a ∧ j = k then x else mj_l M b j := nr rfl
theorem rx_wi : mj_nx (mj_wi M a k v) = mj_nx M := nr rfl
theorem rx_wr : mj_nx (mj_wr M a k w) = mj_nx M := nr rfl
theorem rx_wl : mj_nx (mj_wl M a k x) = mj_nx M := nr rfl
theorem rx_nw : mj_nx (mj_new M c) = mj_nx M + 1 := nr rfl
theorem rx_na : mj_nx (mj_newa M c n) = mj_nx M + 1 := nr rfl
theorem rx_cp : mj_nx (mj_copy M a n) = mj_nx M + 1 := nr rfl
end
/-! numbers of days -/
section
variable {a b : Nat}
theorem n_lt (h : a < b) (hb : b < 2147483648) : (nI a < nI b) = True := eq_true (nI_lt h hb)
theorem n_nlt (h : b ≤ a) (ha : a < 2147483648) : (nI a < nI b) = False := eq_false (nI_nlt h ha)
theorem n_le (h : a ≤ b) (hb : b < 2147483648) : (nI a ≤ nI b) = True := eq_true (nI_le h hb)
theorem n_nle (h : b < a) (ha : a < 2147483648) : (nI a ≤ nI b) = False := eq_false (nI_ge h ha)
theorem n_eq (h : a = b) : (nI a = nI b) = True := by rw [h]; simp
theorem n_ne (h : a < b ∨ b < a) (ha : a < 2147483648) (hb : b < 2147483648) : (nI a = nI b) = False := eq_false (fun e => by have := (nI_eq ha hb).mp e; omega)
theorem n_sub (h : b ≤ a) : nI a - nI b = nI (a - b) := by
  obtain ⟨j, rfl⟩ : ∃ j, a = j + b := ⟨a - b, by omega⟩
  rw [Nat.add_sub_cancel, ← nI_add]
  exact Int32.add_sub_cancel _ _
def imx (a b : Int32) : Int32 := if a < b then b else a
def imn (a b : Int32) : Int32 := if b < a then b else a
theorem e_max {a b : Int32} {M : mj_M} {post : Int32 → mj_M → Prop} : vc_J9_max_7cf53 a b M post = post (imx a b) M := by
  unfold vc_J9_max_7cf53 imx; split <;> rfl
theorem e_min {a b : Int32} {M : mj_M} {post : Int32 → mj_M → Prop} : vc_J9_min_7cf53 a b M post = post (imn a b) M := by
  unfold vc_J9_min_7cf53 imn; split <;> rfl
theorem m_imx (ha : a < 2147483648) (hb : b < 2147483648) : imx (nI a) (nI b) = nI (max a b) := by
  unfold imx
  by_cases h : nI a < nI b
  · rw [if_pos h]; rw [nI_ltI ha hb] at h; rw [Nat.max_eq_right (by omega)]
  · rw [if_neg h]; rw [nI_ltI ha hb] at h; rw [Nat.max_eq_left (by omega)]
theorem m_imn (ha : a < 2147483648) (hb : b < 2147483648) : imn (nI a) (nI b) = nI (min a b) := by
  unfold imn
  by_cases h : nI b < nI a
  · rw [if_pos h]; rw [nI_ltI hb ha] at h; rw [Nat.min_eq_right (by omega)]
  · rw [if_neg h]; rw [nI_ltI hb ha] at h; rw [Nat.min_eq_left (by omega)]
theorem m_imn7 (hb : b < 2147483648) : imn 73000 (nI b) = nI (min 73000 b) := m_imn (by decide) hb
end
theorem i_eq {a b : Int32} : (a = b) = (a ≤ b ∧ b ≤ a) := propext ⟨fun h => by rw [h]; exact ⟨Int32.le_refl _, Int32.le_refl _⟩, fun h => Int32.le_antisymm h.1 h.2⟩
/-! the signs, the bits -/
theorem f_102 : mj_fact 102 = true := by decide
theorem f_62 : mj_fact 62 = false := by decide
theorem f_48 : mj_fact 48 = false := by decide
theorem b_t : mj_b true = 1 := nr rfl
theorem b_f : mj_b false = 0 := nr rfl
theorem q_1 : (1 : Int64) <<< ((0 : Int32).toInt64 &&& 63) = 1 := by decide
theorem q_2 : (1 : Int64) ^^^ (-1) = -2 := by decide
theorem q_3 (q : Int64) : (q &&& -2) &&& 1 = 0 := by
  rw [Int64.and_assoc, show (-2 : Int64) &&& 1 = 0 by decide]; simp
theorem q_4 (p q : Int64) : (((p &&& -2) ||| (q ||| 1)) >>> ((0 : Int32).toInt64 &&& 63)) &&& 1 = 1 := by
  have h : ∀ z : Int64, z >>> ((0 : Int32).toInt64 &&& 63) = z := by
    intro z
    apply Int64.toBitVec_inj.mp
    show z.toBitVec.sshiftRight (((0 : Int32).toInt64 &&& 63).toBitVec.smod 64).toNat = _
    rw [show (((0 : Int32).toInt64 &&& 63).toBitVec.smod 64).toNat = 0 by decide]
    simp
  rw [h]
  apply Int64.toBitVec_inj.mp
  apply BitVec.eq_of_getLsbD_eq
  intro i hi
  have t1 : ∀ j, (1 : Int64).toBitVec.getLsbD j = decide (j = 0) := by
    intro j
    rw [show (1 : Int64).toBitVec = BitVec.twoPow 64 0 by decide, BitVec.getLsbD_twoPow]
    by_cases e : j = 0
    · subst e; simp
    · simp [e, Ne.symm e]
  rw [Int64.toBitVec_and, Int64.toBitVec_or, Int64.toBitVec_or, BitVec.getLsbD_and, BitVec.getLsbD_or, BitVec.getLsbD_or, t1]
  by_cases e : i = 0 <;> simp [e]
theorem q_5 : lg_cmp 0 0 = 0 := by decide
theorem q_6 : lg_cmp 1 1 = 0 := by decide
theorem q_7 : lg_cmp (-1000000000000003) (-1000000000000003) = 0 := by decide +kernel

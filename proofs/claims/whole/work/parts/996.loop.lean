/-! STAGE B: the law's loop -/
theorem lw_lim {L k : Nat} (hL : L ≤ 3072) (hk : k ≤ 3072) : (Int32.ofNat L - 6 < nI k) = (L < k + 6) := by
  have e6 : (6 : Int32).toInt = 6 := by decide
  have e1 : (Int32.ofNat L).toInt = (L : Int) := nI_toInt (n := L) (by omega)
  apply propext
  rw [i_lt, Int32.toInt_sub, e1, e6, nI_toInt (by omega), Int.bmod_eq_of_le (by omega) (by omega)]
  omega
theorem lw_in {L k j : Nat} {v : Int32} (hv : v = nI j) (hL : L ≤ 3072) (hk : k + 6 ≤ L) (hj : j < 6) : vp_in (nI k + v) L = True := by
  rw [hv, nI_add, ix_in (by omega)]
  exact eq_true (by omega)
theorem kJ.tag {B : Nat} {M : mj_M} (h : kJ B M) : mj_tag M B = 12 := by
  obtain ⟨A, AA, AT, AN, N, t, l, u, i, c, s, r, q, g, w, x, rfl, hG⟩ := h
  exact kT_0
set_option maxHeartbeats 4000000 in
theorem lw_loop {xs : Nat → Int32} {L B : Nat} (hL : L ≤ 3072) : ∀ (f k : Nat) (M : mj_M), kJ B M → k ≤ L → L < k + 6 * f → vb_L_law_18 xs L f B (B + 24) (nI k) M
  | 0, _, _, _, h1, h2 => by omega
  | f + 1, k, M, h, h1, h2 => by
    have k1 : k < 2147483648 := by omega
    have tB := h.tag
    by_cases hz : L < k + 6
    · simp only [vb_L_law_18, lw_lim hL (show k ≤ 3072 by omega), hz, ↓reduceIte]
    · have I : ∀ M', kJ B M' → vb_L_law_18 xs L f B (B + 24) (nI k + 6) M' := fun M' h' => by
        rw [show nI k + 6 = nI (k + 6) from nI_add k 6]
        exact lw_loop hL f (k + 6) M' h' (by omega) (by omega)
      have hk6 : k + 6 ≤ L := by omega
      have i0 : vp_in (nI k) L := by rw [ix_in k1]; omega
      have i1 : vp_in (nI k + 1) L := of_eq_true (lw_in (j := 1) (by decide) hL hk6 (by decide))
      have i2 : vp_in (nI k + 2) L := of_eq_true (lw_in (j := 2) (by decide) hL hk6 (by decide))
      have i3 : vp_in (nI k + 3) L := of_eq_true (lw_in (j := 3) (by decide) hL hk6 (by decide))
      have i4 : vp_in (nI k + 4) L := of_eq_true (lw_in (j := 4) (by decide) hL hk6 (by decide))
      have i5 : vp_in (nI k + 5) L := of_eq_true (lw_in (j := 5) (by decide) hL hk6 (by decide))
      simp only [vb_L_law_18, lw_lim hL (show k ≤ 3072 by omega), hz, ↓reduceIte]
      refine ⟨i0, ?_⟩
      generalize hop : xs (nI k).toNatClampNeg &&& 63 = op
      generalize hk18 : vb_L_law_18 xs L f = k18 at I ⊢
      clear hop hk18
      by_cases e : op = 0
      · rw [if_pos e]
        unfold vb_L_law_244 vb_L_law_1834
        exact ⟨i1, tB, T_today h _ (fun v M' h' => by rw [if_pos rfl]; exact I M' h')⟩
      rw [if_neg e]; clear e
      by_cases e : op = 1
      · rw [if_pos e]
        unfold vb_L_law_267 vb_L_law_1834
        exact ⟨i1, i2, tB, T_whole h _ _ (fun v M' h' => by rw [if_pos rfl]; exact I M' h')⟩
      rw [if_neg e]; clear e
      by_cases e : op = 2
      · rw [if_pos e]
        unfold vb_L_law_300 vb_L_law_1834
        exact ⟨i1, i2, i3, i4, i5, tB, T_lease h _ _ _ _ _ (fun v M' h' => by rw [if_pos rfl]; exact I M' h')⟩
      rw [if_neg e]; clear e
      by_cases e : op = 3
      · rw [if_pos e]
        unfold vb_L_law_363 vb_L_law_1834
        exact ⟨i1, i2, i3, i4, i5, tB, T_between h _ _ _ _ _ (fun v M' h' => by rw [if_pos rfl]; exact I M' h')⟩
      rw [if_neg e]; clear e
      by_cases e : op = 4
      · rw [if_pos e]
        unfold vb_L_law_426 vb_L_law_1834
        exact ⟨i1, i2, tB, T_sell h _ _ (fun v M' h' => by rw [if_pos rfl]; exact I M' h')⟩
      rw [if_neg e]; clear e
      by_cases e : op = 5
      · rw [if_pos e]
        unfold vb_L_law_459 vb_L_law_1834
        exact ⟨i1, i2, i3, tB, T_part h _ _ _ (fun v M' h' => by rw [if_pos rfl]; exact I M' h')⟩
      rw [if_neg e]; clear e
      by_cases e : op = 6
      · rw [if_pos e]
        unfold vb_L_law_502 vb_L_law_1834
        exact ⟨i1, i2, tB, T_end h _ _ (fun v M' h' => by rw [if_pos rfl]; exact I M' h')⟩
      rw [if_neg e]; clear e
      by_cases e : op = 7
      · rw [if_pos e]
        unfold vb_L_law_535 vb_L_law_1834
        exact ⟨i1, i2, tB, T_about h _ _ (fun v M' h' => by rw [if_pos rfl]; exact I M' h')⟩
      rw [if_neg e]; clear e
      by_cases e : op = 8
      · rw [if_pos e]
        unfold vb_L_law_568 vb_L_law_1834
        exact ⟨i1, i2, tB, T_chain h _ _ (fun v M' h' => by rw [if_pos rfl]; exact I M' h')⟩
      rw [if_neg e]; clear e
      by_cases e : op = 9
      · rw [if_pos e]
        unfold vb_L_law_601 vb_L_law_1834
        exact ⟨i1, i2, tB, T_live h _ _ (fun v M' h' => by rw [if_pos rfl]; exact I M' h')⟩
      rw [if_neg e]; clear e
      by_cases e : op = 10
      · rw [if_pos e]
        unfold vb_L_law_634 vb_L_law_1834
        exact ⟨i1, i2, i3, tB, T_rent h _ _ _ (fun v M' h' => by rw [if_pos rfl]; exact I M' h')⟩
      rw [if_neg e]; clear e
      by_cases e : op = 11
      · rw [if_pos e]
        unfold vb_L_law_677 vb_L_law_1834
        exact ⟨i1, i2, tB, T_rate h _ _ (fun v M' h' => by rw [if_pos rfl]; exact I M' h')⟩
      rw [if_neg e]; clear e
      by_cases e : op = 12
      · rw [if_pos e]
        unfold vb_L_law_710 vb_L_law_1834
        exact ⟨i1, i2, i3, tB, T_owed h _ _ _ (fun v M' h' => by rw [if_pos (by rw [ix_cmp0])]; exact I M' h')⟩
      rw [if_neg e]; clear e
      by_cases e : op = 13
      · rw [if_pos e]
        unfold vb_L_law_754 vb_L_law_1834
        exact ⟨i1, i2, tB, T_weight h _ _ (fun v M' h' => by rw [if_pos rfl]; exact I M' h')⟩
      rw [if_neg e]; clear e
      by_cases e : op = 14
      · rw [if_pos e]
        unfold vb_L_law_787 vb_L_law_1834
        exact ⟨i1, tB, T_say h _ (fun v M' h' => by rw [if_pos rfl]; exact I M' h')⟩
      rw [if_neg e]; clear e
      by_cases e : op = 15
      · rw [if_pos e]
        unfold vb_L_law_810 vb_L_law_1834
        exact ⟨tB, T_wipe h (fun v M' h' => by rw [if_pos rfl]; exact I M' h')⟩
      rw [if_neg e]; clear e
      by_cases e : op = 16
      · rw [if_pos e]
        unfold vb_L_law_823 vb_L_law_1834
        exact ⟨tB, T_fault h (fun v M' h' => by rw [if_pos rfl]; exact I M' h')⟩
      rw [if_neg e]; clear e
      by_cases e : op = 17
      · rw [if_pos e]
        unfold vb_L_law_836 vb_L_law_1834
        exact ⟨i1, i2, tB, T_act h _ _ (fun v M' h' => by rw [if_pos rfl]; exact I M' h')⟩
      rw [if_neg e]; clear e
      by_cases e : op = 18
      · rw [if_pos e]
        unfold vb_L_law_869 vb_L_law_1834
        exact ⟨i1, i2, tB, T_right h _ _ (fun v M' h' => by rw [if_pos rfl]; exact I M' h')⟩
      rw [if_neg e]; clear e
      by_cases e : op = 19
      · rw [if_pos e]
        unfold vb_L_law_902 vb_L_law_1834
        exact ⟨i1, i2, tB, T_decisive h _ _ (fun v M' h' => by rw [if_pos rfl]; exact I M' h')⟩
      rw [if_neg e]; clear e
      by_cases e : op = 20
      · rw [if_pos e]
        unfold vb_L_law_935 vb_L_law_1834
        exact ⟨i1, i2, tB, T_fact h _ _ (fun v M' h' => by rw [if_pos rfl]; exact I M' h')⟩
      rw [if_neg e]; clear e
      by_cases e : op = 21
      · rw [if_pos e]
        unfold vb_L_law_968 vb_L_law_1834
        exact ⟨i1, i2, tB, T_first h _ _ (fun v M' h' => by rw [if_pos rfl]; exact I M' h')⟩
      rw [if_neg e]; clear e
      by_cases e : op = 22
      · rw [if_pos e]
        unfold vb_L_law_1001 vb_L_law_1834
        exact ⟨i1, i2, tB, T_notice h _ _ (fun v M' h' => by rw [if_pos rfl]; exact I M' h')⟩
      rw [if_neg e]; clear e
      by_cases e : op = 23
      · rw [if_pos e]
        by_cases z : xs (nI k + 2).toNatClampNeg = 0
        · simp only [vb_L_law_1034, vb_L_law_1053, vb_L_law_1075, vb_L_law_1834, i1, i2, z, ↓reduceIte, true_and]
          exact ⟨tB, T_answer h _ _ (fun v M' h' => by rw [if_pos rfl]; exact I M' h')⟩
        · simp only [vb_L_law_1034, vb_L_law_1053, vb_L_law_1075, vb_L_law_1834, i1, i2, z, ↓reduceIte, true_and]
          exact ⟨tB, T_answer h _ _ (fun v M' h' => by rw [if_pos rfl]; exact I M' h')⟩
      rw [if_neg e]; clear e
      by_cases e : op = 24
      · rw [if_pos e]
        unfold vb_L_law_1083 vb_L_law_1834
        exact ⟨i1, tB, T_withdraw h _ (fun v M' h' => by rw [if_pos rfl]; exact I M' h')⟩
      rw [if_neg e]; clear e
      by_cases e : op = 25
      · rw [if_pos e]
        by_cases z : xs (nI k + 2).toNatClampNeg = 0
        · simp only [vb_L_law_1106, vb_L_law_1125, vb_L_law_1147, vb_L_law_1834, i1, i2, z, ↓reduceIte, true_and]
          exact ⟨tB, T_tribunal h _ _ (fun v M' h' => by rw [if_pos rfl]; exact I M' h')⟩
        · simp only [vb_L_law_1106, vb_L_law_1125, vb_L_law_1147, vb_L_law_1834, i1, i2, z, ↓reduceIte, true_and]
          exact ⟨tB, T_tribunal h _ _ (fun v M' h' => by rw [if_pos rfl]; exact I M' h')⟩
      rw [if_neg e]; clear e
      by_cases e : op = 26
      · rw [if_pos e]
        unfold vb_L_law_1155 vb_L_law_1834
        exact ⟨i1, tB, T_status h _ (fun v M' h' => by rw [if_pos rfl]; exact I M' h')⟩
      rw [if_neg e]; clear e
      by_cases e : op = 27
      · rw [if_pos e]
        unfold vb_L_law_1178 vb_L_law_1834
        exact ⟨i1, tB, T_carry h _ (fun v M' h' => by rw [if_pos rfl]; exact I M' h')⟩
      rw [if_neg e]; clear e
      by_cases e : op = 28
      · rw [if_pos e]
        unfold vb_L_law_1201 vb_L_law_1834
        exact ⟨i1, tB, T_stay h _ (fun v M' h' => by rw [if_pos rfl]; exact I M' h')⟩
      rw [if_neg e]; clear e
      by_cases e : op = 29
      · rw [if_pos e]
        unfold vb_L_law_1224 vb_L_law_1834
        exact ⟨i1, i2, tB, T_value h _ _ (fun v M' h' => by rw [if_pos rfl]; exact I M' h')⟩
      rw [if_neg e]; clear e
      by_cases e : op = 30
      · rw [if_pos e]
        unfold vb_L_law_1257 vb_L_law_1834
        exact ⟨i1, i2, tB, T_point h _ _ (fun v M' h' => by rw [if_pos rfl]; exact I M' h')⟩
      rw [if_neg e]; clear e
      by_cases e : op = 31
      · rw [if_pos e]
        unfold vb_L_law_1290 vb_L_law_1834
        exact ⟨tB, T_blank h (fun v M' h' => by rw [if_pos rfl]; exact I M' h')⟩
      rw [if_neg e]; clear e
      by_cases e : op = 32
      · rw [if_pos e]
        unfold vb_L_law_1303 vb_L_law_1834
        exact ⟨i1, tB, T_table h _ (fun v M' h' => by rw [if_pos rfl]; exact I M' h')⟩
      rw [if_neg e]; clear e
      by_cases e : op = 33
      · rw [if_pos e]
        unfold vb_L_law_1326 vb_L_law_1834
        exact ⟨i1, tB, T_worth h _ (fun v M' h' => by rw [if_pos rfl]; exact I M' h')⟩
      rw [if_neg e]; clear e
      by_cases e : op = 34
      · rw [if_pos e]
        unfold vb_L_law_1349 vb_L_law_1834
        exact ⟨i1, i2, tB, T_sale h _ _ (fun v M' h' => by rw [if_pos rfl]; exact I M' h')⟩
      rw [if_neg e]; clear e
      by_cases e : op = 35
      · rw [if_pos e]
        unfold vb_L_law_1382 vb_L_law_1834
        exact ⟨i1, i2, i3, tB, T_learned h _ _ _ (fun v M' h' => by rw [if_pos (by rw [ix_cmp0])]; exact I M' h')⟩
      rw [if_neg e]; clear e
      by_cases e : op = 36
      · rw [if_pos e]
        unfold vb_L_law_1426 vb_L_law_1834
        exact ⟨i1, tB, T_doubt h _ (fun v M' h' => by rw [if_pos (by rw [ix_cmp0])]; exact I M' h')⟩
      rw [if_neg e]; clear e
      by_cases e : op = 37
      · rw [if_pos e]
        unfold vb_L_law_1450 vb_L_law_1834
        exact ⟨i1, i2, tB, T_set h _ _ (fun v M' h' => by rw [if_pos rfl]; exact I M' h')⟩
      rw [if_neg e]; clear e
      by_cases e : op = 38
      · rw [if_pos e]
        unfold vb_L_law_1483 vb_L_law_1834
        exact ⟨i1, i2, tB, T_price h _ _ (fun v M' h' => by rw [if_pos (by rw [ix_cmp0])]; exact I M' h')⟩
      rw [if_neg e]; clear e
      by_cases e : op = 39
      · rw [if_pos e]
        unfold vb_L_law_1517 vb_L_law_1834
        exact ⟨i1, i2, tB, T_share h _ _ (fun v M' h' => by rw [if_pos (by rw [ix_cmp0])]; exact I M' h')⟩
      rw [if_neg e]; clear e
      by_cases e : op = 40
      · rw [if_pos e]
        unfold vb_L_law_1551 vb_L_law_1834
        exact ⟨i1, i2, tB, T_may h _ _ (fun v M' h' => by rw [if_pos rfl]; exact I M' h')⟩
      rw [if_neg e]; clear e
      by_cases e : op = 41
      · rw [if_pos e]
        unfold vb_L_law_1584 vb_L_law_1834
        exact ⟨i1, i2, tB, T_more h _ _ (fun v M' h' => by rw [if_pos rfl]; exact I M' h')⟩
      rw [if_neg e]; clear e
      by_cases e : op = 42
      · rw [if_pos e]
        by_cases z : xs (nI k + 2).toNatClampNeg = 0
        · simp only [vb_L_law_1617, vb_L_law_1636, vb_L_law_1658, vb_L_law_1834, i1, i2, z, ↓reduceIte, true_and]
          exact ⟨tB, T_breach h _ _ (fun v M' h' => by rw [if_pos rfl]; exact I M' h')⟩
        · simp only [vb_L_law_1617, vb_L_law_1636, vb_L_law_1658, vb_L_law_1834, i1, i2, z, ↓reduceIte, true_and]
          exact ⟨tB, T_breach h _ _ (fun v M' h' => by rw [if_pos rfl]; exact I M' h')⟩
      rw [if_neg e]; clear e
      by_cases e : op = 43
      · rw [if_pos e]
        unfold vb_L_law_1666 vb_L_law_1834
        exact ⟨i1, tB, T_forfeit h _ (fun v M' h' => by rw [if_pos rfl]; exact I M' h')⟩
      rw [if_neg e]; clear e
      by_cases e : op = 44
      · rw [if_pos e]
        unfold vb_L_law_1689 vb_L_law_1834
        exact ⟨i1, tB, T_relieve h _ (fun v M' h' => by rw [if_pos rfl]; exact I M' h')⟩
      rw [if_neg e]; clear e
      by_cases e : op = 45
      · rw [if_pos e]
        unfold vb_L_law_1712 vb_L_law_1834
        exact ⟨i1, i2, i3, i4, tB, T_line h _ _ _ _ (fun v M' h' => by rw [if_pos rfl]; exact I M' h')⟩
      rw [if_neg e]; clear e
      by_cases e : op = 46
      · rw [if_pos e]
        unfold vb_L_law_1765 vb_L_law_1834
        exact ⟨i1, tB, T_can h _ (fun v M' h' => by rw [if_pos rfl]; exact I M' h')⟩
      rw [if_neg e]; clear e
      by_cases e : op = 47
      · rw [if_pos e]
        unfold vb_L_law_1788 vb_L_law_1834
        exact ⟨i1, tB, T_doubted h _ (fun v M' h' => by rw [if_pos rfl]; exact I M' h')⟩
      rw [if_neg e]; clear e
      by_cases e : op = 48
      · rw [if_pos e]
        unfold vb_L_law_1811 vb_L_law_1834
        exact ⟨i1, tB, T_told h _ (fun v M' h' => by rw [if_pos rfl]; exact I M' h')⟩
      rw [if_neg e]; clear e
      exact I M h

/-! written numbers: by program (wip/p52/math52.py) -/
theorem hf_7_0 : ((7 : Int32) >>> ((0 : Int32) &&& 31)) &&& 1 = 1 := by decide
theorem hf_7_1 : ((7 : Int32) >>> ((1 : Int32) &&& 31)) &&& 1 = 1 := by decide
theorem hf_7_2 : ((7 : Int32) >>> ((2 : Int32) &&& 31)) &&& 1 = 1 := by decide
theorem hf_7_3 : ((7 : Int32) >>> ((3 : Int32) &&& 31)) &&& 1 = 0 := by decide
theorem hf_7_4 : ((7 : Int32) >>> ((4 : Int32) &&& 31)) &&& 1 = 0 := by decide
theorem hf_7_5 : ((7 : Int32) >>> ((5 : Int32) &&& 31)) &&& 1 = 0 := by decide
theorem hf_7_6 : ((7 : Int32) >>> ((6 : Int32) &&& 31)) &&& 1 = 0 := by decide
theorem hf_7_7 : ((7 : Int32) >>> ((7 : Int32) &&& 31)) &&& 1 = 0 := by decide
theorem hf_7_8 : ((7 : Int32) >>> ((8 : Int32) &&& 31)) &&& 1 = 0 := by decide
theorem hf_7_9 : ((7 : Int32) >>> ((9 : Int32) &&& 31)) &&& 1 = 0 := by decide
theorem hf_7_10 : ((7 : Int32) >>> ((10 : Int32) &&& 31)) &&& 1 = 0 := by decide
theorem hf_7_11 : ((7 : Int32) >>> ((11 : Int32) &&& 31)) &&& 1 = 0 := by decide
theorem hf_5_0 : ((5 : Int32) >>> ((0 : Int32) &&& 31)) &&& 1 = 1 := by decide
theorem hf_5_1 : ((5 : Int32) >>> ((1 : Int32) &&& 31)) &&& 1 = 0 := by decide
theorem hf_5_2 : ((5 : Int32) >>> ((2 : Int32) &&& 31)) &&& 1 = 1 := by decide
theorem hf_5_3 : ((5 : Int32) >>> ((3 : Int32) &&& 31)) &&& 1 = 0 := by decide
theorem hf_5_4 : ((5 : Int32) >>> ((4 : Int32) &&& 31)) &&& 1 = 0 := by decide
theorem hf_5_5 : ((5 : Int32) >>> ((5 : Int32) &&& 31)) &&& 1 = 0 := by decide
theorem hf_5_6 : ((5 : Int32) >>> ((6 : Int32) &&& 31)) &&& 1 = 0 := by decide
theorem hf_5_7 : ((5 : Int32) >>> ((7 : Int32) &&& 31)) &&& 1 = 0 := by decide
theorem hf_5_8 : ((5 : Int32) >>> ((8 : Int32) &&& 31)) &&& 1 = 0 := by decide
theorem hf_5_9 : ((5 : Int32) >>> ((9 : Int32) &&& 31)) &&& 1 = 0 := by decide
theorem hf_5_10 : ((5 : Int32) >>> ((10 : Int32) &&& 31)) &&& 1 = 0 := by decide
theorem hf_5_11 : ((5 : Int32) >>> ((11 : Int32) &&& 31)) &&& 1 = 0 := by decide
theorem hf_2_0 : ((2 : Int32) >>> ((0 : Int32) &&& 31)) &&& 1 = 0 := by decide
theorem hf_2_1 : ((2 : Int32) >>> ((1 : Int32) &&& 31)) &&& 1 = 1 := by decide
theorem hf_2_2 : ((2 : Int32) >>> ((2 : Int32) &&& 31)) &&& 1 = 0 := by decide
theorem hf_2_3 : ((2 : Int32) >>> ((3 : Int32) &&& 31)) &&& 1 = 0 := by decide
theorem hf_2_4 : ((2 : Int32) >>> ((4 : Int32) &&& 31)) &&& 1 = 0 := by decide
theorem hf_2_5 : ((2 : Int32) >>> ((5 : Int32) &&& 31)) &&& 1 = 0 := by decide
theorem hf_2_6 : ((2 : Int32) >>> ((6 : Int32) &&& 31)) &&& 1 = 0 := by decide
theorem hf_2_7 : ((2 : Int32) >>> ((7 : Int32) &&& 31)) &&& 1 = 0 := by decide
theorem hf_2_8 : ((2 : Int32) >>> ((8 : Int32) &&& 31)) &&& 1 = 0 := by decide
theorem hf_2_9 : ((2 : Int32) >>> ((9 : Int32) &&& 31)) &&& 1 = 0 := by decide
theorem hf_2_10 : ((2 : Int32) >>> ((10 : Int32) &&& 31)) &&& 1 = 0 := by decide
theorem hf_2_11 : ((2 : Int32) >>> ((11 : Int32) &&& 31)) &&& 1 = 0 := by decide
theorem hs_7_7 : (7 : Int32) &&& ((7 : Int32) ^^^ (-1)) = 0 := by decide
theorem ha_7_7 : (7 : Int32) &&& (7 : Int32) = 7 := by decide
theorem hs_7_5 : (7 : Int32) &&& ((5 : Int32) ^^^ (-1)) = 2 := by decide
theorem ha_7_5 : (7 : Int32) &&& (5 : Int32) = 5 := by decide
theorem hs_7_2 : (7 : Int32) &&& ((2 : Int32) ^^^ (-1)) = 5 := by decide
theorem ha_7_2 : (7 : Int32) &&& (2 : Int32) = 2 := by decide
theorem hs_5_7 : (5 : Int32) &&& ((7 : Int32) ^^^ (-1)) = 0 := by decide
theorem ha_5_7 : (5 : Int32) &&& (7 : Int32) = 5 := by decide
theorem hs_5_5 : (5 : Int32) &&& ((5 : Int32) ^^^ (-1)) = 0 := by decide
theorem ha_5_5 : (5 : Int32) &&& (5 : Int32) = 5 := by decide
theorem hs_5_2 : (5 : Int32) &&& ((2 : Int32) ^^^ (-1)) = 5 := by decide
theorem ha_5_2 : (5 : Int32) &&& (2 : Int32) = 0 := by decide
theorem hs_2_7 : (2 : Int32) &&& ((7 : Int32) ^^^ (-1)) = 0 := by decide
theorem ha_2_7 : (2 : Int32) &&& (7 : Int32) = 2 := by decide
theorem hs_2_5 : (2 : Int32) &&& ((5 : Int32) ^^^ (-1)) = 2 := by decide
theorem ha_2_5 : (2 : Int32) &&& (5 : Int32) = 0 := by decide
theorem hs_2_2 : (2 : Int32) &&& ((2 : Int32) ^^^ (-1)) = 0 := by decide
theorem ha_2_2 : (2 : Int32) &&& (2 : Int32) = 2 := by decide
def kBc (l0 : Int32) : Int32 := (((((((l0 - ((((l0 : Int32).toUInt32 >>> ((1 : Int32).toUInt32 &&& Int32.toUInt32 31)).toInt32) &&& 1431655765)) &&& 858993459) + (((((l0 - ((((l0 : Int32).toUInt32 >>> ((1 : Int32).toUInt32 &&& Int32.toUInt32 31)).toInt32) &&& 1431655765)) : Int32).toUInt32 >>> ((2 : Int32).toUInt32 &&& Int32.toUInt32 31)).toInt32) &&& 858993459)) + ((((((l0 - ((((l0 : Int32).toUInt32 >>> ((1 : Int32).toUInt32 &&& Int32.toUInt32 31)).toInt32) &&& 1431655765)) &&& 858993459) + (((((l0 - ((((l0 : Int32).toUInt32 >>> ((1 : Int32).toUInt32 &&& Int32.toUInt32 31)).toInt32) &&& 1431655765)) : Int32).toUInt32 >>> ((2 : Int32).toUInt32 &&& Int32.toUInt32 31)).toInt32) &&& 858993459)) : Int32).toUInt32 >>> ((4 : Int32).toUInt32 &&& Int32.toUInt32 31)).toInt32)) &&& 252645135) + ((((((((l0 - ((((l0 : Int32).toUInt32 >>> ((1 : Int32).toUInt32 &&& Int32.toUInt32 31)).toInt32) &&& 1431655765)) &&& 858993459) + (((((l0 - ((((l0 : Int32).toUInt32 >>> ((1 : Int32).toUInt32 &&& Int32.toUInt32 31)).toInt32) &&& 1431655765)) : Int32).toUInt32 >>> ((2 : Int32).toUInt32 &&& Int32.toUInt32 31)).toInt32) &&& 858993459)) + ((((((l0 - ((((l0 : Int32).toUInt32 >>> ((1 : Int32).toUInt32 &&& Int32.toUInt32 31)).toInt32) &&& 1431655765)) &&& 858993459) + (((((l0 - ((((l0 : Int32).toUInt32 >>> ((1 : Int32).toUInt32 &&& Int32.toUInt32 31)).toInt32) &&& 1431655765)) : Int32).toUInt32 >>> ((2 : Int32).toUInt32 &&& Int32.toUInt32 31)).toInt32) &&& 858993459)) : Int32).toUInt32 >>> ((4 : Int32).toUInt32 &&& Int32.toUInt32 31)).toInt32)) &&& 252645135) : Int32).toUInt32 >>> ((8 : Int32).toUInt32 &&& Int32.toUInt32 31)).toInt32)) + (((((((((l0 - ((((l0 : Int32).toUInt32 >>> ((1 : Int32).toUInt32 &&& Int32.toUInt32 31)).toInt32) &&& 1431655765)) &&& 858993459) + (((((l0 - ((((l0 : Int32).toUInt32 >>> ((1 : Int32).toUInt32 &&& Int32.toUInt32 31)).toInt32) &&& 1431655765)) : Int32).toUInt32 >>> ((2 : Int32).toUInt32 &&& Int32.toUInt32 31)).toInt32) &&& 858993459)) + ((((((l0 - ((((l0 : Int32).toUInt32 >>> ((1 : Int32).toUInt32 &&& Int32.toUInt32 31)).toInt32) &&& 1431655765)) &&& 858993459) + (((((l0 - ((((l0 : Int32).toUInt32 >>> ((1 : Int32).toUInt32 &&& Int32.toUInt32 31)).toInt32) &&& 1431655765)) : Int32).toUInt32 >>> ((2 : Int32).toUInt32 &&& Int32.toUInt32 31)).toInt32) &&& 858993459)) : Int32).toUInt32 >>> ((4 : Int32).toUInt32 &&& Int32.toUInt32 31)).toInt32)) &&& 252645135) + ((((((((l0 - ((((l0 : Int32).toUInt32 >>> ((1 : Int32).toUInt32 &&& Int32.toUInt32 31)).toInt32) &&& 1431655765)) &&& 858993459) + (((((l0 - ((((l0 : Int32).toUInt32 >>> ((1 : Int32).toUInt32 &&& Int32.toUInt32 31)).toInt32) &&& 1431655765)) : Int32).toUInt32 >>> ((2 : Int32).toUInt32 &&& Int32.toUInt32 31)).toInt32) &&& 858993459)) + ((((((l0 - ((((l0 : Int32).toUInt32 >>> ((1 : Int32).toUInt32 &&& Int32.toUInt32 31)).toInt32) &&& 1431655765)) &&& 858993459) + (((((l0 - ((((l0 : Int32).toUInt32 >>> ((1 : Int32).toUInt32 &&& Int32.toUInt32 31)).toInt32) &&& 1431655765)) : Int32).toUInt32 >>> ((2 : Int32).toUInt32 &&& Int32.toUInt32 31)).toInt32) &&& 858993459)) : Int32).toUInt32 >>> ((4 : Int32).toUInt32 &&& Int32.toUInt32 31)).toInt32)) &&& 252645135) : Int32).toUInt32 >>> ((8 : Int32).toUInt32 &&& Int32.toUInt32 31)).toInt32)) : Int32).toUInt32 >>> ((16 : Int32).toUInt32 &&& Int32.toUInt32 31)).toInt32)) &&& 63
theorem e_bits {v : Int32} {M : mj_M} {post : Int32 → mj_M → Prop} : vc_J6_bitCount_0f7a4 v M post = post (kBc v) M := nr rfl
theorem bc_7 : kBc 7 = 3 := by decide
theorem bc_5 : kBc 5 = 2 := by decide
theorem bc_2 : kBc 2 = 1 := by decide
theorem m_ad0 {a : Nat} : nI a + 0 = nI (a + 0) := nI_add a 0
theorem m_da0 {a : Nat} : 0 + nI a = nI (0 + a) := nI_add 0 a
theorem m_sb0 {a : Nat} (h : 0 ≤ a) : nI a - 0 = nI (a - 0) := n_sub h
theorem m_ltr0 {a : Nat} (h : 0 < a) (ha : a < 2147483648) : (0 < nI a) = True := n_lt h ha
theorem m_nlt0 {a : Nat} (h : 0 ≤ a) (ha : a < 2147483648) : (nI a < 0) = False := n_nlt h ha
theorem m_nltr0 {a : Nat} (h : a ≤ 0) : (0 < nI a) = False := n_nlt h (by decide)
theorem m_le0 {a : Nat} (h : a ≤ 0) : (nI a ≤ 0) = True := n_le h (by decide)
theorem m_ler0 {a : Nat} (h : 0 ≤ a) (ha : a < 2147483648) : (0 ≤ nI a) = True := n_le h ha
theorem m_nle0 {a : Nat} (h : 0 < a) (ha : a < 2147483648) : (nI a ≤ 0) = False := n_nle h ha
theorem m_nler0 {a : Nat} (h : a < 0) : (0 ≤ nI a) = False := n_nle h (by decide)
theorem m_eq0 {a : Nat} (h : a = 0) : (nI a = 0) = True := n_eq h
theorem m_ne0 {a : Nat} (h : a < 0 ∨ 0 < a) (ha : a < 2147483648) : (nI a = 0) = False := n_ne h ha (by decide)
theorem m_re0 {a : Nat} (h : a < 0 ∨ 0 < a) (ha : a < 2147483648) : (0 = nI a) = False := n_ne (a := 0) h.symm (by decide) ha
theorem m_ad1 {a : Nat} : nI a + 1 = nI (a + 1) := nI_add a 1
theorem m_da1 {a : Nat} : 1 + nI a = nI (1 + a) := nI_add 1 a
theorem m_sb1 {a : Nat} (h : 1 ≤ a) : nI a - 1 = nI (a - 1) := n_sub h
theorem m_lt1 {a : Nat} (h : a < 1) : (nI a < 1) = True := n_lt h (by decide)
theorem m_ltr1 {a : Nat} (h : 1 < a) (ha : a < 2147483648) : (1 < nI a) = True := n_lt h ha
theorem m_nlt1 {a : Nat} (h : 1 ≤ a) (ha : a < 2147483648) : (nI a < 1) = False := n_nlt h ha
theorem m_nltr1 {a : Nat} (h : a ≤ 1) : (1 < nI a) = False := n_nlt h (by decide)
theorem m_le1 {a : Nat} (h : a ≤ 1) : (nI a ≤ 1) = True := n_le h (by decide)
theorem m_ler1 {a : Nat} (h : 1 ≤ a) (ha : a < 2147483648) : (1 ≤ nI a) = True := n_le h ha
theorem m_nle1 {a : Nat} (h : 1 < a) (ha : a < 2147483648) : (nI a ≤ 1) = False := n_nle h ha
theorem m_nler1 {a : Nat} (h : a < 1) : (1 ≤ nI a) = False := n_nle h (by decide)
theorem m_eq1 {a : Nat} (h : a = 1) : (nI a = 1) = True := n_eq h
theorem m_ne1 {a : Nat} (h : a < 1 ∨ 1 < a) (ha : a < 2147483648) : (nI a = 1) = False := n_ne h ha (by decide)
theorem m_re1 {a : Nat} (h : a < 1 ∨ 1 < a) (ha : a < 2147483648) : (1 = nI a) = False := n_ne (a := 1) h.symm (by decide) ha
theorem m_ad2 {a : Nat} : nI a + 2 = nI (a + 2) := nI_add a 2
theorem m_da2 {a : Nat} : 2 + nI a = nI (2 + a) := nI_add 2 a
theorem m_sb2 {a : Nat} (h : 2 ≤ a) : nI a - 2 = nI (a - 2) := n_sub h
theorem m_lt2 {a : Nat} (h : a < 2) : (nI a < 2) = True := n_lt h (by decide)
theorem m_ltr2 {a : Nat} (h : 2 < a) (ha : a < 2147483648) : (2 < nI a) = True := n_lt h ha
theorem m_nlt2 {a : Nat} (h : 2 ≤ a) (ha : a < 2147483648) : (nI a < 2) = False := n_nlt h ha
theorem m_nltr2 {a : Nat} (h : a ≤ 2) : (2 < nI a) = False := n_nlt h (by decide)
theorem m_le2 {a : Nat} (h : a ≤ 2) : (nI a ≤ 2) = True := n_le h (by decide)
theorem m_ler2 {a : Nat} (h : 2 ≤ a) (ha : a < 2147483648) : (2 ≤ nI a) = True := n_le h ha
theorem m_nle2 {a : Nat} (h : 2 < a) (ha : a < 2147483648) : (nI a ≤ 2) = False := n_nle h ha
theorem m_nler2 {a : Nat} (h : a < 2) : (2 ≤ nI a) = False := n_nle h (by decide)
theorem m_eq2 {a : Nat} (h : a = 2) : (nI a = 2) = True := n_eq h
theorem m_ne2 {a : Nat} (h : a < 2 ∨ 2 < a) (ha : a < 2147483648) : (nI a = 2) = False := n_ne h ha (by decide)
theorem m_re2 {a : Nat} (h : a < 2 ∨ 2 < a) (ha : a < 2147483648) : (2 = nI a) = False := n_ne (a := 2) h.symm (by decide) ha
theorem m_ad3 {a : Nat} : nI a + 3 = nI (a + 3) := nI_add a 3
theorem m_da3 {a : Nat} : 3 + nI a = nI (3 + a) := nI_add 3 a
theorem m_sb3 {a : Nat} (h : 3 ≤ a) : nI a - 3 = nI (a - 3) := n_sub h
theorem m_lt3 {a : Nat} (h : a < 3) : (nI a < 3) = True := n_lt h (by decide)
theorem m_ltr3 {a : Nat} (h : 3 < a) (ha : a < 2147483648) : (3 < nI a) = True := n_lt h ha
theorem m_nlt3 {a : Nat} (h : 3 ≤ a) (ha : a < 2147483648) : (nI a < 3) = False := n_nlt h ha
theorem m_nltr3 {a : Nat} (h : a ≤ 3) : (3 < nI a) = False := n_nlt h (by decide)
theorem m_le3 {a : Nat} (h : a ≤ 3) : (nI a ≤ 3) = True := n_le h (by decide)
theorem m_ler3 {a : Nat} (h : 3 ≤ a) (ha : a < 2147483648) : (3 ≤ nI a) = True := n_le h ha
theorem m_nle3 {a : Nat} (h : 3 < a) (ha : a < 2147483648) : (nI a ≤ 3) = False := n_nle h ha
theorem m_nler3 {a : Nat} (h : a < 3) : (3 ≤ nI a) = False := n_nle h (by decide)
theorem m_eq3 {a : Nat} (h : a = 3) : (nI a = 3) = True := n_eq h
theorem m_ne3 {a : Nat} (h : a < 3 ∨ 3 < a) (ha : a < 2147483648) : (nI a = 3) = False := n_ne h ha (by decide)
theorem m_re3 {a : Nat} (h : a < 3 ∨ 3 < a) (ha : a < 2147483648) : (3 = nI a) = False := n_ne (a := 3) h.symm (by decide) ha
theorem m_ad4 {a : Nat} : nI a + 4 = nI (a + 4) := nI_add a 4
theorem m_da4 {a : Nat} : 4 + nI a = nI (4 + a) := nI_add 4 a
theorem m_sb4 {a : Nat} (h : 4 ≤ a) : nI a - 4 = nI (a - 4) := n_sub h
theorem m_lt4 {a : Nat} (h : a < 4) : (nI a < 4) = True := n_lt h (by decide)
theorem m_ltr4 {a : Nat} (h : 4 < a) (ha : a < 2147483648) : (4 < nI a) = True := n_lt h ha
theorem m_nlt4 {a : Nat} (h : 4 ≤ a) (ha : a < 2147483648) : (nI a < 4) = False := n_nlt h ha
theorem m_nltr4 {a : Nat} (h : a ≤ 4) : (4 < nI a) = False := n_nlt h (by decide)
theorem m_le4 {a : Nat} (h : a ≤ 4) : (nI a ≤ 4) = True := n_le h (by decide)
theorem m_ler4 {a : Nat} (h : 4 ≤ a) (ha : a < 2147483648) : (4 ≤ nI a) = True := n_le h ha
theorem m_nle4 {a : Nat} (h : 4 < a) (ha : a < 2147483648) : (nI a ≤ 4) = False := n_nle h ha
theorem m_nler4 {a : Nat} (h : a < 4) : (4 ≤ nI a) = False := n_nle h (by decide)
theorem m_eq4 {a : Nat} (h : a = 4) : (nI a = 4) = True := n_eq h
theorem m_ne4 {a : Nat} (h : a < 4 ∨ 4 < a) (ha : a < 2147483648) : (nI a = 4) = False := n_ne h ha (by decide)
theorem m_re4 {a : Nat} (h : a < 4 ∨ 4 < a) (ha : a < 2147483648) : (4 = nI a) = False := n_ne (a := 4) h.symm (by decide) ha
theorem m_ad5 {a : Nat} : nI a + 5 = nI (a + 5) := nI_add a 5
theorem m_da5 {a : Nat} : 5 + nI a = nI (5 + a) := nI_add 5 a
theorem m_sb5 {a : Nat} (h : 5 ≤ a) : nI a - 5 = nI (a - 5) := n_sub h
theorem m_lt5 {a : Nat} (h : a < 5) : (nI a < 5) = True := n_lt h (by decide)
theorem m_ltr5 {a : Nat} (h : 5 < a) (ha : a < 2147483648) : (5 < nI a) = True := n_lt h ha
theorem m_nlt5 {a : Nat} (h : 5 ≤ a) (ha : a < 2147483648) : (nI a < 5) = False := n_nlt h ha
theorem m_nltr5 {a : Nat} (h : a ≤ 5) : (5 < nI a) = False := n_nlt h (by decide)
theorem m_le5 {a : Nat} (h : a ≤ 5) : (nI a ≤ 5) = True := n_le h (by decide)
theorem m_ler5 {a : Nat} (h : 5 ≤ a) (ha : a < 2147483648) : (5 ≤ nI a) = True := n_le h ha
theorem m_nle5 {a : Nat} (h : 5 < a) (ha : a < 2147483648) : (nI a ≤ 5) = False := n_nle h ha
theorem m_nler5 {a : Nat} (h : a < 5) : (5 ≤ nI a) = False := n_nle h (by decide)
theorem m_eq5 {a : Nat} (h : a = 5) : (nI a = 5) = True := n_eq h
theorem m_ne5 {a : Nat} (h : a < 5 ∨ 5 < a) (ha : a < 2147483648) : (nI a = 5) = False := n_ne h ha (by decide)
theorem m_re5 {a : Nat} (h : a < 5 ∨ 5 < a) (ha : a < 2147483648) : (5 = nI a) = False := n_ne (a := 5) h.symm (by decide) ha
theorem m_ad6 {a : Nat} : nI a + 6 = nI (a + 6) := nI_add a 6
theorem m_da6 {a : Nat} : 6 + nI a = nI (6 + a) := nI_add 6 a
theorem m_sb6 {a : Nat} (h : 6 ≤ a) : nI a - 6 = nI (a - 6) := n_sub h
theorem m_lt6 {a : Nat} (h : a < 6) : (nI a < 6) = True := n_lt h (by decide)
theorem m_ltr6 {a : Nat} (h : 6 < a) (ha : a < 2147483648) : (6 < nI a) = True := n_lt h ha
theorem m_nlt6 {a : Nat} (h : 6 ≤ a) (ha : a < 2147483648) : (nI a < 6) = False := n_nlt h ha
theorem m_nltr6 {a : Nat} (h : a ≤ 6) : (6 < nI a) = False := n_nlt h (by decide)
theorem m_le6 {a : Nat} (h : a ≤ 6) : (nI a ≤ 6) = True := n_le h (by decide)
theorem m_ler6 {a : Nat} (h : 6 ≤ a) (ha : a < 2147483648) : (6 ≤ nI a) = True := n_le h ha
theorem m_nle6 {a : Nat} (h : 6 < a) (ha : a < 2147483648) : (nI a ≤ 6) = False := n_nle h ha
theorem m_nler6 {a : Nat} (h : a < 6) : (6 ≤ nI a) = False := n_nle h (by decide)
theorem m_eq6 {a : Nat} (h : a = 6) : (nI a = 6) = True := n_eq h
theorem m_ne6 {a : Nat} (h : a < 6 ∨ 6 < a) (ha : a < 2147483648) : (nI a = 6) = False := n_ne h ha (by decide)
theorem m_re6 {a : Nat} (h : a < 6 ∨ 6 < a) (ha : a < 2147483648) : (6 = nI a) = False := n_ne (a := 6) h.symm (by decide) ha
theorem m_ad7 {a : Nat} : nI a + 7 = nI (a + 7) := nI_add a 7
theorem m_da7 {a : Nat} : 7 + nI a = nI (7 + a) := nI_add 7 a
theorem m_sb7 {a : Nat} (h : 7 ≤ a) : nI a - 7 = nI (a - 7) := n_sub h
theorem m_lt7 {a : Nat} (h : a < 7) : (nI a < 7) = True := n_lt h (by decide)
theorem m_ltr7 {a : Nat} (h : 7 < a) (ha : a < 2147483648) : (7 < nI a) = True := n_lt h ha
theorem m_nlt7 {a : Nat} (h : 7 ≤ a) (ha : a < 2147483648) : (nI a < 7) = False := n_nlt h ha
theorem m_nltr7 {a : Nat} (h : a ≤ 7) : (7 < nI a) = False := n_nlt h (by decide)
theorem m_le7 {a : Nat} (h : a ≤ 7) : (nI a ≤ 7) = True := n_le h (by decide)
theorem m_ler7 {a : Nat} (h : 7 ≤ a) (ha : a < 2147483648) : (7 ≤ nI a) = True := n_le h ha
theorem m_nle7 {a : Nat} (h : 7 < a) (ha : a < 2147483648) : (nI a ≤ 7) = False := n_nle h ha
theorem m_nler7 {a : Nat} (h : a < 7) : (7 ≤ nI a) = False := n_nle h (by decide)
theorem m_eq7 {a : Nat} (h : a = 7) : (nI a = 7) = True := n_eq h
theorem m_ne7 {a : Nat} (h : a < 7 ∨ 7 < a) (ha : a < 2147483648) : (nI a = 7) = False := n_ne h ha (by decide)
theorem m_re7 {a : Nat} (h : a < 7 ∨ 7 < a) (ha : a < 2147483648) : (7 = nI a) = False := n_ne (a := 7) h.symm (by decide) ha
theorem m_ad8 {a : Nat} : nI a + 8 = nI (a + 8) := nI_add a 8
theorem m_da8 {a : Nat} : 8 + nI a = nI (8 + a) := nI_add 8 a
theorem m_sb8 {a : Nat} (h : 8 ≤ a) : nI a - 8 = nI (a - 8) := n_sub h
theorem m_lt8 {a : Nat} (h : a < 8) : (nI a < 8) = True := n_lt h (by decide)
theorem m_ltr8 {a : Nat} (h : 8 < a) (ha : a < 2147483648) : (8 < nI a) = True := n_lt h ha
theorem m_nlt8 {a : Nat} (h : 8 ≤ a) (ha : a < 2147483648) : (nI a < 8) = False := n_nlt h ha
theorem m_nltr8 {a : Nat} (h : a ≤ 8) : (8 < nI a) = False := n_nlt h (by decide)
theorem m_le8 {a : Nat} (h : a ≤ 8) : (nI a ≤ 8) = True := n_le h (by decide)
theorem m_ler8 {a : Nat} (h : 8 ≤ a) (ha : a < 2147483648) : (8 ≤ nI a) = True := n_le h ha
theorem m_nle8 {a : Nat} (h : 8 < a) (ha : a < 2147483648) : (nI a ≤ 8) = False := n_nle h ha
theorem m_nler8 {a : Nat} (h : a < 8) : (8 ≤ nI a) = False := n_nle h (by decide)
theorem m_eq8 {a : Nat} (h : a = 8) : (nI a = 8) = True := n_eq h
theorem m_ne8 {a : Nat} (h : a < 8 ∨ 8 < a) (ha : a < 2147483648) : (nI a = 8) = False := n_ne h ha (by decide)
theorem m_re8 {a : Nat} (h : a < 8 ∨ 8 < a) (ha : a < 2147483648) : (8 = nI a) = False := n_ne (a := 8) h.symm (by decide) ha
theorem m_ad9 {a : Nat} : nI a + 9 = nI (a + 9) := nI_add a 9
theorem m_da9 {a : Nat} : 9 + nI a = nI (9 + a) := nI_add 9 a
theorem m_sb9 {a : Nat} (h : 9 ≤ a) : nI a - 9 = nI (a - 9) := n_sub h
theorem m_lt9 {a : Nat} (h : a < 9) : (nI a < 9) = True := n_lt h (by decide)
theorem m_ltr9 {a : Nat} (h : 9 < a) (ha : a < 2147483648) : (9 < nI a) = True := n_lt h ha
theorem m_nlt9 {a : Nat} (h : 9 ≤ a) (ha : a < 2147483648) : (nI a < 9) = False := n_nlt h ha
theorem m_nltr9 {a : Nat} (h : a ≤ 9) : (9 < nI a) = False := n_nlt h (by decide)
theorem m_le9 {a : Nat} (h : a ≤ 9) : (nI a ≤ 9) = True := n_le h (by decide)
theorem m_ler9 {a : Nat} (h : 9 ≤ a) (ha : a < 2147483648) : (9 ≤ nI a) = True := n_le h ha
theorem m_nle9 {a : Nat} (h : 9 < a) (ha : a < 2147483648) : (nI a ≤ 9) = False := n_nle h ha
theorem m_nler9 {a : Nat} (h : a < 9) : (9 ≤ nI a) = False := n_nle h (by decide)
theorem m_eq9 {a : Nat} (h : a = 9) : (nI a = 9) = True := n_eq h
theorem m_ne9 {a : Nat} (h : a < 9 ∨ 9 < a) (ha : a < 2147483648) : (nI a = 9) = False := n_ne h ha (by decide)
theorem m_re9 {a : Nat} (h : a < 9 ∨ 9 < a) (ha : a < 2147483648) : (9 = nI a) = False := n_ne (a := 9) h.symm (by decide) ha
theorem m_ad10 {a : Nat} : nI a + 10 = nI (a + 10) := nI_add a 10
theorem m_da10 {a : Nat} : 10 + nI a = nI (10 + a) := nI_add 10 a
theorem m_sb10 {a : Nat} (h : 10 ≤ a) : nI a - 10 = nI (a - 10) := n_sub h
theorem m_lt10 {a : Nat} (h : a < 10) : (nI a < 10) = True := n_lt h (by decide)
theorem m_ltr10 {a : Nat} (h : 10 < a) (ha : a < 2147483648) : (10 < nI a) = True := n_lt h ha
theorem m_nlt10 {a : Nat} (h : 10 ≤ a) (ha : a < 2147483648) : (nI a < 10) = False := n_nlt h ha
theorem m_nltr10 {a : Nat} (h : a ≤ 10) : (10 < nI a) = False := n_nlt h (by decide)
theorem m_le10 {a : Nat} (h : a ≤ 10) : (nI a ≤ 10) = True := n_le h (by decide)
theorem m_ler10 {a : Nat} (h : 10 ≤ a) (ha : a < 2147483648) : (10 ≤ nI a) = True := n_le h ha
theorem m_nle10 {a : Nat} (h : 10 < a) (ha : a < 2147483648) : (nI a ≤ 10) = False := n_nle h ha
theorem m_nler10 {a : Nat} (h : a < 10) : (10 ≤ nI a) = False := n_nle h (by decide)
theorem m_eq10 {a : Nat} (h : a = 10) : (nI a = 10) = True := n_eq h
theorem m_ne10 {a : Nat} (h : a < 10 ∨ 10 < a) (ha : a < 2147483648) : (nI a = 10) = False := n_ne h ha (by decide)
theorem m_re10 {a : Nat} (h : a < 10 ∨ 10 < a) (ha : a < 2147483648) : (10 = nI a) = False := n_ne (a := 10) h.symm (by decide) ha
theorem m_ad12 {a : Nat} : nI a + 12 = nI (a + 12) := nI_add a 12
theorem m_da12 {a : Nat} : 12 + nI a = nI (12 + a) := nI_add 12 a
theorem m_sb12 {a : Nat} (h : 12 ≤ a) : nI a - 12 = nI (a - 12) := n_sub h
theorem m_lt12 {a : Nat} (h : a < 12) : (nI a < 12) = True := n_lt h (by decide)
theorem m_ltr12 {a : Nat} (h : 12 < a) (ha : a < 2147483648) : (12 < nI a) = True := n_lt h ha
theorem m_nlt12 {a : Nat} (h : 12 ≤ a) (ha : a < 2147483648) : (nI a < 12) = False := n_nlt h ha
theorem m_nltr12 {a : Nat} (h : a ≤ 12) : (12 < nI a) = False := n_nlt h (by decide)
theorem m_le12 {a : Nat} (h : a ≤ 12) : (nI a ≤ 12) = True := n_le h (by decide)
theorem m_ler12 {a : Nat} (h : 12 ≤ a) (ha : a < 2147483648) : (12 ≤ nI a) = True := n_le h ha
theorem m_nle12 {a : Nat} (h : 12 < a) (ha : a < 2147483648) : (nI a ≤ 12) = False := n_nle h ha
theorem m_nler12 {a : Nat} (h : a < 12) : (12 ≤ nI a) = False := n_nle h (by decide)
theorem m_eq12 {a : Nat} (h : a = 12) : (nI a = 12) = True := n_eq h
theorem m_ne12 {a : Nat} (h : a < 12 ∨ 12 < a) (ha : a < 2147483648) : (nI a = 12) = False := n_ne h ha (by decide)
theorem m_re12 {a : Nat} (h : a < 12 ∨ 12 < a) (ha : a < 2147483648) : (12 = nI a) = False := n_ne (a := 12) h.symm (by decide) ha
theorem m_ad29 {a : Nat} : nI a + 29 = nI (a + 29) := nI_add a 29
theorem m_da29 {a : Nat} : 29 + nI a = nI (29 + a) := nI_add 29 a
theorem m_sb29 {a : Nat} (h : 29 ≤ a) : nI a - 29 = nI (a - 29) := n_sub h
theorem m_lt29 {a : Nat} (h : a < 29) : (nI a < 29) = True := n_lt h (by decide)
theorem m_ltr29 {a : Nat} (h : 29 < a) (ha : a < 2147483648) : (29 < nI a) = True := n_lt h ha
theorem m_nlt29 {a : Nat} (h : 29 ≤ a) (ha : a < 2147483648) : (nI a < 29) = False := n_nlt h ha
theorem m_nltr29 {a : Nat} (h : a ≤ 29) : (29 < nI a) = False := n_nlt h (by decide)
theorem m_le29 {a : Nat} (h : a ≤ 29) : (nI a ≤ 29) = True := n_le h (by decide)
theorem m_ler29 {a : Nat} (h : 29 ≤ a) (ha : a < 2147483648) : (29 ≤ nI a) = True := n_le h ha
theorem m_nle29 {a : Nat} (h : 29 < a) (ha : a < 2147483648) : (nI a ≤ 29) = False := n_nle h ha
theorem m_nler29 {a : Nat} (h : a < 29) : (29 ≤ nI a) = False := n_nle h (by decide)
theorem m_eq29 {a : Nat} (h : a = 29) : (nI a = 29) = True := n_eq h
theorem m_ne29 {a : Nat} (h : a < 29 ∨ 29 < a) (ha : a < 2147483648) : (nI a = 29) = False := n_ne h ha (by decide)
theorem m_re29 {a : Nat} (h : a < 29 ∨ 29 < a) (ha : a < 2147483648) : (29 = nI a) = False := n_ne (a := 29) h.symm (by decide) ha
theorem m_ad30 {a : Nat} : nI a + 30 = nI (a + 30) := nI_add a 30
theorem m_da30 {a : Nat} : 30 + nI a = nI (30 + a) := nI_add 30 a
theorem m_sb30 {a : Nat} (h : 30 ≤ a) : nI a - 30 = nI (a - 30) := n_sub h
theorem m_lt30 {a : Nat} (h : a < 30) : (nI a < 30) = True := n_lt h (by decide)
theorem m_ltr30 {a : Nat} (h : 30 < a) (ha : a < 2147483648) : (30 < nI a) = True := n_lt h ha
theorem m_nlt30 {a : Nat} (h : 30 ≤ a) (ha : a < 2147483648) : (nI a < 30) = False := n_nlt h ha
theorem m_nltr30 {a : Nat} (h : a ≤ 30) : (30 < nI a) = False := n_nlt h (by decide)
theorem m_le30 {a : Nat} (h : a ≤ 30) : (nI a ≤ 30) = True := n_le h (by decide)
theorem m_ler30 {a : Nat} (h : 30 ≤ a) (ha : a < 2147483648) : (30 ≤ nI a) = True := n_le h ha
theorem m_nle30 {a : Nat} (h : 30 < a) (ha : a < 2147483648) : (nI a ≤ 30) = False := n_nle h ha
theorem m_nler30 {a : Nat} (h : a < 30) : (30 ≤ nI a) = False := n_nle h (by decide)
theorem m_eq30 {a : Nat} (h : a = 30) : (nI a = 30) = True := n_eq h
theorem m_ne30 {a : Nat} (h : a < 30 ∨ 30 < a) (ha : a < 2147483648) : (nI a = 30) = False := n_ne h ha (by decide)
theorem m_re30 {a : Nat} (h : a < 30 ∨ 30 < a) (ha : a < 2147483648) : (30 = nI a) = False := n_ne (a := 30) h.symm (by decide) ha
theorem m_ad31 {a : Nat} : nI a + 31 = nI (a + 31) := nI_add a 31
theorem m_da31 {a : Nat} : 31 + nI a = nI (31 + a) := nI_add 31 a
theorem m_sb31 {a : Nat} (h : 31 ≤ a) : nI a - 31 = nI (a - 31) := n_sub h
theorem m_lt31 {a : Nat} (h : a < 31) : (nI a < 31) = True := n_lt h (by decide)
theorem m_ltr31 {a : Nat} (h : 31 < a) (ha : a < 2147483648) : (31 < nI a) = True := n_lt h ha
theorem m_nlt31 {a : Nat} (h : 31 ≤ a) (ha : a < 2147483648) : (nI a < 31) = False := n_nlt h ha
theorem m_nltr31 {a : Nat} (h : a ≤ 31) : (31 < nI a) = False := n_nlt h (by decide)
theorem m_le31 {a : Nat} (h : a ≤ 31) : (nI a ≤ 31) = True := n_le h (by decide)
theorem m_ler31 {a : Nat} (h : 31 ≤ a) (ha : a < 2147483648) : (31 ≤ nI a) = True := n_le h ha
theorem m_nle31 {a : Nat} (h : 31 < a) (ha : a < 2147483648) : (nI a ≤ 31) = False := n_nle h ha
theorem m_nler31 {a : Nat} (h : a < 31) : (31 ≤ nI a) = False := n_nle h (by decide)
theorem m_eq31 {a : Nat} (h : a = 31) : (nI a = 31) = True := n_eq h
theorem m_ne31 {a : Nat} (h : a < 31 ∨ 31 < a) (ha : a < 2147483648) : (nI a = 31) = False := n_ne h ha (by decide)
theorem m_re31 {a : Nat} (h : a < 31 ∨ 31 < a) (ha : a < 2147483648) : (31 = nI a) = False := n_ne (a := 31) h.symm (by decide) ha
theorem m_ad40 {a : Nat} : nI a + 40 = nI (a + 40) := nI_add a 40
theorem m_da40 {a : Nat} : 40 + nI a = nI (40 + a) := nI_add 40 a
theorem m_sb40 {a : Nat} (h : 40 ≤ a) : nI a - 40 = nI (a - 40) := n_sub h
theorem m_lt40 {a : Nat} (h : a < 40) : (nI a < 40) = True := n_lt h (by decide)
theorem m_ltr40 {a : Nat} (h : 40 < a) (ha : a < 2147483648) : (40 < nI a) = True := n_lt h ha
theorem m_nlt40 {a : Nat} (h : 40 ≤ a) (ha : a < 2147483648) : (nI a < 40) = False := n_nlt h ha
theorem m_nltr40 {a : Nat} (h : a ≤ 40) : (40 < nI a) = False := n_nlt h (by decide)
theorem m_le40 {a : Nat} (h : a ≤ 40) : (nI a ≤ 40) = True := n_le h (by decide)
theorem m_ler40 {a : Nat} (h : 40 ≤ a) (ha : a < 2147483648) : (40 ≤ nI a) = True := n_le h ha
theorem m_nle40 {a : Nat} (h : 40 < a) (ha : a < 2147483648) : (nI a ≤ 40) = False := n_nle h ha
theorem m_nler40 {a : Nat} (h : a < 40) : (40 ≤ nI a) = False := n_nle h (by decide)
theorem m_eq40 {a : Nat} (h : a = 40) : (nI a = 40) = True := n_eq h
theorem m_ne40 {a : Nat} (h : a < 40 ∨ 40 < a) (ha : a < 2147483648) : (nI a = 40) = False := n_ne h ha (by decide)
theorem m_re40 {a : Nat} (h : a < 40 ∨ 40 < a) (ha : a < 2147483648) : (40 = nI a) = False := n_ne (a := 40) h.symm (by decide) ha
theorem m_ad60 {a : Nat} : nI a + 60 = nI (a + 60) := nI_add a 60
theorem m_da60 {a : Nat} : 60 + nI a = nI (60 + a) := nI_add 60 a
theorem m_sb60 {a : Nat} (h : 60 ≤ a) : nI a - 60 = nI (a - 60) := n_sub h
theorem m_lt60 {a : Nat} (h : a < 60) : (nI a < 60) = True := n_lt h (by decide)
theorem m_ltr60 {a : Nat} (h : 60 < a) (ha : a < 2147483648) : (60 < nI a) = True := n_lt h ha
theorem m_nlt60 {a : Nat} (h : 60 ≤ a) (ha : a < 2147483648) : (nI a < 60) = False := n_nlt h ha
theorem m_nltr60 {a : Nat} (h : a ≤ 60) : (60 < nI a) = False := n_nlt h (by decide)
theorem m_le60 {a : Nat} (h : a ≤ 60) : (nI a ≤ 60) = True := n_le h (by decide)
theorem m_ler60 {a : Nat} (h : 60 ≤ a) (ha : a < 2147483648) : (60 ≤ nI a) = True := n_le h ha
theorem m_nle60 {a : Nat} (h : 60 < a) (ha : a < 2147483648) : (nI a ≤ 60) = False := n_nle h ha
theorem m_nler60 {a : Nat} (h : a < 60) : (60 ≤ nI a) = False := n_nle h (by decide)
theorem m_eq60 {a : Nat} (h : a = 60) : (nI a = 60) = True := n_eq h
theorem m_ne60 {a : Nat} (h : a < 60 ∨ 60 < a) (ha : a < 2147483648) : (nI a = 60) = False := n_ne h ha (by decide)
theorem m_re60 {a : Nat} (h : a < 60 ∨ 60 < a) (ha : a < 2147483648) : (60 = nI a) = False := n_ne (a := 60) h.symm (by decide) ha
theorem m_ad100 {a : Nat} : nI a + 100 = nI (a + 100) := nI_add a 100
theorem m_da100 {a : Nat} : 100 + nI a = nI (100 + a) := nI_add 100 a
theorem m_sb100 {a : Nat} (h : 100 ≤ a) : nI a - 100 = nI (a - 100) := n_sub h
theorem m_lt100 {a : Nat} (h : a < 100) : (nI a < 100) = True := n_lt h (by decide)
theorem m_ltr100 {a : Nat} (h : 100 < a) (ha : a < 2147483648) : (100 < nI a) = True := n_lt h ha
theorem m_nlt100 {a : Nat} (h : 100 ≤ a) (ha : a < 2147483648) : (nI a < 100) = False := n_nlt h ha
theorem m_nltr100 {a : Nat} (h : a ≤ 100) : (100 < nI a) = False := n_nlt h (by decide)
theorem m_le100 {a : Nat} (h : a ≤ 100) : (nI a ≤ 100) = True := n_le h (by decide)
theorem m_ler100 {a : Nat} (h : 100 ≤ a) (ha : a < 2147483648) : (100 ≤ nI a) = True := n_le h ha
theorem m_nle100 {a : Nat} (h : 100 < a) (ha : a < 2147483648) : (nI a ≤ 100) = False := n_nle h ha
theorem m_nler100 {a : Nat} (h : a < 100) : (100 ≤ nI a) = False := n_nle h (by decide)
theorem m_eq100 {a : Nat} (h : a = 100) : (nI a = 100) = True := n_eq h
theorem m_ne100 {a : Nat} (h : a < 100 ∨ 100 < a) (ha : a < 2147483648) : (nI a = 100) = False := n_ne h ha (by decide)
theorem m_re100 {a : Nat} (h : a < 100 ∨ 100 < a) (ha : a < 2147483648) : (100 = nI a) = False := n_ne (a := 100) h.symm (by decide) ha
theorem m_ad180 {a : Nat} : nI a + 180 = nI (a + 180) := nI_add a 180
theorem m_da180 {a : Nat} : 180 + nI a = nI (180 + a) := nI_add 180 a
theorem m_sb180 {a : Nat} (h : 180 ≤ a) : nI a - 180 = nI (a - 180) := n_sub h
theorem m_lt180 {a : Nat} (h : a < 180) : (nI a < 180) = True := n_lt h (by decide)
theorem m_ltr180 {a : Nat} (h : 180 < a) (ha : a < 2147483648) : (180 < nI a) = True := n_lt h ha
theorem m_nlt180 {a : Nat} (h : 180 ≤ a) (ha : a < 2147483648) : (nI a < 180) = False := n_nlt h ha
theorem m_nltr180 {a : Nat} (h : a ≤ 180) : (180 < nI a) = False := n_nlt h (by decide)
theorem m_le180 {a : Nat} (h : a ≤ 180) : (nI a ≤ 180) = True := n_le h (by decide)
theorem m_ler180 {a : Nat} (h : 180 ≤ a) (ha : a < 2147483648) : (180 ≤ nI a) = True := n_le h ha
theorem m_nle180 {a : Nat} (h : 180 < a) (ha : a < 2147483648) : (nI a ≤ 180) = False := n_nle h ha
theorem m_nler180 {a : Nat} (h : a < 180) : (180 ≤ nI a) = False := n_nle h (by decide)
theorem m_eq180 {a : Nat} (h : a = 180) : (nI a = 180) = True := n_eq h
theorem m_ne180 {a : Nat} (h : a < 180 ∨ 180 < a) (ha : a < 2147483648) : (nI a = 180) = False := n_ne h ha (by decide)
theorem m_re180 {a : Nat} (h : a < 180 ∨ 180 < a) (ha : a < 2147483648) : (180 = nI a) = False := n_ne (a := 180) h.symm (by decide) ha
theorem m_ad365 {a : Nat} : nI a + 365 = nI (a + 365) := nI_add a 365
theorem m_da365 {a : Nat} : 365 + nI a = nI (365 + a) := nI_add 365 a
theorem m_sb365 {a : Nat} (h : 365 ≤ a) : nI a - 365 = nI (a - 365) := n_sub h
theorem m_lt365 {a : Nat} (h : a < 365) : (nI a < 365) = True := n_lt h (by decide)
theorem m_ltr365 {a : Nat} (h : 365 < a) (ha : a < 2147483648) : (365 < nI a) = True := n_lt h ha
theorem m_nlt365 {a : Nat} (h : 365 ≤ a) (ha : a < 2147483648) : (nI a < 365) = False := n_nlt h ha
theorem m_nltr365 {a : Nat} (h : a ≤ 365) : (365 < nI a) = False := n_nlt h (by decide)
theorem m_le365 {a : Nat} (h : a ≤ 365) : (nI a ≤ 365) = True := n_le h (by decide)
theorem m_ler365 {a : Nat} (h : 365 ≤ a) (ha : a < 2147483648) : (365 ≤ nI a) = True := n_le h ha
theorem m_nle365 {a : Nat} (h : 365 < a) (ha : a < 2147483648) : (nI a ≤ 365) = False := n_nle h ha
theorem m_nler365 {a : Nat} (h : a < 365) : (365 ≤ nI a) = False := n_nle h (by decide)
theorem m_eq365 {a : Nat} (h : a = 365) : (nI a = 365) = True := n_eq h
theorem m_ne365 {a : Nat} (h : a < 365 ∨ 365 < a) (ha : a < 2147483648) : (nI a = 365) = False := n_ne h ha (by decide)
theorem m_re365 {a : Nat} (h : a < 365 ∨ 365 < a) (ha : a < 2147483648) : (365 = nI a) = False := n_ne (a := 365) h.symm (by decide) ha
theorem m_ad500 {a : Nat} : nI a + 500 = nI (a + 500) := nI_add a 500
theorem m_da500 {a : Nat} : 500 + nI a = nI (500 + a) := nI_add 500 a
theorem m_sb500 {a : Nat} (h : 500 ≤ a) : nI a - 500 = nI (a - 500) := n_sub h
theorem m_lt500 {a : Nat} (h : a < 500) : (nI a < 500) = True := n_lt h (by decide)
theorem m_ltr500 {a : Nat} (h : 500 < a) (ha : a < 2147483648) : (500 < nI a) = True := n_lt h ha
theorem m_nlt500 {a : Nat} (h : 500 ≤ a) (ha : a < 2147483648) : (nI a < 500) = False := n_nlt h ha
theorem m_nltr500 {a : Nat} (h : a ≤ 500) : (500 < nI a) = False := n_nlt h (by decide)
theorem m_le500 {a : Nat} (h : a ≤ 500) : (nI a ≤ 500) = True := n_le h (by decide)
theorem m_ler500 {a : Nat} (h : 500 ≤ a) (ha : a < 2147483648) : (500 ≤ nI a) = True := n_le h ha
theorem m_nle500 {a : Nat} (h : 500 < a) (ha : a < 2147483648) : (nI a ≤ 500) = False := n_nle h ha
theorem m_nler500 {a : Nat} (h : a < 500) : (500 ≤ nI a) = False := n_nle h (by decide)
theorem m_eq500 {a : Nat} (h : a = 500) : (nI a = 500) = True := n_eq h
theorem m_ne500 {a : Nat} (h : a < 500 ∨ 500 < a) (ha : a < 2147483648) : (nI a = 500) = False := n_ne h ha (by decide)
theorem m_re500 {a : Nat} (h : a < 500 ∨ 500 < a) (ha : a < 2147483648) : (500 = nI a) = False := n_ne (a := 500) h.symm (by decide) ha
theorem m_ad999 {a : Nat} : nI a + 999 = nI (a + 999) := nI_add a 999
theorem m_da999 {a : Nat} : 999 + nI a = nI (999 + a) := nI_add 999 a
theorem m_sb999 {a : Nat} (h : 999 ≤ a) : nI a - 999 = nI (a - 999) := n_sub h
theorem m_lt999 {a : Nat} (h : a < 999) : (nI a < 999) = True := n_lt h (by decide)
theorem m_ltr999 {a : Nat} (h : 999 < a) (ha : a < 2147483648) : (999 < nI a) = True := n_lt h ha
theorem m_nlt999 {a : Nat} (h : 999 ≤ a) (ha : a < 2147483648) : (nI a < 999) = False := n_nlt h ha
theorem m_nltr999 {a : Nat} (h : a ≤ 999) : (999 < nI a) = False := n_nlt h (by decide)
theorem m_le999 {a : Nat} (h : a ≤ 999) : (nI a ≤ 999) = True := n_le h (by decide)
theorem m_ler999 {a : Nat} (h : 999 ≤ a) (ha : a < 2147483648) : (999 ≤ nI a) = True := n_le h ha
theorem m_nle999 {a : Nat} (h : 999 < a) (ha : a < 2147483648) : (nI a ≤ 999) = False := n_nle h ha
theorem m_nler999 {a : Nat} (h : a < 999) : (999 ≤ nI a) = False := n_nle h (by decide)
theorem m_eq999 {a : Nat} (h : a = 999) : (nI a = 999) = True := n_eq h
theorem m_ne999 {a : Nat} (h : a < 999 ∨ 999 < a) (ha : a < 2147483648) : (nI a = 999) = False := n_ne h ha (by decide)
theorem m_re999 {a : Nat} (h : a < 999 ∨ 999 < a) (ha : a < 2147483648) : (999 = nI a) = False := n_ne (a := 999) h.symm (by decide) ha
theorem m_ad1024 {a : Nat} : nI a + 1024 = nI (a + 1024) := nI_add a 1024
theorem m_da1024 {a : Nat} : 1024 + nI a = nI (1024 + a) := nI_add 1024 a
theorem m_sb1024 {a : Nat} (h : 1024 ≤ a) : nI a - 1024 = nI (a - 1024) := n_sub h
theorem m_lt1024 {a : Nat} (h : a < 1024) : (nI a < 1024) = True := n_lt h (by decide)
theorem m_ltr1024 {a : Nat} (h : 1024 < a) (ha : a < 2147483648) : (1024 < nI a) = True := n_lt h ha
theorem m_nlt1024 {a : Nat} (h : 1024 ≤ a) (ha : a < 2147483648) : (nI a < 1024) = False := n_nlt h ha
theorem m_nltr1024 {a : Nat} (h : a ≤ 1024) : (1024 < nI a) = False := n_nlt h (by decide)
theorem m_le1024 {a : Nat} (h : a ≤ 1024) : (nI a ≤ 1024) = True := n_le h (by decide)
theorem m_ler1024 {a : Nat} (h : 1024 ≤ a) (ha : a < 2147483648) : (1024 ≤ nI a) = True := n_le h ha
theorem m_nle1024 {a : Nat} (h : 1024 < a) (ha : a < 2147483648) : (nI a ≤ 1024) = False := n_nle h ha
theorem m_nler1024 {a : Nat} (h : a < 1024) : (1024 ≤ nI a) = False := n_nle h (by decide)
theorem m_eq1024 {a : Nat} (h : a = 1024) : (nI a = 1024) = True := n_eq h
theorem m_ne1024 {a : Nat} (h : a < 1024 ∨ 1024 < a) (ha : a < 2147483648) : (nI a = 1024) = False := n_ne h ha (by decide)
theorem m_re1024 {a : Nat} (h : a < 1024 ∨ 1024 < a) (ha : a < 2147483648) : (1024 = nI a) = False := n_ne (a := 1024) h.symm (by decide) ha
theorem m_ad4096 {a : Nat} : nI a + 4096 = nI (a + 4096) := nI_add a 4096
theorem m_da4096 {a : Nat} : 4096 + nI a = nI (4096 + a) := nI_add 4096 a
theorem m_sb4096 {a : Nat} (h : 4096 ≤ a) : nI a - 4096 = nI (a - 4096) := n_sub h
theorem m_lt4096 {a : Nat} (h : a < 4096) : (nI a < 4096) = True := n_lt h (by decide)
theorem m_ltr4096 {a : Nat} (h : 4096 < a) (ha : a < 2147483648) : (4096 < nI a) = True := n_lt h ha
theorem m_nlt4096 {a : Nat} (h : 4096 ≤ a) (ha : a < 2147483648) : (nI a < 4096) = False := n_nlt h ha
theorem m_nltr4096 {a : Nat} (h : a ≤ 4096) : (4096 < nI a) = False := n_nlt h (by decide)
theorem m_le4096 {a : Nat} (h : a ≤ 4096) : (nI a ≤ 4096) = True := n_le h (by decide)
theorem m_ler4096 {a : Nat} (h : 4096 ≤ a) (ha : a < 2147483648) : (4096 ≤ nI a) = True := n_le h ha
theorem m_nle4096 {a : Nat} (h : 4096 < a) (ha : a < 2147483648) : (nI a ≤ 4096) = False := n_nle h ha
theorem m_nler4096 {a : Nat} (h : a < 4096) : (4096 ≤ nI a) = False := n_nle h (by decide)
theorem m_eq4096 {a : Nat} (h : a = 4096) : (nI a = 4096) = True := n_eq h
theorem m_ne4096 {a : Nat} (h : a < 4096 ∨ 4096 < a) (ha : a < 2147483648) : (nI a = 4096) = False := n_ne h ha (by decide)
theorem m_re4096 {a : Nat} (h : a < 4096 ∨ 4096 < a) (ha : a < 2147483648) : (4096 = nI a) = False := n_ne (a := 4096) h.symm (by decide) ha
theorem m_ad32850 {a : Nat} : nI a + 32850 = nI (a + 32850) := nI_add a 32850
theorem m_da32850 {a : Nat} : 32850 + nI a = nI (32850 + a) := nI_add 32850 a
theorem m_sb32850 {a : Nat} (h : 32850 ≤ a) : nI a - 32850 = nI (a - 32850) := n_sub h
theorem m_lt32850 {a : Nat} (h : a < 32850) : (nI a < 32850) = True := n_lt h (by decide)
theorem m_ltr32850 {a : Nat} (h : 32850 < a) (ha : a < 2147483648) : (32850 < nI a) = True := n_lt h ha
theorem m_nlt32850 {a : Nat} (h : 32850 ≤ a) (ha : a < 2147483648) : (nI a < 32850) = False := n_nlt h ha
theorem m_nltr32850 {a : Nat} (h : a ≤ 32850) : (32850 < nI a) = False := n_nlt h (by decide)
theorem m_le32850 {a : Nat} (h : a ≤ 32850) : (nI a ≤ 32850) = True := n_le h (by decide)
theorem m_ler32850 {a : Nat} (h : 32850 ≤ a) (ha : a < 2147483648) : (32850 ≤ nI a) = True := n_le h ha
theorem m_nle32850 {a : Nat} (h : 32850 < a) (ha : a < 2147483648) : (nI a ≤ 32850) = False := n_nle h ha
theorem m_nler32850 {a : Nat} (h : a < 32850) : (32850 ≤ nI a) = False := n_nle h (by decide)
theorem m_eq32850 {a : Nat} (h : a = 32850) : (nI a = 32850) = True := n_eq h
theorem m_ne32850 {a : Nat} (h : a < 32850 ∨ 32850 < a) (ha : a < 2147483648) : (nI a = 32850) = False := n_ne h ha (by decide)
theorem m_re32850 {a : Nat} (h : a < 32850 ∨ 32850 < a) (ha : a < 2147483648) : (32850 = nI a) = False := n_ne (a := 32850) h.symm (by decide) ha
theorem m_ad73000 {a : Nat} : nI a + 73000 = nI (a + 73000) := nI_add a 73000
theorem m_da73000 {a : Nat} : 73000 + nI a = nI (73000 + a) := nI_add 73000 a
theorem m_sb73000 {a : Nat} (h : 73000 ≤ a) : nI a - 73000 = nI (a - 73000) := n_sub h
theorem m_lt73000 {a : Nat} (h : a < 73000) : (nI a < 73000) = True := n_lt h (by decide)
theorem m_ltr73000 {a : Nat} (h : 73000 < a) (ha : a < 2147483648) : (73000 < nI a) = True := n_lt h ha
theorem m_nlt73000 {a : Nat} (h : 73000 ≤ a) (ha : a < 2147483648) : (nI a < 73000) = False := n_nlt h ha
theorem m_nltr73000 {a : Nat} (h : a ≤ 73000) : (73000 < nI a) = False := n_nlt h (by decide)
theorem m_le73000 {a : Nat} (h : a ≤ 73000) : (nI a ≤ 73000) = True := n_le h (by decide)
theorem m_ler73000 {a : Nat} (h : 73000 ≤ a) (ha : a < 2147483648) : (73000 ≤ nI a) = True := n_le h ha
theorem m_nle73000 {a : Nat} (h : 73000 < a) (ha : a < 2147483648) : (nI a ≤ 73000) = False := n_nle h ha
theorem m_nler73000 {a : Nat} (h : a < 73000) : (73000 ≤ nI a) = False := n_nle h (by decide)
theorem m_eq73000 {a : Nat} (h : a = 73000) : (nI a = 73000) = True := n_eq h
theorem m_ne73000 {a : Nat} (h : a < 73000 ∨ 73000 < a) (ha : a < 2147483648) : (nI a = 73000) = False := n_ne h ha (by decide)
theorem m_re73000 {a : Nat} (h : a < 73000 ∨ 73000 < a) (ha : a < 2147483648) : (73000 = nI a) = False := n_ne (a := 73000) h.symm (by decide) ha
theorem m_ad100000 {a : Nat} : nI a + 100000 = nI (a + 100000) := nI_add a 100000
theorem m_da100000 {a : Nat} : 100000 + nI a = nI (100000 + a) := nI_add 100000 a
theorem m_sb100000 {a : Nat} (h : 100000 ≤ a) : nI a - 100000 = nI (a - 100000) := n_sub h
theorem m_lt100000 {a : Nat} (h : a < 100000) : (nI a < 100000) = True := n_lt h (by decide)
theorem m_ltr100000 {a : Nat} (h : 100000 < a) (ha : a < 2147483648) : (100000 < nI a) = True := n_lt h ha
theorem m_nlt100000 {a : Nat} (h : 100000 ≤ a) (ha : a < 2147483648) : (nI a < 100000) = False := n_nlt h ha
theorem m_nltr100000 {a : Nat} (h : a ≤ 100000) : (100000 < nI a) = False := n_nlt h (by decide)
theorem m_le100000 {a : Nat} (h : a ≤ 100000) : (nI a ≤ 100000) = True := n_le h (by decide)
theorem m_ler100000 {a : Nat} (h : 100000 ≤ a) (ha : a < 2147483648) : (100000 ≤ nI a) = True := n_le h ha
theorem m_nle100000 {a : Nat} (h : 100000 < a) (ha : a < 2147483648) : (nI a ≤ 100000) = False := n_nle h ha
theorem m_nler100000 {a : Nat} (h : a < 100000) : (100000 ≤ nI a) = False := n_nle h (by decide)
theorem m_eq100000 {a : Nat} (h : a = 100000) : (nI a = 100000) = True := n_eq h
theorem m_ne100000 {a : Nat} (h : a < 100000 ∨ 100000 < a) (ha : a < 2147483648) : (nI a = 100000) = False := n_ne h ha (by decide)
theorem m_re100000 {a : Nat} (h : a < 100000 ∨ 100000 < a) (ha : a < 2147483648) : (100000 = nI a) = False := n_ne (a := 100000) h.symm (by decide) ha
theorem m_nh1 {a : Nat} (ha : a < 2147483648) : (nI a ≤ -1) = False := eq_false (fun e => nI_pos ha (Int32.lt_of_le_of_lt e (by decide)))
theorem m_ni1 {a : Nat} (ha : a < 2147483648) : (-1 ≤ nI a) = True := eq_true (Int32.le_trans (show (-1 : Int32) ≤ 0 by decide) (nI_pos' ha))
theorem m_ng1 {a : Nat} (ha : a < 2147483648) : (nI a = -1) = False := eq_false (fun e => nI_pos ha (by rw [e]; decide))
theorem m_nh2 {a : Nat} (ha : a < 2147483648) : (nI a ≤ -2) = False := eq_false (fun e => nI_pos ha (Int32.lt_of_le_of_lt e (by decide)))
theorem m_ni2 {a : Nat} (ha : a < 2147483648) : (-2 ≤ nI a) = True := eq_true (Int32.le_trans (show (-2 : Int32) ≤ 0 by decide) (nI_pos' ha))
theorem m_ng2 {a : Nat} (ha : a < 2147483648) : (nI a = -2) = False := eq_false (fun e => nI_pos ha (by rw [e]; decide))
theorem m_nh3 {a : Nat} (ha : a < 2147483648) : (nI a ≤ -3) = False := eq_false (fun e => nI_pos ha (Int32.lt_of_le_of_lt e (by decide)))
theorem m_ni3 {a : Nat} (ha : a < 2147483648) : (-3 ≤ nI a) = True := eq_true (Int32.le_trans (show (-3 : Int32) ≤ 0 by decide) (nI_pos' ha))
theorem m_ng3 {a : Nat} (ha : a < 2147483648) : (nI a = -3) = False := eq_false (fun e => nI_pos ha (by rw [e]; decide))
theorem m_nh4 {a : Nat} (ha : a < 2147483648) : (nI a ≤ -4) = False := eq_false (fun e => nI_pos ha (Int32.lt_of_le_of_lt e (by decide)))
theorem m_ni4 {a : Nat} (ha : a < 2147483648) : (-4 ≤ nI a) = True := eq_true (Int32.le_trans (show (-4 : Int32) ≤ 0 by decide) (nI_pos' ha))
theorem m_ng4 {a : Nat} (ha : a < 2147483648) : (nI a = -4) = False := eq_false (fun e => nI_pos ha (by rw [e]; decide))
theorem m_nh5 {a : Nat} (ha : a < 2147483648) : (nI a ≤ -5) = False := eq_false (fun e => nI_pos ha (Int32.lt_of_le_of_lt e (by decide)))
theorem m_ni5 {a : Nat} (ha : a < 2147483648) : (-5 ≤ nI a) = True := eq_true (Int32.le_trans (show (-5 : Int32) ≤ 0 by decide) (nI_pos' ha))
theorem m_ng5 {a : Nat} (ha : a < 2147483648) : (nI a = -5) = False := eq_false (fun e => nI_pos ha (by rw [e]; decide))
theorem m_nh6 {a : Nat} (ha : a < 2147483648) : (nI a ≤ -6) = False := eq_false (fun e => nI_pos ha (Int32.lt_of_le_of_lt e (by decide)))
theorem m_ni6 {a : Nat} (ha : a < 2147483648) : (-6 ≤ nI a) = True := eq_true (Int32.le_trans (show (-6 : Int32) ≤ 0 by decide) (nI_pos' ha))
theorem m_ng6 {a : Nat} (ha : a < 2147483648) : (nI a = -6) = False := eq_false (fun e => nI_pos ha (by rw [e]; decide))

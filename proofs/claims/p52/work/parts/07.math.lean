/-! the machine library's own. By program (wip/gen) out of the bytecode: vc_KEY: what must hold of a call; ct_KEY: then the machine does it. -/
def rm_J9_max_7cf53 : Room := { frames := 0, cells := 0, slots := 0, locals := 0 }
theorem dJ9_max_7cf53_0 : decode cJ9_max_7cf53 0 = .ok (.iload_n 0, 1) := by decide +kernel
theorem dJ9_max_7cf53_1 : decode cJ9_max_7cf53 1 = .ok (.iload_n 1, 1) := by decide +kernel
theorem dJ9_max_7cf53_2 : decode cJ9_max_7cf53 2 = .ok (.if_icmp .lt 7, 3) := by decide +kernel
theorem dJ9_max_7cf53_5 : decode cJ9_max_7cf53 5 = .ok (.iload_n 0, 1) := by decide +kernel
theorem dJ9_max_7cf53_6 : decode cJ9_max_7cf53 6 = .ok (.goto 4, 3) := by decide +kernel
theorem dJ9_max_7cf53_9 : decode cJ9_max_7cf53 9 = .ok (.iload_n 1, 1) := by decide +kernel
theorem dJ9_max_7cf53_10 : decode cJ9_max_7cf53 10 = .ok (.ireturn, 1) := by decide +kernel
def vc_J9_max_7cf53 (l0 : Int32) (l1 : Int32) (M : mj_M) (post : Int32 → mj_M → Prop) : Prop := if l0 < l1 then (post l1 M) else (post l0 M)
set_option maxHeartbeats 4000000 in
set_option maxRecDepth 100000 in
theorem ct_J9_max_7cf53 {l : Launch} {base : Nat} {D : va_G} {A : mj_AT} (l0 : Int32) (l1 : Int32) (M : mj_M) (post : Int32 → mj_M → Prop) (h : vc_J9_max_7cf53 l0 l1 M post) : mj_Met l base D A mj_jI yJ9_max_7cf53 cJ9_max_7cf53 2 (some .int) rm_J9_max_7cf53 0 0 [vI l0, vI l1] M post := by
  refine mj_entry (by decide +kernel) (Nat.le_of_ble_eq_true rfl) (fun g hC hE h1 h2 h3 h4 => ?_)
  show mj_X g 0 [(0, vI l0), (1, vI l1)] [] M 0 0
  simp only [vc_J9_max_7cf53] at h
  refine mx_iload_n (j := 0) hC dJ9_max_7cf53_0 rfl rfl ?_
  refine mx_iload_n (j := 1) hC dJ9_max_7cf53_1 rfl rfl ?_
  refine mx_icmplt (tgt := 9) hC dJ9_max_7cf53_2 (by decide) (fun hc1 => ?_) (fun hc1 => ?_)
  · replace h := mj_yy hc1 h
    refine mx_iload_n (j := 1) hC dJ9_max_7cf53_9 rfl rfl ?_
    exact mx_iret hC hE rfl dJ9_max_7cf53_10 h
  · replace h := mj_nn hc1 h
    refine mx_iload_n (j := 0) hC dJ9_max_7cf53_5 rfl rfl ?_
    refine mx_goto (tgt := 10) hC dJ9_max_7cf53_6 (by decide) ?_
    exact mx_iret hC hE rfl dJ9_max_7cf53_10 h
def rm_J9_min_7cf53 : Room := { frames := 0, cells := 0, slots := 0, locals := 0 }
theorem dJ9_min_7cf53_0 : decode cJ9_min_7cf53 0 = .ok (.iload_n 0, 1) := by decide +kernel
theorem dJ9_min_7cf53_1 : decode cJ9_min_7cf53 1 = .ok (.iload_n 1, 1) := by decide +kernel
theorem dJ9_min_7cf53_2 : decode cJ9_min_7cf53 2 = .ok (.if_icmp .gt 7, 3) := by decide +kernel
theorem dJ9_min_7cf53_5 : decode cJ9_min_7cf53 5 = .ok (.iload_n 0, 1) := by decide +kernel
theorem dJ9_min_7cf53_6 : decode cJ9_min_7cf53 6 = .ok (.goto 4, 3) := by decide +kernel
theorem dJ9_min_7cf53_9 : decode cJ9_min_7cf53 9 = .ok (.iload_n 1, 1) := by decide +kernel
theorem dJ9_min_7cf53_10 : decode cJ9_min_7cf53 10 = .ok (.ireturn, 1) := by decide +kernel
def vc_J9_min_7cf53 (l0 : Int32) (l1 : Int32) (M : mj_M) (post : Int32 → mj_M → Prop) : Prop := if l1 < l0 then (post l1 M) else (post l0 M)
set_option maxHeartbeats 4000000 in
set_option maxRecDepth 100000 in
theorem ct_J9_min_7cf53 {l : Launch} {base : Nat} {D : va_G} {A : mj_AT} (l0 : Int32) (l1 : Int32) (M : mj_M) (post : Int32 → mj_M → Prop) (h : vc_J9_min_7cf53 l0 l1 M post) : mj_Met l base D A mj_jI yJ9_min_7cf53 cJ9_min_7cf53 2 (some .int) rm_J9_min_7cf53 0 0 [vI l0, vI l1] M post := by
  refine mj_entry (by decide +kernel) (Nat.le_of_ble_eq_true rfl) (fun g hC hE h1 h2 h3 h4 => ?_)
  show mj_X g 0 [(0, vI l0), (1, vI l1)] [] M 0 0
  simp only [vc_J9_min_7cf53] at h
  refine mx_iload_n (j := 0) hC dJ9_min_7cf53_0 rfl rfl ?_
  refine mx_iload_n (j := 1) hC dJ9_min_7cf53_1 rfl rfl ?_
  refine mx_icmpgt (tgt := 9) hC dJ9_min_7cf53_2 (by decide) (fun hc1 => ?_) (fun hc1 => ?_)
  · replace h := mj_yy hc1 h
    refine mx_iload_n (j := 1) hC dJ9_min_7cf53_9 rfl rfl ?_
    exact mx_iret hC hE rfl dJ9_min_7cf53_10 h
  · replace h := mj_nn hc1 h
    refine mx_iload_n (j := 0) hC dJ9_min_7cf53_5 rfl rfl ?_
    refine mx_goto (tgt := 10) hC dJ9_min_7cf53_6 (by decide) ?_
    exact mx_iret hC hE rfl dJ9_min_7cf53_10 h
def rm_J9_max_f86c9 : Room := { frames := 0, cells := 0, slots := 0, locals := 0 }
theorem dJ9_max_f86c9_0 : decode cJ9_max_f86c9 0 = .ok (.lload_n 0, 1) := by decide +kernel
theorem dJ9_max_f86c9_1 : decode cJ9_max_f86c9 1 = .ok (.lload_n 2, 1) := by decide +kernel
theorem dJ9_max_f86c9_2 : decode cJ9_max_f86c9 2 = .ok (.lcmp, 1) := by decide +kernel
theorem dJ9_max_f86c9_3 : decode cJ9_max_f86c9 3 = .ok (.ifCond .lt 7, 3) := by decide +kernel
theorem dJ9_max_f86c9_6 : decode cJ9_max_f86c9 6 = .ok (.lload_n 0, 1) := by decide +kernel
theorem dJ9_max_f86c9_7 : decode cJ9_max_f86c9 7 = .ok (.goto 4, 3) := by decide +kernel
theorem dJ9_max_f86c9_10 : decode cJ9_max_f86c9 10 = .ok (.lload_n 2, 1) := by decide +kernel
theorem dJ9_max_f86c9_11 : decode cJ9_max_f86c9 11 = .ok (.lreturn, 1) := by decide +kernel
def vc_J9_max_f86c9 (l0 : Int64) (l2 : Int64) (M : mj_M) (post : Int64 → mj_M → Prop) : Prop := if (lg_cmp l0 l2) < 0 then (post l2 M) else (post l0 M)
set_option maxHeartbeats 4000000 in
set_option maxRecDepth 100000 in
theorem ct_J9_max_f86c9 {l : Launch} {base : Nat} {D : va_G} {A : mj_AT} (l0 : Int64) (l2 : Int64) (M : mj_M) (post : Int64 → mj_M → Prop) (h : vc_J9_max_f86c9 l0 l2 M post) : mj_Met l base D A mj_jL yJ9_max_f86c9 cJ9_max_f86c9 4 (some .long) rm_J9_max_f86c9 0 0 [vL l0, vL l2] M post := by
  refine mj_entry (by decide +kernel) (Nat.le_of_ble_eq_true rfl) (fun g hC hE h1 h2 h3 h4 => ?_)
  show mj_X g 0 [(0, vL l0), (2, vL l2)] [] M 0 0
  simp only [vc_J9_max_f86c9] at h
  refine mx_lload_n (j := 0) hC dJ9_max_f86c9_0 rfl rfl ?_
  refine mx_lload_n (j := 1) hC dJ9_max_f86c9_1 rfl rfl ?_
  refine mx_lcmp hC dJ9_max_f86c9_2 ?_
  refine mx_iflt (tgt := 10) hC dJ9_max_f86c9_3 (by decide) (fun hc1 => ?_) (fun hc1 => ?_)
  · replace h := mj_yy hc1 h
    refine mx_lload_n (j := 1) hC dJ9_max_f86c9_10 rfl rfl ?_
    exact mx_lret hC hE rfl dJ9_max_f86c9_11 h
  · replace h := mj_nn hc1 h
    refine mx_lload_n (j := 0) hC dJ9_max_f86c9_6 rfl rfl ?_
    refine mx_goto (tgt := 11) hC dJ9_max_f86c9_7 (by decide) ?_
    exact mx_lret hC hE rfl dJ9_max_f86c9_11 h
theorem tw685 : (Jvm.Cond.constant "java/lang/Integer" (265 : Nat) (1431655765 : Int32)) ∈ mj_tbl := mj_w 691 (by decide +kernel) (by decide +kernel)
theorem tw686 : (Jvm.Cond.constant "java/lang/Integer" (266 : Nat) (858993459 : Int32)) ∈ mj_tbl := mj_w 692 (by decide +kernel) (by decide +kernel)
theorem tw687 : (Jvm.Cond.constant "java/lang/Integer" (267 : Nat) (252645135 : Int32)) ∈ mj_tbl := mj_w 693 (by decide +kernel) (by decide +kernel)
def rm_J6_bitCount_0f7a4 : Room := { frames := 0, cells := 0, slots := 0, locals := 0 }
theorem dJ6_bitCount_0f7a4_0 : decode cJ6_bitCount_0f7a4 0 = .ok (.iload_n 0, 1) := by decide +kernel
theorem dJ6_bitCount_0f7a4_1 : decode cJ6_bitCount_0f7a4 1 = .ok (.iload_n 0, 1) := by decide +kernel
theorem dJ6_bitCount_0f7a4_2 : decode cJ6_bitCount_0f7a4 2 = .ok (.iconst 1, 1) := by decide +kernel
theorem dJ6_bitCount_0f7a4_3 : decode cJ6_bitCount_0f7a4 3 = .ok (.iushr, 1) := by decide +kernel
theorem dJ6_bitCount_0f7a4_4 : decode cJ6_bitCount_0f7a4 4 = .ok (.ldc_w 265, 3) := by decide +kernel
theorem dJ6_bitCount_0f7a4_7 : decode cJ6_bitCount_0f7a4 7 = .ok (.iand, 1) := by decide +kernel
theorem dJ6_bitCount_0f7a4_8 : decode cJ6_bitCount_0f7a4 8 = .ok (.isub, 1) := by decide +kernel
theorem dJ6_bitCount_0f7a4_9 : decode cJ6_bitCount_0f7a4 9 = .ok (.istore_n 0, 1) := by decide +kernel
theorem dJ6_bitCount_0f7a4_10 : decode cJ6_bitCount_0f7a4 10 = .ok (.iload_n 0, 1) := by decide +kernel
theorem dJ6_bitCount_0f7a4_11 : decode cJ6_bitCount_0f7a4 11 = .ok (.ldc_w 266, 3) := by decide +kernel
theorem dJ6_bitCount_0f7a4_14 : decode cJ6_bitCount_0f7a4 14 = .ok (.iand, 1) := by decide +kernel
theorem dJ6_bitCount_0f7a4_15 : decode cJ6_bitCount_0f7a4 15 = .ok (.iload_n 0, 1) := by decide +kernel
theorem dJ6_bitCount_0f7a4_16 : decode cJ6_bitCount_0f7a4 16 = .ok (.iconst 2, 1) := by decide +kernel
theorem dJ6_bitCount_0f7a4_17 : decode cJ6_bitCount_0f7a4 17 = .ok (.iushr, 1) := by decide +kernel
theorem dJ6_bitCount_0f7a4_18 : decode cJ6_bitCount_0f7a4 18 = .ok (.ldc_w 266, 3) := by decide +kernel
theorem dJ6_bitCount_0f7a4_21 : decode cJ6_bitCount_0f7a4 21 = .ok (.iand, 1) := by decide +kernel
theorem dJ6_bitCount_0f7a4_22 : decode cJ6_bitCount_0f7a4 22 = .ok (.iadd, 1) := by decide +kernel
theorem dJ6_bitCount_0f7a4_23 : decode cJ6_bitCount_0f7a4 23 = .ok (.istore_n 0, 1) := by decide +kernel
theorem dJ6_bitCount_0f7a4_24 : decode cJ6_bitCount_0f7a4 24 = .ok (.iload_n 0, 1) := by decide +kernel
theorem dJ6_bitCount_0f7a4_25 : decode cJ6_bitCount_0f7a4 25 = .ok (.iload_n 0, 1) := by decide +kernel
theorem dJ6_bitCount_0f7a4_26 : decode cJ6_bitCount_0f7a4 26 = .ok (.iconst 4, 1) := by decide +kernel
theorem dJ6_bitCount_0f7a4_27 : decode cJ6_bitCount_0f7a4 27 = .ok (.iushr, 1) := by decide +kernel
theorem dJ6_bitCount_0f7a4_28 : decode cJ6_bitCount_0f7a4 28 = .ok (.iadd, 1) := by decide +kernel
theorem dJ6_bitCount_0f7a4_29 : decode cJ6_bitCount_0f7a4 29 = .ok (.ldc_w 267, 3) := by decide +kernel
theorem dJ6_bitCount_0f7a4_32 : decode cJ6_bitCount_0f7a4 32 = .ok (.iand, 1) := by decide +kernel
theorem dJ6_bitCount_0f7a4_33 : decode cJ6_bitCount_0f7a4 33 = .ok (.istore_n 0, 1) := by decide +kernel
theorem dJ6_bitCount_0f7a4_34 : decode cJ6_bitCount_0f7a4 34 = .ok (.iload_n 0, 1) := by decide +kernel
theorem dJ6_bitCount_0f7a4_35 : decode cJ6_bitCount_0f7a4 35 = .ok (.iload_n 0, 1) := by decide +kernel
theorem dJ6_bitCount_0f7a4_36 : decode cJ6_bitCount_0f7a4 36 = .ok (.bipush 8, 2) := by decide +kernel
theorem dJ6_bitCount_0f7a4_38 : decode cJ6_bitCount_0f7a4 38 = .ok (.iushr, 1) := by decide +kernel
theorem dJ6_bitCount_0f7a4_39 : decode cJ6_bitCount_0f7a4 39 = .ok (.iadd, 1) := by decide +kernel
theorem dJ6_bitCount_0f7a4_40 : decode cJ6_bitCount_0f7a4 40 = .ok (.istore_n 0, 1) := by decide +kernel
theorem dJ6_bitCount_0f7a4_41 : decode cJ6_bitCount_0f7a4 41 = .ok (.iload_n 0, 1) := by decide +kernel
theorem dJ6_bitCount_0f7a4_42 : decode cJ6_bitCount_0f7a4 42 = .ok (.iload_n 0, 1) := by decide +kernel
theorem dJ6_bitCount_0f7a4_43 : decode cJ6_bitCount_0f7a4 43 = .ok (.bipush 16, 2) := by decide +kernel
theorem dJ6_bitCount_0f7a4_45 : decode cJ6_bitCount_0f7a4 45 = .ok (.iushr, 1) := by decide +kernel
theorem dJ6_bitCount_0f7a4_46 : decode cJ6_bitCount_0f7a4 46 = .ok (.iadd, 1) := by decide +kernel
theorem dJ6_bitCount_0f7a4_47 : decode cJ6_bitCount_0f7a4 47 = .ok (.istore_n 0, 1) := by decide +kernel
theorem dJ6_bitCount_0f7a4_48 : decode cJ6_bitCount_0f7a4 48 = .ok (.iload_n 0, 1) := by decide +kernel
theorem dJ6_bitCount_0f7a4_49 : decode cJ6_bitCount_0f7a4 49 = .ok (.bipush 63, 2) := by decide +kernel
theorem dJ6_bitCount_0f7a4_51 : decode cJ6_bitCount_0f7a4 51 = .ok (.iand, 1) := by decide +kernel
theorem dJ6_bitCount_0f7a4_52 : decode cJ6_bitCount_0f7a4 52 = .ok (.ireturn, 1) := by decide +kernel
def vc_J6_bitCount_0f7a4 (l0 : Int32) (M : mj_M) (post : Int32 → mj_M → Prop) : Prop := post ((((((((l0 - ((((l0 : Int32).toUInt32 >>> ((1 : Int32).toUInt32 &&& Int32.toUInt32 31)).toInt32) &&& 1431655765)) &&& 858993459) + (((((l0 - ((((l0 : Int32).toUInt32 >>> ((1 : Int32).toUInt32 &&& Int32.toUInt32 31)).toInt32) &&& 1431655765)) : Int32).toUInt32 >>> ((2 : Int32).toUInt32 &&& Int32.toUInt32 31)).toInt32) &&& 858993459)) + ((((((l0 - ((((l0 : Int32).toUInt32 >>> ((1 : Int32).toUInt32 &&& Int32.toUInt32 31)).toInt32) &&& 1431655765)) &&& 858993459) + (((((l0 - ((((l0 : Int32).toUInt32 >>> ((1 : Int32).toUInt32 &&& Int32.toUInt32 31)).toInt32) &&& 1431655765)) : Int32).toUInt32 >>> ((2 : Int32).toUInt32 &&& Int32.toUInt32 31)).toInt32) &&& 858993459)) : Int32).toUInt32 >>> ((4 : Int32).toUInt32 &&& Int32.toUInt32 31)).toInt32)) &&& 252645135) + ((((((((l0 - ((((l0 : Int32).toUInt32 >>> ((1 : Int32).toUInt32 &&& Int32.toUInt32 31)).toInt32) &&& 1431655765)) &&& 858993459) + (((((l0 - ((((l0 : Int32).toUInt32 >>> ((1 : Int32).toUInt32 &&& Int32.toUInt32 31)).toInt32) &&& 1431655765)) : Int32).toUInt32 >>> ((2 : Int32).toUInt32 &&& Int32.toUInt32 31)).toInt32) &&& 858993459)) + ((((((l0 - ((((l0 : Int32).toUInt32 >>> ((1 : Int32).toUInt32 &&& Int32.toUInt32 31)).toInt32) &&& 1431655765)) &&& 858993459) + (((((l0 - ((((l0 : Int32).toUInt32 >>> ((1 : Int32).toUInt32 &&& Int32.toUInt32 31)).toInt32) &&& 1431655765)) : Int32).toUInt32 >>> ((2 : Int32).toUInt32 &&& Int32.toUInt32 31)).toInt32) &&& 858993459)) : Int32).toUInt32 >>> ((4 : Int32).toUInt32 &&& Int32.toUInt32 31)).toInt32)) &&& 252645135) : Int32).toUInt32 >>> ((8 : Int32).toUInt32 &&& Int32.toUInt32 31)).toInt32)) + (((((((((l0 - ((((l0 : Int32).toUInt32 >>> ((1 : Int32).toUInt32 &&& Int32.toUInt32 31)).toInt32) &&& 1431655765)) &&& 858993459) + (((((l0 - ((((l0 : Int32).toUInt32 >>> ((1 : Int32).toUInt32 &&& Int32.toUInt32 31)).toInt32) &&& 1431655765)) : Int32).toUInt32 >>> ((2 : Int32).toUInt32 &&& Int32.toUInt32 31)).toInt32) &&& 858993459)) + ((((((l0 - ((((l0 : Int32).toUInt32 >>> ((1 : Int32).toUInt32 &&& Int32.toUInt32 31)).toInt32) &&& 1431655765)) &&& 858993459) + (((((l0 - ((((l0 : Int32).toUInt32 >>> ((1 : Int32).toUInt32 &&& Int32.toUInt32 31)).toInt32) &&& 1431655765)) : Int32).toUInt32 >>> ((2 : Int32).toUInt32 &&& Int32.toUInt32 31)).toInt32) &&& 858993459)) : Int32).toUInt32 >>> ((4 : Int32).toUInt32 &&& Int32.toUInt32 31)).toInt32)) &&& 252645135) + ((((((((l0 - ((((l0 : Int32).toUInt32 >>> ((1 : Int32).toUInt32 &&& Int32.toUInt32 31)).toInt32) &&& 1431655765)) &&& 858993459) + (((((l0 - ((((l0 : Int32).toUInt32 >>> ((1 : Int32).toUInt32 &&& Int32.toUInt32 31)).toInt32) &&& 1431655765)) : Int32).toUInt32 >>> ((2 : Int32).toUInt32 &&& Int32.toUInt32 31)).toInt32) &&& 858993459)) + ((((((l0 - ((((l0 : Int32).toUInt32 >>> ((1 : Int32).toUInt32 &&& Int32.toUInt32 31)).toInt32) &&& 1431655765)) &&& 858993459) + (((((l0 - ((((l0 : Int32).toUInt32 >>> ((1 : Int32).toUInt32 &&& Int32.toUInt32 31)).toInt32) &&& 1431655765)) : Int32).toUInt32 >>> ((2 : Int32).toUInt32 &&& Int32.toUInt32 31)).toInt32) &&& 858993459)) : Int32).toUInt32 >>> ((4 : Int32).toUInt32 &&& Int32.toUInt32 31)).toInt32)) &&& 252645135) : Int32).toUInt32 >>> ((8 : Int32).toUInt32 &&& Int32.toUInt32 31)).toInt32)) : Int32).toUInt32 >>> ((16 : Int32).toUInt32 &&& Int32.toUInt32 31)).toInt32)) &&& 63) M
set_option maxHeartbeats 4000000 in
set_option maxRecDepth 100000 in
theorem ct_J6_bitCount_0f7a4 {l : Launch} {base : Nat} {D : va_G} {A : mj_AT} (l0 : Int32) (M : mj_M) (post : Int32 → mj_M → Prop) (h : vc_J6_bitCount_0f7a4 l0 M post) : mj_Met l base D A mj_jI yJ6_bitCount_0f7a4 cJ6_bitCount_0f7a4 1 (some .int) rm_J6_bitCount_0f7a4 0 0 [vI l0] M post := by
  refine mj_entry (by decide +kernel) (Nat.le_of_ble_eq_true rfl) (fun g hC hE h1 h2 h3 h4 => ?_)
  show mj_X g 0 [(0, vI l0)] [] M 0 0
  simp only [vc_J6_bitCount_0f7a4] at h
  refine mx_iload_n (j := 0) hC dJ6_bitCount_0f7a4_0 rfl rfl ?_
  refine mx_iload_n (j := 0) hC dJ6_bitCount_0f7a4_1 rfl rfl ?_
  refine mx_iconst (v := 1) hC dJ6_bitCount_0f7a4_2 (by decide) ?_
  refine mx_iushr hC dJ6_bitCount_0f7a4_3 ?_
  refine mx_ldcw (v := 1431655765) hC dJ6_bitCount_0f7a4_4 tw685 ?_
  refine mx_iand hC dJ6_bitCount_0f7a4_7 ?_
  refine mx_isub hC dJ6_bitCount_0f7a4_8 ?_
  refine mx_istore_n (L' := [(0, vI (l0 - ((((l0 : Int32).toUInt32 >>> ((1 : Int32).toUInt32 &&& Int32.toUInt32 31)).toInt32) &&& 1431655765)))]) hC dJ6_bitCount_0f7a4_9 rfl (by decide) rfl ?_
  refine mx_iload_n (j := 0) hC dJ6_bitCount_0f7a4_10 rfl rfl ?_
  refine mx_ldcw (v := 858993459) hC dJ6_bitCount_0f7a4_11 tw686 ?_
  refine mx_iand hC dJ6_bitCount_0f7a4_14 ?_
  refine mx_iload_n (j := 0) hC dJ6_bitCount_0f7a4_15 rfl rfl ?_
  refine mx_iconst (v := 2) hC dJ6_bitCount_0f7a4_16 (by decide) ?_
  refine mx_iushr hC dJ6_bitCount_0f7a4_17 ?_
  refine mx_ldcw (v := 858993459) hC dJ6_bitCount_0f7a4_18 tw686 ?_
  refine mx_iand hC dJ6_bitCount_0f7a4_21 ?_
  refine mx_iadd hC dJ6_bitCount_0f7a4_22 ?_
  refine mx_istore_n (L' := [(0, vI (((l0 - ((((l0 : Int32).toUInt32 >>> ((1 : Int32).toUInt32 &&& Int32.toUInt32 31)).toInt32) &&& 1431655765)) &&& 858993459) + (((((l0 - ((((l0 : Int32).toUInt32 >>> ((1 : Int32).toUInt32 &&& Int32.toUInt32 31)).toInt32) &&& 1431655765)) : Int32).toUInt32 >>> ((2 : Int32).toUInt32 &&& Int32.toUInt32 31)).toInt32) &&& 858993459)))]) hC dJ6_bitCount_0f7a4_23 rfl (by decide) rfl ?_
  refine mx_iload_n (j := 0) hC dJ6_bitCount_0f7a4_24 rfl rfl ?_
  refine mx_iload_n (j := 0) hC dJ6_bitCount_0f7a4_25 rfl rfl ?_
  refine mx_iconst (v := 4) hC dJ6_bitCount_0f7a4_26 (by decide) ?_
  refine mx_iushr hC dJ6_bitCount_0f7a4_27 ?_
  refine mx_iadd hC dJ6_bitCount_0f7a4_28 ?_
  refine mx_ldcw (v := 252645135) hC dJ6_bitCount_0f7a4_29 tw687 ?_
  refine mx_iand hC dJ6_bitCount_0f7a4_32 ?_
  refine mx_istore_n (L' := [(0, vI (((((l0 - ((((l0 : Int32).toUInt32 >>> ((1 : Int32).toUInt32 &&& Int32.toUInt32 31)).toInt32) &&& 1431655765)) &&& 858993459) + (((((l0 - ((((l0 : Int32).toUInt32 >>> ((1 : Int32).toUInt32 &&& Int32.toUInt32 31)).toInt32) &&& 1431655765)) : Int32).toUInt32 >>> ((2 : Int32).toUInt32 &&& Int32.toUInt32 31)).toInt32) &&& 858993459)) + ((((((l0 - ((((l0 : Int32).toUInt32 >>> ((1 : Int32).toUInt32 &&& Int32.toUInt32 31)).toInt32) &&& 1431655765)) &&& 858993459) + (((((l0 - ((((l0 : Int32).toUInt32 >>> ((1 : Int32).toUInt32 &&& Int32.toUInt32 31)).toInt32) &&& 1431655765)) : Int32).toUInt32 >>> ((2 : Int32).toUInt32 &&& Int32.toUInt32 31)).toInt32) &&& 858993459)) : Int32).toUInt32 >>> ((4 : Int32).toUInt32 &&& Int32.toUInt32 31)).toInt32)) &&& 252645135))]) hC dJ6_bitCount_0f7a4_33 rfl (by decide) rfl ?_
  refine mx_iload_n (j := 0) hC dJ6_bitCount_0f7a4_34 rfl rfl ?_
  refine mx_iload_n (j := 0) hC dJ6_bitCount_0f7a4_35 rfl rfl ?_
  refine mx_bipush (v := 8) hC dJ6_bitCount_0f7a4_36 (by decide) ?_
  refine mx_iushr hC dJ6_bitCount_0f7a4_38 ?_
  refine mx_iadd hC dJ6_bitCount_0f7a4_39 ?_
  refine mx_istore_n (L' := [(0, vI ((((((l0 - ((((l0 : Int32).toUInt32 >>> ((1 : Int32).toUInt32 &&& Int32.toUInt32 31)).toInt32) &&& 1431655765)) &&& 858993459) + (((((l0 - ((((l0 : Int32).toUInt32 >>> ((1 : Int32).toUInt32 &&& Int32.toUInt32 31)).toInt32) &&& 1431655765)) : Int32).toUInt32 >>> ((2 : Int32).toUInt32 &&& Int32.toUInt32 31)).toInt32) &&& 858993459)) + ((((((l0 - ((((l0 : Int32).toUInt32 >>> ((1 : Int32).toUInt32 &&& Int32.toUInt32 31)).toInt32) &&& 1431655765)) &&& 858993459) + (((((l0 - ((((l0 : Int32).toUInt32 >>> ((1 : Int32).toUInt32 &&& Int32.toUInt32 31)).toInt32) &&& 1431655765)) : Int32).toUInt32 >>> ((2 : Int32).toUInt32 &&& Int32.toUInt32 31)).toInt32) &&& 858993459)) : Int32).toUInt32 >>> ((4 : Int32).toUInt32 &&& Int32.toUInt32 31)).toInt32)) &&& 252645135) + ((((((((l0 - ((((l0 : Int32).toUInt32 >>> ((1 : Int32).toUInt32 &&& Int32.toUInt32 31)).toInt32) &&& 1431655765)) &&& 858993459) + (((((l0 - ((((l0 : Int32).toUInt32 >>> ((1 : Int32).toUInt32 &&& Int32.toUInt32 31)).toInt32) &&& 1431655765)) : Int32).toUInt32 >>> ((2 : Int32).toUInt32 &&& Int32.toUInt32 31)).toInt32) &&& 858993459)) + ((((((l0 - ((((l0 : Int32).toUInt32 >>> ((1 : Int32).toUInt32 &&& Int32.toUInt32 31)).toInt32) &&& 1431655765)) &&& 858993459) + (((((l0 - ((((l0 : Int32).toUInt32 >>> ((1 : Int32).toUInt32 &&& Int32.toUInt32 31)).toInt32) &&& 1431655765)) : Int32).toUInt32 >>> ((2 : Int32).toUInt32 &&& Int32.toUInt32 31)).toInt32) &&& 858993459)) : Int32).toUInt32 >>> ((4 : Int32).toUInt32 &&& Int32.toUInt32 31)).toInt32)) &&& 252645135) : Int32).toUInt32 >>> ((8 : Int32).toUInt32 &&& Int32.toUInt32 31)).toInt32)))]) hC dJ6_bitCount_0f7a4_40 rfl (by decide) rfl ?_
  refine mx_iload_n (j := 0) hC dJ6_bitCount_0f7a4_41 rfl rfl ?_
  refine mx_iload_n (j := 0) hC dJ6_bitCount_0f7a4_42 rfl rfl ?_
  refine mx_bipush (v := 16) hC dJ6_bitCount_0f7a4_43 (by decide) ?_
  refine mx_iushr hC dJ6_bitCount_0f7a4_45 ?_
  refine mx_iadd hC dJ6_bitCount_0f7a4_46 ?_
  refine mx_istore_n (L' := [(0, vI (((((((l0 - ((((l0 : Int32).toUInt32 >>> ((1 : Int32).toUInt32 &&& Int32.toUInt32 31)).toInt32) &&& 1431655765)) &&& 858993459) + (((((l0 - ((((l0 : Int32).toUInt32 >>> ((1 : Int32).toUInt32 &&& Int32.toUInt32 31)).toInt32) &&& 1431655765)) : Int32).toUInt32 >>> ((2 : Int32).toUInt32 &&& Int32.toUInt32 31)).toInt32) &&& 858993459)) + ((((((l0 - ((((l0 : Int32).toUInt32 >>> ((1 : Int32).toUInt32 &&& Int32.toUInt32 31)).toInt32) &&& 1431655765)) &&& 858993459) + (((((l0 - ((((l0 : Int32).toUInt32 >>> ((1 : Int32).toUInt32 &&& Int32.toUInt32 31)).toInt32) &&& 1431655765)) : Int32).toUInt32 >>> ((2 : Int32).toUInt32 &&& Int32.toUInt32 31)).toInt32) &&& 858993459)) : Int32).toUInt32 >>> ((4 : Int32).toUInt32 &&& Int32.toUInt32 31)).toInt32)) &&& 252645135) + ((((((((l0 - ((((l0 : Int32).toUInt32 >>> ((1 : Int32).toUInt32 &&& Int32.toUInt32 31)).toInt32) &&& 1431655765)) &&& 858993459) + (((((l0 - ((((l0 : Int32).toUInt32 >>> ((1 : Int32).toUInt32 &&& Int32.toUInt32 31)).toInt32) &&& 1431655765)) : Int32).toUInt32 >>> ((2 : Int32).toUInt32 &&& Int32.toUInt32 31)).toInt32) &&& 858993459)) + ((((((l0 - ((((l0 : Int32).toUInt32 >>> ((1 : Int32).toUInt32 &&& Int32.toUInt32 31)).toInt32) &&& 1431655765)) &&& 858993459) + (((((l0 - ((((l0 : Int32).toUInt32 >>> ((1 : Int32).toUInt32 &&& Int32.toUInt32 31)).toInt32) &&& 1431655765)) : Int32).toUInt32 >>> ((2 : Int32).toUInt32 &&& Int32.toUInt32 31)).toInt32) &&& 858993459)) : Int32).toUInt32 >>> ((4 : Int32).toUInt32 &&& Int32.toUInt32 31)).toInt32)) &&& 252645135) : Int32).toUInt32 >>> ((8 : Int32).toUInt32 &&& Int32.toUInt32 31)).toInt32)) + (((((((((l0 - ((((l0 : Int32).toUInt32 >>> ((1 : Int32).toUInt32 &&& Int32.toUInt32 31)).toInt32) &&& 1431655765)) &&& 858993459) + (((((l0 - ((((l0 : Int32).toUInt32 >>> ((1 : Int32).toUInt32 &&& Int32.toUInt32 31)).toInt32) &&& 1431655765)) : Int32).toUInt32 >>> ((2 : Int32).toUInt32 &&& Int32.toUInt32 31)).toInt32) &&& 858993459)) + ((((((l0 - ((((l0 : Int32).toUInt32 >>> ((1 : Int32).toUInt32 &&& Int32.toUInt32 31)).toInt32) &&& 1431655765)) &&& 858993459) + (((((l0 - ((((l0 : Int32).toUInt32 >>> ((1 : Int32).toUInt32 &&& Int32.toUInt32 31)).toInt32) &&& 1431655765)) : Int32).toUInt32 >>> ((2 : Int32).toUInt32 &&& Int32.toUInt32 31)).toInt32) &&& 858993459)) : Int32).toUInt32 >>> ((4 : Int32).toUInt32 &&& Int32.toUInt32 31)).toInt32)) &&& 252645135) + ((((((((l0 - ((((l0 : Int32).toUInt32 >>> ((1 : Int32).toUInt32 &&& Int32.toUInt32 31)).toInt32) &&& 1431655765)) &&& 858993459) + (((((l0 - ((((l0 : Int32).toUInt32 >>> ((1 : Int32).toUInt32 &&& Int32.toUInt32 31)).toInt32) &&& 1431655765)) : Int32).toUInt32 >>> ((2 : Int32).toUInt32 &&& Int32.toUInt32 31)).toInt32) &&& 858993459)) + ((((((l0 - ((((l0 : Int32).toUInt32 >>> ((1 : Int32).toUInt32 &&& Int32.toUInt32 31)).toInt32) &&& 1431655765)) &&& 858993459) + (((((l0 - ((((l0 : Int32).toUInt32 >>> ((1 : Int32).toUInt32 &&& Int32.toUInt32 31)).toInt32) &&& 1431655765)) : Int32).toUInt32 >>> ((2 : Int32).toUInt32 &&& Int32.toUInt32 31)).toInt32) &&& 858993459)) : Int32).toUInt32 >>> ((4 : Int32).toUInt32 &&& Int32.toUInt32 31)).toInt32)) &&& 252645135) : Int32).toUInt32 >>> ((8 : Int32).toUInt32 &&& Int32.toUInt32 31)).toInt32)) : Int32).toUInt32 >>> ((16 : Int32).toUInt32 &&& Int32.toUInt32 31)).toInt32)))]) hC dJ6_bitCount_0f7a4_47 rfl (by decide) rfl ?_
  refine mx_iload_n (j := 0) hC dJ6_bitCount_0f7a4_48 rfl rfl ?_
  refine mx_bipush (v := 63) hC dJ6_bitCount_0f7a4_49 (by decide) ?_
  refine mx_iand hC dJ6_bitCount_0f7a4_51 ?_
  exact mx_iret hC hE rfl dJ6_bitCount_0f7a4_52 h
def rm_J7_fill_53178 : Room := { frames := 0, cells := 0, slots := 0, locals := 0 }
theorem dJ7_fill_53178_0 : decode cJ7_fill_53178 0 = .ok (.iconst 0, 1) := by decide +kernel
theorem dJ7_fill_53178_1 : decode cJ7_fill_53178 1 = .ok (.istore_n 2, 1) := by decide +kernel
theorem dJ7_fill_53178_2 : decode cJ7_fill_53178 2 = .ok (.aload_n 0, 1) := by decide +kernel
theorem dJ7_fill_53178_3 : decode cJ7_fill_53178 3 = .ok (.arraylength, 1) := by decide +kernel
theorem dJ7_fill_53178_4 : decode cJ7_fill_53178 4 = .ok (.istore_n 3, 1) := by decide +kernel
theorem dJ7_fill_53178_5 : decode cJ7_fill_53178 5 = .ok (.iload_n 2, 1) := by decide +kernel
theorem dJ7_fill_53178_6 : decode cJ7_fill_53178 6 = .ok (.iload_n 3, 1) := by decide +kernel
theorem dJ7_fill_53178_7 : decode cJ7_fill_53178 7 = .ok (.if_icmp .ge 13, 3) := by decide +kernel
theorem dJ7_fill_53178_10 : decode cJ7_fill_53178 10 = .ok (.aload_n 0, 1) := by decide +kernel
theorem dJ7_fill_53178_11 : decode cJ7_fill_53178 11 = .ok (.iload_n 2, 1) := by decide +kernel
theorem dJ7_fill_53178_12 : decode cJ7_fill_53178 12 = .ok (.iload_n 1, 1) := by decide +kernel
theorem dJ7_fill_53178_13 : decode cJ7_fill_53178 13 = .ok (.iastore, 1) := by decide +kernel
theorem dJ7_fill_53178_14 : decode cJ7_fill_53178 14 = .ok (.iinc 2 1, 3) := by decide +kernel
theorem dJ7_fill_53178_17 : decode cJ7_fill_53178 17 = .ok (.goto (-12), 3) := by decide +kernel
theorem dJ7_fill_53178_20 : decode cJ7_fill_53178 20 = .ok (.return_, 1) := by decide +kernel
def vb_J7_fill_53178_5 (post : Unit → mj_M → Prop) : Nat → Nat → Int32 → Int32 → Int32 → mj_M → Prop
  | 0 => fun _ _ _ _ _ => False
  | f + 1 => fun l0 l1 l2 l3 M => if l3 ≤ l2 then (post () M) else (mj_tag M l0 = 101 ∧ vp_in l2 (mj_len M l0) ∧ vb_J7_fill_53178_5 post f l0 l1 (l2 + 1) l3 (mj_wi M l0 (l2 : Int32).toNatClampNeg l1))
def vc_J7_fill_53178 (l0 : Nat) (l1 : Int32) (M : mj_M) (post : Unit → mj_M → Prop) : Prop := mj_tag M l0 = 101 ∧ vb_J7_fill_53178_5 post 60 l0 l1 0 (Int32.ofNat (mj_len M l0)) M
set_option maxHeartbeats 4000000 in
set_option maxRecDepth 100000 in
theorem xb_J7_fill_53178_5 {g : mj_G} {post : Unit → mj_M → Prop} (hC : mj_C g yJ7_fill_53178 cJ7_fill_53178 4 (none) rm_J7_fill_53178) (hE : mj_E g mj_jV post 0 0) : ∀ (f : Nat) (l0 : Nat) (l1 : Int32) (l2 : Int32) (l3 : Int32) (M : mj_M), vb_J7_fill_53178_5 post f l0 l1 l2 l3 M → mj_X g 5 [(0, vR l0), (1, vI l1), (2, vI l2), (3, vI l3)] [] M 0 0 := by
  intro f
  induction f with
  | zero => exact fun _ _ _ _ _ h => absurd h (fun z => z)
  | succ f ih =>
    intro l0 l1 l2 l3 M h
    simp only [vb_J7_fill_53178_5] at h
    refine mx_iload_n (j := 2) hC dJ7_fill_53178_5 rfl rfl ?_
    refine mx_iload_n (j := 3) hC dJ7_fill_53178_6 rfl rfl ?_
    refine mx_icmpge (tgt := 20) hC dJ7_fill_53178_7 (by decide) (fun hc1 => ?_) (fun hc1 => ?_)
    · replace h := mj_yy hc1 h
      exact mx_vret hC hE rfl dJ7_fill_53178_20 h
    · replace h := mj_nn hc1 h
      refine mx_aload_n (j := 0) hC dJ7_fill_53178_10 rfl rfl ?_
      refine mx_iload_n (j := 2) hC dJ7_fill_53178_11 rfl rfl ?_
      refine mx_iload_n (j := 1) hC dJ7_fill_53178_12 rfl rfl ?_
      obtain ⟨ht2, h⟩ := h
      obtain ⟨hi3, h⟩ := h
      refine mx_iastore hC ht2 hi3 dJ7_fill_53178_13 ?_
      refine mx_iinc (j := 2) (v := l2 + 1) (L' := [(2, vI (l2 + 1)), (0, vR l0), (1, vI l1), (3, vI l3)]) hC dJ7_fill_53178_14 rfl rfl (by decide) rfl ?_
      refine mx_goto (tgt := 5) hC dJ7_fill_53178_17 (by decide) ?_
      refine mx_sub (L' := [(0, vR l0), (1, vI l1), (2, vI (l2 + 1)), (3, vI l3)]) [1, 2, 0, 3] rfl ?_
      exact show mj_X g 5 [(0, vR l0), (1, vI l1), (2, vI (l2 + 1)), (3, vI l3)] [] (mj_wi M l0 (l2 : Int32).toNatClampNeg l1) 0 0 from (ih l0 l1 (l2 + 1) l3 (mj_wi M l0 (l2 : Int32).toNatClampNeg l1) h)
set_option maxHeartbeats 4000000 in
set_option maxRecDepth 100000 in
theorem ct_J7_fill_53178 {l : Launch} {base : Nat} {D : va_G} {A : mj_AT} (l0 : Nat) (l1 : Int32) (M : mj_M) (post : Unit → mj_M → Prop) (h : vc_J7_fill_53178 l0 l1 M post) : mj_Met l base D A mj_jV yJ7_fill_53178 cJ7_fill_53178 4 (none) rm_J7_fill_53178 0 0 [vR l0, vI l1] M post := by
  refine mj_entry (by decide +kernel) (Nat.le_of_ble_eq_true rfl) (fun g hC hE h1 h2 h3 h4 => ?_)
  show mj_X g 0 [(0, vR l0), (1, vI l1)] [] M 0 0
  simp only [vc_J7_fill_53178] at h
  refine mx_iconst (v := 0) hC dJ7_fill_53178_0 (by decide) ?_
  refine mx_istore_n (L' := [(2, vI 0), (0, vR l0), (1, vI l1)]) hC dJ7_fill_53178_1 rfl (by decide) rfl ?_
  refine mx_aload_n (j := 1) hC dJ7_fill_53178_2 rfl rfl ?_
  obtain ⟨ht4, h⟩ := h
  refine mx_alen hC ht4 dJ7_fill_53178_3 ?_
  refine mx_istore_n (L' := [(3, vI (Int32.ofNat (mj_len M l0))), (2, vI 0), (0, vR l0), (1, vI l1)]) hC dJ7_fill_53178_4 rfl (by decide) rfl ?_
  refine mx_sub (L' := [(0, vR l0), (1, vI l1), (2, vI 0), (3, vI (Int32.ofNat (mj_len M l0)))]) [2, 3, 1, 0] rfl ?_
  exact show mj_X g 5 [(0, vR l0), (1, vI l1), (2, vI 0), (3, vI (Int32.ofNat (mj_len M l0)))] [] M 0 0 from (xb_J7_fill_53178_5 hC hE 60 l0 l1 0 (Int32.ofNat (mj_len M l0)) M h)

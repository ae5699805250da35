/-! methods 3. By program (wip/gen) out of the bytecode: vc_KEY: what must hold of a call; ct_KEY: then the machine does it. -/
def rm_X4_weightOf : Room := { frames := 0, cells := 0, slots := 0, locals := 0 }
theorem dX4_weightOf_0 : decode cX4_weightOf 0 = .ok (.iconst 0, 1) := by decide +kernel
theorem dX4_weightOf_1 : decode cX4_weightOf 1 = .ok (.istore_n 2, 1) := by decide +kernel
theorem dX4_weightOf_2 : decode cX4_weightOf 2 = .ok (.iconst 0, 1) := by decide +kernel
theorem dX4_weightOf_3 : decode cX4_weightOf 3 = .ok (.istore_n 3, 1) := by decide +kernel
theorem dX4_weightOf_4 : decode cX4_weightOf 4 = .ok (.iload_n 3, 1) := by decide +kernel
theorem dX4_weightOf_5 : decode cX4_weightOf 5 = .ok (.bipush 12, 2) := by decide +kernel
theorem dX4_weightOf_7 : decode cX4_weightOf 7 = .ok (.if_icmp .ge 24, 3) := by decide +kernel
theorem dX4_weightOf_10 : decode cX4_weightOf 10 = .ok (.iload_n 2, 1) := by decide +kernel
theorem dX4_weightOf_11 : decode cX4_weightOf 11 = .ok (.iload_n 1, 1) := by decide +kernel
theorem dX4_weightOf_12 : decode cX4_weightOf 12 = .ok (.iload_n 3, 1) := by decide +kernel
theorem dX4_weightOf_13 : decode cX4_weightOf 13 = .ok (.ishr, 1) := by decide +kernel
theorem dX4_weightOf_14 : decode cX4_weightOf 14 = .ok (.iconst 1, 1) := by decide +kernel
theorem dX4_weightOf_15 : decode cX4_weightOf 15 = .ok (.iand, 1) := by decide +kernel
theorem dX4_weightOf_16 : decode cX4_weightOf 16 = .ok (.aload_n 0, 1) := by decide +kernel
theorem dX4_weightOf_17 : decode cX4_weightOf 17 = .ok (.getfield 15, 3) := by decide +kernel
theorem dX4_weightOf_20 : decode cX4_weightOf 20 = .ok (.iload_n 3, 1) := by decide +kernel
theorem dX4_weightOf_21 : decode cX4_weightOf 21 = .ok (.iaload, 1) := by decide +kernel
theorem dX4_weightOf_22 : decode cX4_weightOf 22 = .ok (.imul, 1) := by decide +kernel
theorem dX4_weightOf_23 : decode cX4_weightOf 23 = .ok (.iadd, 1) := by decide +kernel
theorem dX4_weightOf_24 : decode cX4_weightOf 24 = .ok (.istore_n 2, 1) := by decide +kernel
theorem dX4_weightOf_25 : decode cX4_weightOf 25 = .ok (.iinc 3 1, 3) := by decide +kernel
theorem dX4_weightOf_28 : decode cX4_weightOf 28 = .ok (.goto (-24), 3) := by decide +kernel
theorem dX4_weightOf_31 : decode cX4_weightOf 31 = .ok (.iload_n 2, 1) := by decide +kernel
theorem dX4_weightOf_32 : decode cX4_weightOf 32 = .ok (.ireturn, 1) := by decide +kernel
def vb_X4_weightOf_4 (post : Int32 → mj_M → Prop) : Nat → Nat → Int32 → Int32 → Int32 → mj_M → Prop
  | 0 => fun _ _ _ _ _ => False
  | f + 1 => fun l0 l1 l2 l3 M => if 12 ≤ l3 then (post l2 M) else (mj_tag M l0 = 5 ∧ mj_tag M (mj_r M l0 5) = 101 ∧ vp_in l3 (mj_len M (mj_r M l0 5)) ∧ vb_X4_weightOf_4 post f l0 l1 (l2 + (((l1 >>> (l3 &&& 31)) &&& 1) * (mj_i M (mj_r M l0 5) (l3 : Int32).toNatClampNeg))) (l3 + 1) M)
def vc_X4_weightOf (l0 : Nat) (l1 : Int32) (M : mj_M) (post : Int32 → mj_M → Prop) : Prop := ∃ fe, vb_X4_weightOf_4 post fe l0 l1 0 0 M
set_option maxHeartbeats 4000000 in
set_option maxRecDepth 100000 in
theorem xb_X4_weightOf_4 {g : mj_G} {post : Int32 → mj_M → Prop} (hC : mj_C g yX4_weightOf cX4_weightOf 4 (some .int) rm_X4_weightOf) (hE : mj_E g mj_jI post 0 0) : ∀ (f : Nat) (l0 : Nat) (l1 : Int32) (l2 : Int32) (l3 : Int32) (M : mj_M), vb_X4_weightOf_4 post f l0 l1 l2 l3 M → mj_X g 4 [(0, vR l0), (1, vI l1), (2, vI l2), (3, vI l3)] [] M 0 0 := by
  intro f
  induction f with
  | zero => exact fun _ _ _ _ _ h => absurd h (fun z => z)
  | succ f ih =>
    intro l0 l1 l2 l3 M h
    simp only [vb_X4_weightOf_4] at h
    refine mx_iload_n (j := 3) hC dX4_weightOf_4 rfl rfl ?_
    refine mx_bipush (v := 12) hC dX4_weightOf_5 (by decide) ?_
    refine mx_icmpge (tgt := 31) hC dX4_weightOf_7 (by decide) (fun hc1 => ?_) (fun hc1 => ?_)
    · replace h := mj_yy hc1 h
      refine mx_iload_n (j := 2) hC dX4_weightOf_31 rfl rfl ?_
      exact mx_iret hC hE rfl dX4_weightOf_32 h
    · replace h := mj_nn hc1 h
      refine mx_iload_n (j := 2) hC dX4_weightOf_10 rfl rfl ?_
      refine mx_iload_n (j := 1) hC dX4_weightOf_11 rfl rfl ?_
      refine mx_iload_n (j := 3) hC dX4_weightOf_12 rfl rfl ?_
      refine mx_ishr hC dX4_weightOf_13 ?_
      refine mx_iconst (v := 1) hC dX4_weightOf_14 (by decide) ?_
      refine mx_iand hC dX4_weightOf_15 ?_
      refine mx_aload_n (j := 0) hC dX4_weightOf_16 rfl rfl ?_
      obtain ⟨ht2, h⟩ := h
      refine mx_get (v := vR (mj_r M l0 5)) hC tf_X4_15 ht2 rfl dX4_weightOf_17 ?_
      refine mx_iload_n (j := 3) hC dX4_weightOf_20 rfl rfl ?_
      obtain ⟨ht3, h⟩ := h
      obtain ⟨hi4, h⟩ := h
      refine mx_iaload hC ht3 hi4 dX4_weightOf_21 ?_
      refine mx_imul hC dX4_weightOf_22 ?_
      refine mx_iadd hC dX4_weightOf_23 ?_
      refine mx_istore_n (L' := [(2, vI (l2 + (((l1 >>> (l3 &&& 31)) &&& 1) * (mj_i M (mj_r M l0 5) (l3 : Int32).toNatClampNeg)))), (0, vR l0), (1, vI l1), (3, vI l3)]) hC dX4_weightOf_24 rfl (by decide) rfl ?_
      refine mx_iinc (j := 3) (v := l3 + 1) (L' := [(3, vI (l3 + 1)), (2, vI (l2 + (((l1 >>> (l3 &&& 31)) &&& 1) * (mj_i M (mj_r M l0 5) (l3 : Int32).toNatClampNeg)))), (0, vR l0), (1, vI l1)]) hC dX4_weightOf_25 rfl rfl (by decide) rfl ?_
      refine mx_goto (tgt := 4) hC dX4_weightOf_28 (by decide) ?_
      refine mx_sub (L' := [(0, vR l0), (1, vI l1), (2, vI (l2 + (((l1 >>> (l3 &&& 31)) &&& 1) * (mj_i M (mj_r M l0 5) (l3 : Int32).toNatClampNeg)))), (3, vI (l3 + 1))]) [2, 3, 1, 0] rfl ?_
      exact show mj_X g 4 [(0, vR l0), (1, vI l1), (2, vI (l2 + (((l1 >>> (l3 &&& 31)) &&& 1) * (mj_i M (mj_r M l0 5) (l3 : Int32).toNatClampNeg)))), (3, vI (l3 + 1))] [] M 0 0 from (ih l0 l1 (l2 + (((l1 >>> (l3 &&& 31)) &&& 1) * (mj_i M (mj_r M l0 5) (l3 : Int32).toNatClampNeg))) (l3 + 1) M h)
set_option maxHeartbeats 4000000 in
set_option maxRecDepth 100000 in
theorem ct_X4_weightOf {l : Launch} {base : Nat} {D : va_G} {A : ClassId × ClassId × ClassId} (l0 : Nat) (l1 : Int32) (M : mj_M) (post : Int32 → mj_M → Prop) (h : vc_X4_weightOf l0 l1 M post) : mj_Met l base D A mj_jI yX4_weightOf cX4_weightOf 4 (some .int) rm_X4_weightOf 0 0 [vR l0, vI l1] M post := by
  refine mj_entry (by decide +kernel) (Nat.le_of_ble_eq_true rfl) (fun g hC hE h1 h2 h3 h4 => ?_)
  show mj_X g 0 [(0, vR l0), (1, vI l1)] [] M 0 0
  simp only [vc_X4_weightOf] at h
  refine mx_iconst (v := 0) hC dX4_weightOf_0 (by decide) ?_
  refine mx_istore_n (L' := [(2, vI 0), (0, vR l0), (1, vI l1)]) hC dX4_weightOf_1 rfl (by decide) rfl ?_
  refine mx_iconst (v := 0) hC dX4_weightOf_2 (by decide) ?_
  refine mx_istore_n (L' := [(3, vI 0), (2, vI 0), (0, vR l0), (1, vI l1)]) hC dX4_weightOf_3 rfl (by decide) rfl ?_
  refine mx_sub (L' := [(0, vR l0), (1, vI l1), (2, vI 0), (3, vI 0)]) [2, 3, 1, 0] rfl ?_
  obtain ⟨fe, h⟩ := h
  exact show mj_X g 4 [(0, vR l0), (1, vI l1), (2, vI 0), (3, vI 0)] [] M 0 0 from (xb_X4_weightOf_4 hC hE fe l0 l1 0 0 M h)
theorem tw349 : (Jvm.Cond.fieldLink "LeaseLand$Land" (105 : Nat) "LeaseLand$Holding" "amount" "I") ∈ mj_tbl := mj_w 402 (by decide +kernel) (by decide +kernel)
theorem tf_X4_105 : mj_F 3 10 .int false "LeaseLand$Land" 105 := ⟨_, tk3, by decide, rfl, rfl, rfl, tw349⟩
theorem tw352 : (Jvm.Cond.fieldLink "LeaseLand$Land" (108 : Nat) "LeaseLand$Holding" "doubles" "I") ∈ mj_tbl := mj_w 405 (by decide +kernel) (by decide +kernel)
theorem tf_X4_108 : mj_F 3 11 .int false "LeaseLand$Land" 108 := ⟨_, tk3, by decide, rfl, rfl, rfl, tw352⟩
theorem tw313 : (Jvm.Cond.instantiable "LeaseLand$Holding" (15 : Nat)) ∈ mj_tbl := mj_w 366 (by decide +kernel) (by decide +kernel)
theorem tw484 : (Jvm.Cond.classLink "LeaseLand$Land" (32 : Nat) "LeaseLand$Holding") ∈ mj_tbl := mj_w 537 (by decide +kernel) (by decide +kernel)
theorem tw485 : (Jvm.Cond.methodLink "LeaseLand$Land" (98 : Nat) ({ cls := "LeaseLand$Holding", name := "<init>", desc := "(LLeaseLand$Holding;IIIII)V" } : Jvm.MethodName)) ∈ mj_tbl := mj_w 538 (by decide +kernel) (by decide +kernel)
theorem tw486 : (Jvm.Cond.methodLink "LeaseLand$Land" (101 : Nat) ({ cls := "LeaseLand$Land", name := "weightOf", desc := "(I)I" } : Jvm.MethodName)) ∈ mj_tbl := mj_w 539 (by decide +kernel) (by decide +kernel)
theorem tw316 : (Jvm.Cond.code ({ cls := "LeaseLand$Holding", name := "<init>", desc := "(LLeaseLand$Holding;IIIII)V" } : Jvm.MethodName) prog_5_method_1_code (7 : Nat) (Option.none : Option Jvm.ClassFile.FieldType)) ∈ mj_tbl := mj_w 369 (by decide +kernel) (by decide +kernel)
theorem tw315 : (Jvm.Cond.instanceMethod ({ cls := "LeaseLand$Holding", name := "<init>", desc := "(LLeaseLand$Holding;IIIII)V" } : Jvm.MethodName)) ∈ mj_tbl := mj_w 368 (by decide +kernel) (by decide +kernel)
theorem ty_X3_init : mj_YI yX3_init cX3_init 7 6 := ⟨⟨tw316, tw12, by decide +kernel, by decide +kernel, by decide +kernel⟩, tw315, rfl⟩
theorem tw489 : (Jvm.Cond.code ({ cls := "LeaseLand$Land", name := "weightOf", desc := "(I)I" } : Jvm.MethodName) prog_6_method_17_code (4 : Nat) (Option.some Jvm.ClassFile.FieldType.int)) ∈ mj_tbl := mj_w 542 (by decide +kernel) (by decide +kernel)
theorem tw487 : (Jvm.Cond.instanceMethod ({ cls := "LeaseLand$Land", name := "weightOf", desc := "(I)I" } : Jvm.MethodName)) ∈ mj_tbl := mj_w 540 (by decide +kernel) (by decide +kernel)
theorem tw488 : (Jvm.Cond.selects "LeaseLand$Land" ({ cls := "LeaseLand$Land", name := "weightOf", desc := "(I)I" } : Jvm.MethodName) ({ cls := "LeaseLand$Land", name := "weightOf", desc := "(I)I" } : Jvm.MethodName)) ∈ mj_tbl := mj_w 541 (by decide +kernel) (by decide +kernel)
theorem ty_X4_weightOf : mj_YV 4 yX4_weightOf cX4_weightOf 4 (some .int) 1 := ⟨⟨tw489, tw2, by decide +kernel, by decide +kernel, by decide +kernel⟩, tw487, tw488, _, rfl, rfl⟩
def rm_X4_split : Room := { frames := 2, cells := 1, slots := 15, locals := 46 }
theorem dX4_split_0 : decode cX4_split 0 = .ok (.new 32, 3) := by decide +kernel
theorem dX4_split_3 : decode cX4_split 3 = .ok (.dup, 1) := by decide +kernel
theorem dX4_split_4 : decode cX4_split 4 = .ok (.aload_n 1, 1) := by decide +kernel
theorem dX4_split_5 : decode cX4_split 5 = .ok (.getfield 51, 3) := by decide +kernel
theorem dX4_split_8 : decode cX4_split 8 = .ok (.iload_n 2, 1) := by decide +kernel
theorem dX4_split_9 : decode cX4_split 9 = .ok (.aload_n 1, 1) := by decide +kernel
theorem dX4_split_10 : decode cX4_split 10 = .ok (.getfield 75, 3) := by decide +kernel
theorem dX4_split_13 : decode cX4_split 13 = .ok (.aload_n 1, 1) := by decide +kernel
theorem dX4_split_14 : decode cX4_split 14 = .ok (.getfield 88, 3) := by decide +kernel
theorem dX4_split_17 : decode cX4_split 17 = .ok (.iload_n 3, 1) := by decide +kernel
theorem dX4_split_18 : decode cX4_split 18 = .ok (.aload_n 0, 1) := by decide +kernel
theorem dX4_split_19 : decode cX4_split 19 = .ok (.getfield 28, 3) := by decide +kernel
theorem dX4_split_22 : decode cX4_split 22 = .ok (.invokespecial 98, 3) := by decide +kernel
theorem dX4_split_25 : decode cX4_split 25 = .ok (.astore 4, 2) := by decide +kernel
theorem dX4_split_27 : decode cX4_split 27 = .ok (.aload_n 0, 1) := by decide +kernel
theorem dX4_split_28 : decode cX4_split 28 = .ok (.aload_n 1, 1) := by decide +kernel
theorem dX4_split_29 : decode cX4_split 29 = .ok (.getfield 57, 3) := by decide +kernel
theorem dX4_split_32 : decode cX4_split 32 = .ok (.invokevirtual 101, 3) := by decide +kernel
theorem dX4_split_35 : decode cX4_split 35 = .ok (.istore 5, 2) := by decide +kernel
theorem dX4_split_37 : decode cX4_split 37 = .ok (.aload 4, 2) := by decide +kernel
theorem dX4_split_39 : decode cX4_split 39 = .ok (.iload 5, 2) := by decide +kernel
theorem dX4_split_41 : decode cX4_split 41 = .ok (.ifCond .gt 7, 3) := by decide +kernel
theorem dX4_split_44 : decode cX4_split 44 = .ok (.iconst 0, 1) := by decide +kernel
theorem dX4_split_45 : decode cX4_split 45 = .ok (.goto 16, 3) := by decide +kernel
theorem dX4_split_48 : decode cX4_split 48 = .ok (.aload_n 1, 1) := by decide +kernel
theorem dX4_split_49 : decode cX4_split 49 = .ok (.getfield 105, 3) := by decide +kernel
theorem dX4_split_52 : decode cX4_split 52 = .ok (.aload_n 0, 1) := by decide +kernel
theorem dX4_split_53 : decode cX4_split 53 = .ok (.iload_n 2, 1) := by decide +kernel
theorem dX4_split_54 : decode cX4_split 54 = .ok (.invokevirtual 101, 3) := by decide +kernel
theorem dX4_split_57 : decode cX4_split 57 = .ok (.imul, 1) := by decide +kernel
theorem dX4_split_58 : decode cX4_split 58 = .ok (.iload 5, 2) := by decide +kernel
theorem dX4_split_60 : decode cX4_split 60 = .ok (.idiv, 1) := by decide +kernel
theorem dX4_split_61 : decode cX4_split 61 = .ok (.putfield 105, 3) := by decide +kernel
theorem dX4_split_64 : decode cX4_split 64 = .ok (.aload 4, 2) := by decide +kernel
theorem dX4_split_66 : decode cX4_split 66 = .ok (.aload_n 1, 1) := by decide +kernel
theorem dX4_split_67 : decode cX4_split 67 = .ok (.getfield 108, 3) := by decide +kernel
theorem dX4_split_70 : decode cX4_split 70 = .ok (.putfield 108, 3) := by decide +kernel
theorem dX4_split_73 : decode cX4_split 73 = .ok (.aload_n 1, 1) := by decide +kernel
theorem dX4_split_74 : decode cX4_split 74 = .ok (.dup, 1) := by decide +kernel
theorem dX4_split_75 : decode cX4_split 75 = .ok (.getfield 105, 3) := by decide +kernel
theorem dX4_split_78 : decode cX4_split 78 = .ok (.aload 4, 2) := by decide +kernel
theorem dX4_split_80 : decode cX4_split 80 = .ok (.getfield 105, 3) := by decide +kernel
theorem dX4_split_83 : decode cX4_split 83 = .ok (.isub, 1) := by decide +kernel
theorem dX4_split_84 : decode cX4_split 84 = .ok (.putfield 105, 3) := by decide +kernel
theorem dX4_split_87 : decode cX4_split 87 = .ok (.aload_n 1, 1) := by decide +kernel
theorem dX4_split_88 : decode cX4_split 88 = .ok (.dup, 1) := by decide +kernel
theorem dX4_split_89 : decode cX4_split 89 = .ok (.getfield 57, 3) := by decide +kernel
theorem dX4_split_92 : decode cX4_split 92 = .ok (.iload_n 2, 1) := by decide +kernel
theorem dX4_split_93 : decode cX4_split 93 = .ok (.iconst (-1), 1) := by decide +kernel
theorem dX4_split_94 : decode cX4_split 94 = .ok (.ixor, 1) := by decide +kernel
theorem dX4_split_95 : decode cX4_split 95 = .ok (.iand, 1) := by decide +kernel
theorem dX4_split_96 : decode cX4_split 96 = .ok (.putfield 57, 3) := by decide +kernel
theorem dX4_split_99 : decode cX4_split 99 = .ok (.aload_n 0, 1) := by decide +kernel
theorem dX4_split_100 : decode cX4_split 100 = .ok (.getfield 37, 3) := by decide +kernel
theorem dX4_split_103 : decode cX4_split 103 = .ok (.astore 6, 2) := by decide +kernel
theorem dX4_split_105 : decode cX4_split 105 = .ok (.aload 6, 2) := by decide +kernel
theorem dX4_split_107 : decode cX4_split 107 = .ok (.ifnull 54, 3) := by decide +kernel
theorem dX4_split_110 : decode cX4_split 110 = .ok (.aload 6, 2) := by decide +kernel
theorem dX4_split_112 : decode cX4_split 112 = .ok (.getfield 51, 3) := by decide +kernel
theorem dX4_split_115 : decode cX4_split 115 = .ok (.aload_n 1, 1) := by decide +kernel
theorem dX4_split_116 : decode cX4_split 116 = .ok (.if_acmp .ne 35, 3) := by decide +kernel
theorem dX4_split_119 : decode cX4_split 119 = .ok (.aload 6, 2) := by decide +kernel
theorem dX4_split_121 : decode cX4_split 121 = .ok (.invokevirtual 84, 3) := by decide +kernel
theorem dX4_split_124 : decode cX4_split 124 = .ok (.aload_n 0, 1) := by decide +kernel
theorem dX4_split_125 : decode cX4_split 125 = .ok (.getfield 28, 3) := by decide +kernel
theorem dX4_split_128 : decode cX4_split 128 = .ok (.if_icmp .le 23, 3) := by decide +kernel
theorem dX4_split_131 : decode cX4_split 131 = .ok (.aload 4, 2) := by decide +kernel
theorem dX4_split_133 : decode cX4_split 133 = .ok (.aload 6, 2) := by decide +kernel
theorem dX4_split_135 : decode cX4_split 135 = .ok (.getfield 57, 3) := by decide +kernel
theorem dX4_split_138 : decode cX4_split 138 = .ok (.invokevirtual 95, 3) := by decide +kernel
theorem dX4_split_141 : decode cX4_split 141 = .ok (.ifCond .eq 10, 3) := by decide +kernel
theorem dX4_split_144 : decode cX4_split 144 = .ok (.aload 6, 2) := by decide +kernel
theorem dX4_split_146 : decode cX4_split 146 = .ok (.aload 4, 2) := by decide +kernel
theorem dX4_split_148 : decode cX4_split 148 = .ok (.putfield 51, 3) := by decide +kernel
theorem dX4_split_151 : decode cX4_split 151 = .ok (.aload 6, 2) := by decide +kernel
theorem dX4_split_153 : decode cX4_split 153 = .ok (.getfield 44, 3) := by decide +kernel
theorem dX4_split_156 : decode cX4_split 156 = .ok (.astore 6, 2) := by decide +kernel
theorem dX4_split_158 : decode cX4_split 158 = .ok (.goto (-53), 3) := by decide +kernel
theorem dX4_split_161 : decode cX4_split 161 = .ok (.aload_n 0, 1) := by decide +kernel
theorem dX4_split_162 : decode cX4_split 162 = .ok (.aload 4, 2) := by decide +kernel
theorem dX4_split_164 : decode cX4_split 164 = .ok (.invokevirtual 91, 3) := by decide +kernel
theorem dX4_split_167 : decode cX4_split 167 = .ok (.ireturn, 1) := by decide +kernel
def vb_X4_split_105 (post : Int32 → mj_M → Prop) : Nat → Nat → Nat → Nat → Nat → mj_M → Prop
  | 0 => fun _ _ _ _ _ => False
  | f + 1 => fun l0 l1 l4 l6 M => if l6 = 0 then (mj_tag M l0 = 5 ∧ vc_X4_add l0 l4 M (fun r3 M4 => post r3 M4)) else (mj_tag M l6 = 4 ∧ if (mj_r M l6 2) = l1 then (vc_X3_until l6 M (fun r7 M8 => mj_tag M8 l0 = 5 ∧ if r7 ≤ (mj_i M8 l0 0) then (mj_tag M8 l6 = 4 ∧ vb_X4_split_105 post f l0 l1 l4 (mj_r M8 l6 1) M8) else (mj_tag M8 l6 = 4 ∧ mj_tag M8 l4 = 4 ∧ vc_X3_hasFloors l4 (mj_i M8 l6 3) M8 (fun r14 M15 => if r14 = true then (mj_tag M15 l6 = 4 ∧ vb_X4_split_105 post f l0 l1 l4 (mj_r (mj_wr M15 l6 2 l4) l6 1) (mj_wr M15 l6 2 l4)) else (mj_tag M15 l6 = 4 ∧ vb_X4_split_105 post f l0 l1 l4 (mj_r M15 l6 1) M15))))) else (vb_X4_split_105 post f l0 l1 l4 (mj_r M l6 1) M))
def vb_X4_split_61 (post : Int32 → mj_M → Prop) (l0 : Nat) (l1 : Nat) (l2 : Int32) (l4 : Nat) (s0 : Nat) (s1 : Int32) (M : mj_M) : Prop := mj_tag M s0 = 4 ∧ mj_tag M l1 = 4 ∧ mj_tag M l4 = 4 ∧ mj_tag M l0 = 5 ∧ ∃ fe, vb_X4_split_105 post fe l0 l1 l4 (mj_r M l0 1) (mj_wi (mj_wi (mj_wi (mj_wi M s0 10 s1) l4 11 (mj_i (mj_wi M s0 10 s1) l1 11)) l1 10 ((mj_i (mj_wi (mj_wi M s0 10 s1) l4 11 (mj_i (mj_wi M s0 10 s1) l1 11)) l1 10) - (mj_i (mj_wi (mj_wi M s0 10 s1) l4 11 (mj_i (mj_wi M s0 10 s1) l1 11)) l4 10))) l1 3 ((mj_i (mj_wi (mj_wi (mj_wi M s0 10 s1) l4 11 (mj_i (mj_wi M s0 10 s1) l1 11)) l1 10 ((mj_i (mj_wi (mj_wi M s0 10 s1) l4 11 (mj_i (mj_wi M s0 10 s1) l1 11)) l1 10) - (mj_i (mj_wi (mj_wi M s0 10 s1) l4 11 (mj_i (mj_wi M s0 10 s1) l1 11)) l4 10))) l1 3) &&& (l2 ^^^ ((-1)))))
def vc_X4_split (l0 : Nat) (l1 : Nat) (l2 : Int32) (l3 : Int32) (M : mj_M) (post : Int32 → mj_M → Prop) : Prop := ∀ M23 : mj_M, M23 = mj_new M 3 → mj_tag M23 l1 = 4 ∧ mj_tag M23 l0 = 5 ∧ (¬ (mj_nx M) = 0) ∧ vc_X3_init (mj_nx M) (mj_r M23 l1 2) l2 (mj_i M23 l1 4) (mj_i M23 l1 5) l3 (mj_i M23 l0 0) M23 (fun _ M28 => mj_tag M28 l1 = 4 ∧ mj_tag M28 l0 = 5 ∧ vc_X4_weightOf l0 (mj_i M28 l1 3) M28 (fun r31 M32 => if 0 < r31 then (mj_tag M32 l1 = 4 ∧ mj_tag M32 l0 = 5 ∧ vc_X4_weightOf l0 l2 M32 (fun r36 M37 => (¬ r31 = 0) ∧ vb_X4_split_61 post l0 l1 l2 (mj_nx M) (mj_nx M) (((mj_i M32 l1 10) * r36) / r31) M37)) else (vb_X4_split_61 post l0 l1 l2 (mj_nx M) (mj_nx M) 0 M32)))
set_option maxHeartbeats 4000000 in
set_option maxRecDepth 100000 in
theorem xb_X4_split_105 {g : mj_G} {post : Int32 → mj_M → Prop} (hC : mj_C g yX4_split cX4_split 7 (some .int) rm_X4_split) (hE : mj_E g mj_jI post 1 15) : ∀ (f : Nat) (l0 : Nat) (l1 : Nat) (l4 : Nat) (l6 : Nat) (M : mj_M), vb_X4_split_105 post f l0 l1 l4 l6 M → mj_X g 105 [(0, vR l0), (1, vR l1), (4, vR l4), (6, vR l6)] [] M 1 15 := by
  intro f
  induction f with
  | zero => exact fun _ _ _ _ _ h => absurd h (fun z => z)
  | succ f ih =>
    intro l0 l1 l4 l6 M h
    simp only [vb_X4_split_105] at h
    refine mx_aload (j := 3) hC dX4_split_105 rfl ?_
    refine mx_ifnull (tgt := 161) hC dX4_split_107 (by decide) (fun hc1 => ?_) (fun hc1 => ?_)
    · replace h := mj_yy hc1 h
      refine mx_aload_n (j := 0) hC dX4_split_161 rfl rfl ?_
      refine mx_aload (j := 2) hC dX4_split_162 rfl ?_
      obtain ⟨ht2, h⟩ := h
      refine mx_callV (inj := mj_jI) (As := [vR l4]) (st := []) hC (ct_X4_add l0 l4 M _ h) ty_X4_add tw453 ht2 rfl (Nat.le_of_ble_eq_true rfl) ⟨rfl, rfl, ⟨by decide, by decide⟩, by decide, by decide⟩ dX4_split_164 (fun r3 M4 h => ?_)
      show mj_X g 167 [(0, vR l0), (1, vR l1), (4, vR l4), (6, vR l6)] [vI r3] M4 1 15
      exact mx_iret hC hE rfl dX4_split_167 h
    · replace h := mj_nn hc1 h
      refine mx_aload (j := 3) hC dX4_split_110 rfl ?_
      obtain ⟨ht5, h⟩ := h
      refine mx_get (v := vR (mj_r M l6 2)) hC tf_X4_51 ht5 rfl dX4_split_112 ?_
      refine mx_aload_n (j := 1) hC dX4_split_115 rfl rfl ?_
      refine mx_acmpne (tgt := 151) hC dX4_split_116 (by decide) (fun hc6 => ?_) (fun hc6 => ?_)
      · replace h := mj_nn hc6 h
        refine mx_aload (j := 3) hC dX4_split_151 rfl ?_
        refine mx_get (v := vR (mj_r M l6 1)) hC tf_X4_44 ht5 rfl dX4_split_153 ?_
        refine mx_astore (L' := [(6, vR (mj_r M l6 1)), (0, vR l0), (1, vR l1), (4, vR l4)]) hC dX4_split_156 (by decide) rfl ?_
        refine mx_goto (tgt := 105) hC dX4_split_158 (by decide) ?_
        refine mx_sub (L' := [(0, vR l0), (1, vR l1), (4, vR l4), (6, vR (mj_r M l6 1))]) [1, 2, 3, 0] rfl ?_
        exact show mj_X g 105 [(0, vR l0), (1, vR l1), (4, vR l4), (6, vR (mj_r M l6 1))] [] M 1 15 from (ih l0 l1 l4 (mj_r M l6 1) M h)
      · replace h := mj_yy hc6 h
        refine mx_aload (j := 3) hC dX4_split_119 rfl ?_
        refine mx_callV (inj := mj_jI) (As := []) (st := []) hC (ct_X3_until l6 M _ h) ty_X3_until tw448 ht5 rfl (Nat.le_of_ble_eq_true rfl) ⟨rfl, rfl, ⟨by decide, by decide⟩, by decide, by decide⟩ dX4_split_121 (fun r7 M8 h => ?_)
        show mj_X g 124 [(0, vR l0), (1, vR l1), (4, vR l4), (6, vR l6)] [vI r7] M8 1 15
        refine mx_aload_n (j := 0) hC dX4_split_124 rfl rfl ?_
        obtain ⟨ht9, h⟩ := h
        refine mx_get (v := vI (mj_i M8 l0 0)) hC tf_X4_28 ht9 rfl dX4_split_125 ?_
        refine mx_icmple (tgt := 151) hC dX4_split_128 (by decide) (fun hc10 => ?_) (fun hc10 => ?_)
        · replace h := mj_yy hc10 h
          refine mx_aload (j := 3) hC dX4_split_151 rfl ?_
          obtain ⟨ht11, h⟩ := h
          refine mx_get (v := vR (mj_r M8 l6 1)) hC tf_X4_44 ht11 rfl dX4_split_153 ?_
          refine mx_astore (L' := [(6, vR (mj_r M8 l6 1)), (0, vR l0), (1, vR l1), (4, vR l4)]) hC dX4_split_156 (by decide) rfl ?_
          refine mx_goto (tgt := 105) hC dX4_split_158 (by decide) ?_
          refine mx_sub (L' := [(0, vR l0), (1, vR l1), (4, vR l4), (6, vR (mj_r M8 l6 1))]) [1, 2, 3, 0] rfl ?_
          exact show mj_X g 105 [(0, vR l0), (1, vR l1), (4, vR l4), (6, vR (mj_r M8 l6 1))] [] M8 1 15 from (ih l0 l1 l4 (mj_r M8 l6 1) M8 h)
        · replace h := mj_nn hc10 h
          refine mx_aload (j := 2) hC dX4_split_131 rfl ?_
          refine mx_aload (j := 3) hC dX4_split_133 rfl ?_
          obtain ⟨ht12, h⟩ := h
          refine mx_get (v := vI (mj_i M8 l6 3)) hC tf_X4_57 ht12 rfl dX4_split_135 ?_
          obtain ⟨ht13, h⟩ := h
          refine mx_callV (inj := mj_jB) (As := [vI (mj_i M8 l6 3)]) (st := []) hC (ct_X3_hasFloors l4 (mj_i M8 l6 3) M8 _ h) ty_X3_hasFloors tw479 ht13 rfl (Nat.le_of_ble_eq_true rfl) ⟨rfl, rfl, ⟨by decide, by decide⟩, by decide, by decide⟩ dX4_split_138 (fun r14 M15 h => ?_)
          show mj_X g 141 [(0, vR l0), (1, vR l1), (4, vR l4), (6, vR l6)] [vI (mj_b r14)] M15 1 15
          refine mx_ifeqB (tgt := 151) hC dX4_split_141 (by decide) (fun hc16 => ?_) (fun hc16 => ?_)
          · replace h := mj_nn hc16 h
            refine mx_aload (j := 3) hC dX4_split_151 rfl ?_
            obtain ⟨ht17, h⟩ := h
            refine mx_get (v := vR (mj_r M15 l6 1)) hC tf_X4_44 ht17 rfl dX4_split_153 ?_
            refine mx_astore (L' := [(6, vR (mj_r M15 l6 1)), (0, vR l0), (1, vR l1), (4, vR l4)]) hC dX4_split_156 (by decide) rfl ?_
            refine mx_goto (tgt := 105) hC dX4_split_158 (by decide) ?_
            refine mx_sub (L' := [(0, vR l0), (1, vR l1), (4, vR l4), (6, vR (mj_r M15 l6 1))]) [1, 2, 3, 0] rfl ?_
            exact show mj_X g 105 [(0, vR l0), (1, vR l1), (4, vR l4), (6, vR (mj_r M15 l6 1))] [] M15 1 15 from (ih l0 l1 l4 (mj_r M15 l6 1) M15 h)
          · replace h := mj_yy hc16 h
            refine mx_aload (j := 3) hC dX4_split_144 rfl ?_
            refine mx_aload (j := 2) hC dX4_split_146 rfl ?_
            obtain ⟨ht18, h⟩ := h
            refine mx_put (v := vR l4) (M1 := mj_wr M15 l6 2 l4) hC tf_X4_51 ht18 (Or.inl rfl) (mj_fitR l4 _) (mj_off_wr _ _ _ _) mj_put_wr dX4_split_148 ?_
            refine mx_aload (j := 3) hC dX4_split_151 rfl ?_
            refine mx_get (v := vR (mj_r (mj_wr M15 l6 2 l4) l6 1)) hC tf_X4_44 ht18 rfl dX4_split_153 ?_
            refine mx_astore (L' := [(6, vR (mj_r (mj_wr M15 l6 2 l4) l6 1)), (0, vR l0), (1, vR l1), (4, vR l4)]) hC dX4_split_156 (by decide) rfl ?_
            refine mx_goto (tgt := 105) hC dX4_split_158 (by decide) ?_
            refine mx_sub (L' := [(0, vR l0), (1, vR l1), (4, vR l4), (6, vR (mj_r (mj_wr M15 l6 2 l4) l6 1))]) [1, 2, 3, 0] rfl ?_
            exact show mj_X g 105 [(0, vR l0), (1, vR l1), (4, vR l4), (6, vR (mj_r (mj_wr M15 l6 2 l4) l6 1))] [] (mj_wr M15 l6 2 l4) 1 15 from (ih l0 l1 l4 (mj_r (mj_wr M15 l6 2 l4) l6 1) (mj_wr M15 l6 2 l4) h)
set_option maxHeartbeats 4000000 in
set_option maxRecDepth 100000 in
theorem xb_X4_split_61 {g : mj_G} {post : Int32 → mj_M → Prop} (hC : mj_C g yX4_split cX4_split 7 (some .int) rm_X4_split) (hE : mj_E g mj_jI post 1 15) (l0 : Nat) (l1 : Nat) (l2 : Int32) (l4 : Nat) (s0 : Nat) (s1 : Int32) (M : mj_M) (h : vb_X4_split_61 post l0 l1 l2 l4 s0 s1 M) : mj_X g 61 [(0, vR l0), (1, vR l1), (2, vI l2), (4, vR l4)] [vI s1, vR s0] M 1 15 := by
  simp only [vb_X4_split_61] at h
  obtain ⟨ht19, h⟩ := h
  refine mx_put (v := vI s1) (M1 := mj_wi M s0 10 s1) hC tf_X4_105 ht19 (Or.inl rfl) ⟨rfl, rfl⟩ (mj_off_wi _ _ _ _) mj_put_wi dX4_split_61 ?_
  refine mx_aload (j := 3) hC dX4_split_64 rfl ?_
  refine mx_aload_n (j := 1) hC dX4_split_66 rfl rfl ?_
  obtain ⟨ht20, h⟩ := h
  refine mx_get (v := vI (mj_i (mj_wi M s0 10 s1) l1 11)) hC tf_X4_108 ht20 rfl dX4_split_67 ?_
  obtain ⟨ht21, h⟩ := h
  refine mx_put (v := vI (mj_i (mj_wi M s0 10 s1) l1 11)) (M1 := mj_wi (mj_wi M s0 10 s1) l4 11 (mj_i (mj_wi M s0 10 s1) l1 11)) hC tf_X4_108 ht21 (Or.inl rfl) ⟨rfl, rfl⟩ (mj_off_wi _ _ _ _) mj_put_wi dX4_split_70 ?_
  refine mx_aload_n (j := 1) hC dX4_split_73 rfl rfl ?_
  refine mx_dup hC dX4_split_74 rfl ?_
  refine mx_get (v := vI (mj_i (mj_wi (mj_wi M s0 10 s1) l4 11 (mj_i (mj_wi M s0 10 s1) l1 11)) l1 10)) hC tf_X4_105 ht20 rfl dX4_split_75 ?_
  refine mx_aload (j := 3) hC dX4_split_78 rfl ?_
  refine mx_get (v := vI (mj_i (mj_wi (mj_wi M s0 10 s1) l4 11 (mj_i (mj_wi M s0 10 s1) l1 11)) l4 10)) hC tf_X4_105 ht21 rfl dX4_split_80 ?_
  refine mx_isub hC dX4_split_83 ?_
  refine mx_put (v := vI ((mj_i (mj_wi (mj_wi M s0 10 s1) l4 11 (mj_i (mj_wi M s0 10 s1) l1 11)) l1 10) - (mj_i (mj_wi (mj_wi M s0 10 s1) l4 11 (mj_i (mj_wi M s0 10 s1) l1 11)) l4 10))) (M1 := mj_wi (mj_wi (mj_wi M s0 10 s1) l4 11 (mj_i (mj_wi M s0 10 s1) l1 11)) l1 10 ((mj_i (mj_wi (mj_wi M s0 10 s1) l4 11 (mj_i (mj_wi M s0 10 s1) l1 11)) l1 10) - (mj_i (mj_wi (mj_wi M s0 10 s1) l4 11 (mj_i (mj_wi M s0 10 s1) l1 11)) l4 10))) hC tf_X4_105 ht20 (Or.inl rfl) ⟨rfl, rfl⟩ (mj_off_wi _ _ _ _) mj_put_wi dX4_split_84 ?_
  refine mx_aload_n (j := 1) hC dX4_split_87 rfl rfl ?_
  refine mx_dup hC dX4_split_88 rfl ?_
  refine mx_get (v := vI (mj_i (mj_wi (mj_wi (mj_wi M s0 10 s1) l4 11 (mj_i (mj_wi M s0 10 s1) l1 11)) l1 10 ((mj_i (mj_wi (mj_wi M s0 10 s1) l4 11 (mj_i (mj_wi M s0 10 s1) l1 11)) l1 10) - (mj_i (mj_wi (mj_wi M s0 10 s1) l4 11 (mj_i (mj_wi M s0 10 s1) l1 11)) l4 10))) l1 3)) hC tf_X4_57 ht20 rfl dX4_split_89 ?_
  refine mx_iload_n (j := 2) hC dX4_split_92 rfl rfl ?_
  refine mx_iconst (v := (-1)) hC dX4_split_93 (by decide) ?_
  refine mx_ixor hC dX4_split_94 ?_
  refine mx_iand hC dX4_split_95 ?_
  refine mx_put (v := vI ((mj_i (mj_wi (mj_wi (mj_wi M s0 10 s1) l4 11 (mj_i (mj_wi M s0 10 s1) l1 11)) l1 10 ((mj_i (mj_wi (mj_wi M s0 10 s1) l4 11 (mj_i (mj_wi M s0 10 s1) l1 11)) l1 10) - (mj_i (mj_wi (mj_wi M s0 10 s1) l4 11 (mj_i (mj_wi M s0 10 s1) l1 11)) l4 10))) l1 3) &&& (l2 ^^^ ((-1))))) (M1 := mj_wi (mj_wi (mj_wi (mj_wi M s0 10 s1) l4 11 (mj_i (mj_wi M s0 10 s1) l1 11)) l1 10 ((mj_i (mj_wi (mj_wi M s0 10 s1) l4 11 (mj_i (mj_wi M s0 10 s1) l1 11)) l1 10) - (mj_i (mj_wi (mj_wi M s0 10 s1) l4 11 (mj_i (mj_wi M s0 10 s1) l1 11)) l4 10))) l1 3 ((mj_i (mj_wi (mj_wi (mj_wi M s0 10 s1) l4 11 (mj_i (mj_wi M s0 10 s1) l1 11)) l1 10 ((mj_i (mj_wi (mj_wi M s0 10 s1) l4 11 (mj_i (mj_wi M s0 10 s1) l1 11)) l1 10) - (mj_i (mj_wi (mj_wi M s0 10 s1) l4 11 (mj_i (mj_wi M s0 10 s1) l1 11)) l4 10))) l1 3) &&& (l2 ^^^ ((-1))))) hC tf_X4_57 ht20 (Or.inl rfl) ⟨rfl, rfl⟩ (mj_off_wi _ _ _ _) mj_put_wi dX4_split_96 ?_
  refine mx_aload_n (j := 0) hC dX4_split_99 rfl rfl ?_
  obtain ⟨ht22, h⟩ := h
  refine mx_get (v := vR (mj_r M l0 1)) hC tf_X4_37 ht22 rfl dX4_split_100 ?_
  refine mx_astore (L' := [(6, vR (mj_r M l0 1)), (0, vR l0), (1, vR l1), (2, vI l2), (4, vR l4)]) hC dX4_split_103 (by decide) rfl ?_
  refine mx_sub (L' := [(0, vR l0), (1, vR l1), (4, vR l4), (6, vR (mj_r M l0 1))]) [1, 2, 4, 0] rfl ?_
  obtain ⟨fe, h⟩ := h
  exact show mj_X g 105 [(0, vR l0), (1, vR l1), (4, vR l4), (6, vR (mj_r M l0 1))] [] (mj_wi (mj_wi (mj_wi (mj_wi M s0 10 s1) l4 11 (mj_i (mj_wi M s0 10 s1) l1 11)) l1 10 ((mj_i (mj_wi (mj_wi M s0 10 s1) l4 11 (mj_i (mj_wi M s0 10 s1) l1 11)) l1 10) - (mj_i (mj_wi (mj_wi M s0 10 s1) l4 11 (mj_i (mj_wi M s0 10 s1) l1 11)) l4 10))) l1 3 ((mj_i (mj_wi (mj_wi (mj_wi M s0 10 s1) l4 11 (mj_i (mj_wi M s0 10 s1) l1 11)) l1 10 ((mj_i (mj_wi (mj_wi M s0 10 s1) l4 11 (mj_i (mj_wi M s0 10 s1) l1 11)) l1 10) - (mj_i (mj_wi (mj_wi M s0 10 s1) l4 11 (mj_i (mj_wi M s0 10 s1) l1 11)) l4 10))) l1 3) &&& (l2 ^^^ ((-1))))) 1 15 from (xb_X4_split_105 hC hE fe l0 l1 l4 (mj_r M l0 1) (mj_wi (mj_wi (mj_wi (mj_wi M s0 10 s1) l4 11 (mj_i (mj_wi M s0 10 s1) l1 11)) l1 10 ((mj_i (mj_wi (mj_wi M s0 10 s1) l4 11 (mj_i (mj_wi M s0 10 s1) l1 11)) l1 10) - (mj_i (mj_wi (mj_wi M s0 10 s1) l4 11 (mj_i (mj_wi M s0 10 s1) l1 11)) l4 10))) l1 3 ((mj_i (mj_wi (mj_wi (mj_wi M s0 10 s1) l4 11 (mj_i (mj_wi M s0 10 s1) l1 11)) l1 10 ((mj_i (mj_wi (mj_wi M s0 10 s1) l4 11 (mj_i (mj_wi M s0 10 s1) l1 11)) l1 10) - (mj_i (mj_wi (mj_wi M s0 10 s1) l4 11 (mj_i (mj_wi M s0 10 s1) l1 11)) l4 10))) l1 3) &&& (l2 ^^^ ((-1))))) h)
set_option maxHeartbeats 4000000 in
set_option maxRecDepth 100000 in
theorem ct_X4_split {l : Launch} {base : Nat} {D : va_G} {A : ClassId × ClassId × ClassId} (l0 : Nat) (l1 : Nat) (l2 : Int32) (l3 : Int32) (M : mj_M) (post : Int32 → mj_M → Prop) (h : vc_X4_split l0 l1 l2 l3 M post) : mj_Met l base D A mj_jI yX4_split cX4_split 7 (some .int) rm_X4_split 1 15 [vR l0, vR l1, vI l2, vI l3] M post := by
  refine mj_entry (by decide +kernel) (Nat.le_of_ble_eq_true rfl) (fun g hC hE h1 h2 h3 h4 => ?_)
  show mj_X g 0 [(0, vR l0), (1, vR l1), (2, vI l2), (3, vI l3)] [] M 0 0
  simp only [vc_X4_split] at h
  refine mx_new (k' := 1) (n' := 15) hC tk3 tw484 tw313 tw12 ⟨rfl, rfl, by decide, by decide⟩ dX4_split_0 ?_
  obtain ⟨M23, eM23⟩ : ∃ z : mj_M, z = mj_new M 3 := ⟨_, rfl⟩
  replace h := h M23 eM23
  have ht24 : mj_tag M23 (mj_nx M) = 4 := by rw [eM23]; exact mj_u1_at _
  refine mx_setM eM23.symm ?_
  refine mx_dup hC dX4_split_3 rfl ?_
  refine mx_aload_n (j := 1) hC dX4_split_4 rfl rfl ?_
  obtain ⟨ht25, h⟩ := h
  refine mx_get (v := vR (mj_r M23 l1 2)) hC tf_X4_51 ht25 rfl dX4_split_5 ?_
  refine mx_iload_n (j := 2) hC dX4_split_8 rfl rfl ?_
  refine mx_aload_n (j := 1) hC dX4_split_9 rfl rfl ?_
  refine mx_get (v := vI (mj_i M23 l1 4)) hC tf_X4_75 ht25 rfl dX4_split_10 ?_
  refine mx_aload_n (j := 1) hC dX4_split_13 rfl rfl ?_
  refine mx_get (v := vI (mj_i M23 l1 5)) hC tf_X4_88 ht25 rfl dX4_split_14 ?_
  refine mx_iload_n (j := 3) hC dX4_split_17 rfl rfl ?_
  refine mx_aload_n (j := 0) hC dX4_split_18 rfl rfl ?_
  obtain ⟨ht26, h⟩ := h
  refine mx_get (v := vI (mj_i M23 l0 0)) hC tf_X4_28 ht26 rfl dX4_split_19 ?_
  obtain ⟨hn27, h⟩ := h
  refine mx_callI (As := [vR (mj_r M23 l1 2), vI l2, vI (mj_i M23 l1 4), vI (mj_i M23 l1 5), vI l3, vI (mj_i M23 l0 0)]) (st := [vR (mj_nx M)]) hC (ct_X3_init (mj_nx M) (mj_r M23 l1 2) l2 (mj_i M23 l1 4) (mj_i M23 l1 5) l3 (mj_i M23 l0 0) M23 _ h) ty_X3_init tw485 hn27 rfl (Nat.le_of_ble_eq_true rfl) ⟨rfl, rfl, ⟨by decide, by decide⟩, by decide, by decide⟩ dX4_split_22 (fun _ M28 h => ?_)
  show mj_X g 25 [(0, vR l0), (1, vR l1), (2, vI l2), (3, vI l3)] [vR (mj_nx M)] M28 1 15
  refine mx_astore (L' := [(4, vR (mj_nx M)), (0, vR l0), (1, vR l1), (2, vI l2), (3, vI l3)]) hC dX4_split_25 (by decide) rfl ?_
  refine mx_aload_n (j := 1) hC dX4_split_27 rfl rfl ?_
  refine mx_aload_n (j := 2) hC dX4_split_28 rfl rfl ?_
  obtain ⟨ht29, h⟩ := h
  refine mx_get (v := vI (mj_i M28 l1 3)) hC tf_X4_57 ht29 rfl dX4_split_29 ?_
  obtain ⟨ht30, h⟩ := h
  refine mx_callV (inj := mj_jI) (As := [vI (mj_i M28 l1 3)]) (st := []) hC (ct_X4_weightOf l0 (mj_i M28 l1 3) M28 _ h) ty_X4_weightOf tw486 ht30 rfl (Nat.le_of_ble_eq_true rfl) ⟨rfl, rfl, ⟨by decide, by decide⟩, by decide, by decide⟩ dX4_split_32 (fun r31 M32 h => ?_)
  show mj_X g 35 [(4, vR (mj_nx M)), (0, vR l0), (1, vR l1), (2, vI l2), (3, vI l3)] [vI r31] M32 1 15
  refine mx_istore (L' := [(5, vI r31), (4, vR (mj_nx M)), (0, vR l0), (1, vR l1), (2, vI l2), (3, vI l3)]) hC dX4_split_35 (by decide) rfl ?_
  refine mx_aload (j := 1) hC dX4_split_37 rfl ?_
  refine mx_iload (j := 0) hC dX4_split_39 rfl ?_
  refine mx_ifgt (tgt := 48) hC dX4_split_41 (by decide) (fun hc33 => ?_) (fun hc33 => ?_)
  · replace h := mj_yy hc33 h
    refine mx_aload_n (j := 3) hC dX4_split_48 rfl rfl ?_
    obtain ⟨ht34, h⟩ := h
    refine mx_get (v := vI (mj_i M32 l1 10)) hC tf_X4_105 ht34 rfl dX4_split_49 ?_
    refine mx_aload_n (j := 2) hC dX4_split_52 rfl rfl ?_
    refine mx_iload_n (j := 4) hC dX4_split_53 rfl rfl ?_
    obtain ⟨ht35, h⟩ := h
    refine mx_callV (inj := mj_jI) (As := [vI l2]) (st := [vI (mj_i M32 l1 10), vR (mj_nx M)]) hC (ct_X4_weightOf l0 l2 M32 _ h) ty_X4_weightOf tw486 ht35 rfl (Nat.le_of_ble_eq_true rfl) ⟨rfl, rfl, ⟨by decide, by decide⟩, by decide, by decide⟩ dX4_split_54 (fun r36 M37 h => ?_)
    show mj_X g 57 [(5, vI r31), (4, vR (mj_nx M)), (0, vR l0), (1, vR l1), (2, vI l2), (3, vI l3)] [vI r36, vI (mj_i M32 l1 10), vR (mj_nx M)] M37 1 15
    refine mx_imul hC dX4_split_57 ?_
    refine mx_iload (j := 0) hC dX4_split_58 rfl ?_
    obtain ⟨hz38, h⟩ := h
    refine mx_idiv hC dX4_split_60 hz38 ?_
    refine mx_sub (L' := [(0, vR l0), (1, vR l1), (2, vI l2), (4, vR (mj_nx M))]) [2, 3, 4, 1] rfl ?_
    exact show mj_X g 61 [(0, vR l0), (1, vR l1), (2, vI l2), (4, vR (mj_nx M))] [vI (((mj_i M32 l1 10) * r36) / r31), vR (mj_nx M)] M37 1 15 from (xb_X4_split_61 hC hE l0 l1 l2 (mj_nx M) (mj_nx M) (((mj_i M32 l1 10) * r36) / r31) M37 h)
  · replace h := mj_nn hc33 h
    refine mx_iconst (v := 0) hC dX4_split_44 (by decide) ?_
    refine mx_goto (tgt := 61) hC dX4_split_45 (by decide) ?_
    refine mx_sub (L' := [(0, vR l0), (1, vR l1), (2, vI l2), (4, vR (mj_nx M))]) [2, 3, 4, 1] rfl ?_
    exact show mj_X g 61 [(0, vR l0), (1, vR l1), (2, vI l2), (4, vR (mj_nx M))] [vI 0, vR (mj_nx M)] M32 1 15 from (xb_X4_split_61 hC hE l0 l1 l2 (mj_nx M) (mj_nx M) 0 M32 h)
theorem tw337 : (Jvm.Cond.fieldLink "LeaseLand$Land" (111 : Nat) "LeaseLand$Holding" "way" "I") ∈ mj_tbl := mj_w 390 (by decide +kernel) (by decide +kernel)
theorem tf_X4_111 : mj_F 3 6 .int false "LeaseLand$Land" 111 := ⟨_, tk3, by decide, rfl, rfl, rfl, tw337⟩
theorem tw339 : (Jvm.Cond.fieldLink "LeaseLand$Land" (114 : Nat) "LeaseLand$Holding" "ended" "I") ∈ mj_tbl := mj_w 392 (by decide +kernel) (by decide +kernel)
theorem tf_X4_114 : mj_F 3 7 .int false "LeaseLand$Land" 114 := ⟨_, tk3, by decide, rfl, rfl, rfl, tw339⟩
def rm_X4_close : Room := { frames := 1, cells := 0, slots := 0, locals := 21 }
theorem dX4_close_0 : decode cX4_close 0 = .ok (.aload_n 1, 1) := by decide +kernel
theorem dX4_close_1 : decode cX4_close 1 = .ok (.iload_n 2, 1) := by decide +kernel
theorem dX4_close_2 : decode cX4_close 2 = .ok (.putfield 111, 3) := by decide +kernel
theorem dX4_close_5 : decode cX4_close 5 = .ok (.aload_n 1, 1) := by decide +kernel
theorem dX4_close_6 : decode cX4_close 6 = .ok (.aload_n 0, 1) := by decide +kernel
theorem dX4_close_7 : decode cX4_close 7 = .ok (.getfield 28, 3) := by decide +kernel
theorem dX4_close_10 : decode cX4_close 10 = .ok (.aload_n 1, 1) := by decide +kernel
theorem dX4_close_11 : decode cX4_close 11 = .ok (.getfield 75, 3) := by decide +kernel
theorem dX4_close_14 : decode cX4_close 14 = .ok (.invokestatic 78, 3) := by decide +kernel
theorem dX4_close_17 : decode cX4_close 17 = .ok (.putfield 114, 3) := by decide +kernel
theorem dX4_close_20 : decode cX4_close 20 = .ok (.return_, 1) := by decide +kernel
def vc_X4_close (l0 : Nat) (l1 : Nat) (l2 : Int32) (M : mj_M) (post : Unit → mj_M → Prop) : Prop := mj_tag M l1 = 4 ∧ mj_tag M l0 = 5 ∧ vc_J9_max_7cf53 (mj_i (mj_wi M l1 6 l2) l0 0) (mj_i (mj_wi M l1 6 l2) l1 4) (mj_wi M l1 6 l2) (fun r3 M4 => mj_tag M4 l1 = 4 ∧ post () (mj_wi M4 l1 7 r3))
set_option maxHeartbeats 4000000 in
set_option maxRecDepth 100000 in
theorem ct_X4_close {l : Launch} {base : Nat} {D : va_G} {A : ClassId × ClassId × ClassId} (l0 : Nat) (l1 : Nat) (l2 : Int32) (M : mj_M) (post : Unit → mj_M → Prop) (h : vc_X4_close l0 l1 l2 M post) : mj_Met l base D A mj_jV yX4_close cX4_close 3 (none) rm_X4_close 0 0 [vR l0, vR l1, vI l2] M post := by
  refine mj_entry (by decide +kernel) (Nat.le_of_ble_eq_true rfl) (fun g hC hE h1 h2 h3 h4 => ?_)
  show mj_X g 0 [(0, vR l0), (1, vR l1), (2, vI l2)] [] M 0 0
  simp only [vc_X4_close] at h
  refine mx_aload_n (j := 1) hC dX4_close_0 rfl rfl ?_
  refine mx_iload_n (j := 2) hC dX4_close_1 rfl rfl ?_
  obtain ⟨ht1, h⟩ := h
  refine mx_put (v := vI l2) (M1 := mj_wi M l1 6 l2) hC tf_X4_111 ht1 (Or.inl rfl) ⟨rfl, rfl⟩ (mj_off_wi _ _ _ _) mj_put_wi dX4_close_2 ?_
  refine mx_aload_n (j := 1) hC dX4_close_5 rfl rfl ?_
  refine mx_aload_n (j := 0) hC dX4_close_6 rfl rfl ?_
  obtain ⟨ht2, h⟩ := h
  refine mx_get (v := vI (mj_i (mj_wi M l1 6 l2) l0 0)) hC tf_X4_28 ht2 rfl dX4_close_7 ?_
  refine mx_aload_n (j := 1) hC dX4_close_10 rfl rfl ?_
  refine mx_get (v := vI (mj_i (mj_wi M l1 6 l2) l1 4)) hC tf_X4_75 ht1 rfl dX4_close_11 ?_
  refine mx_callS (inj := mj_jI) (As := [vI (mj_i (mj_wi M l1 6 l2) l0 0), vI (mj_i (mj_wi M l1 6 l2) l1 4)]) (st := [vR l1]) hC (ct_J9_max_7cf53 (mj_i (mj_wi M l1 6 l2) l0 0) (mj_i (mj_wi M l1 6 l2) l1 4) (mj_wi M l1 6 l2) _ h) ty_J9_max_7cf53 tw447 rfl (Nat.le_of_ble_eq_true rfl) ⟨rfl, rfl, ⟨by decide, by decide⟩, by decide, by decide⟩ dX4_close_14 (fun r3 M4 h => ?_)
  show mj_X g 17 [(0, vR l0), (1, vR l1), (2, vI l2)] [vI r3, vR l1] M4 0 0
  obtain ⟨ht5, h⟩ := h
  refine mx_put (v := vI r3) (M1 := mj_wi M4 l1 7 r3) hC tf_X4_114 ht5 (Or.inl rfl) ⟨rfl, rfl⟩ (mj_off_wi _ _ _ _) mj_put_wi dX4_close_17 ?_
  exact mx_vret hC hE rfl dX4_close_20 h
def rm_X4_handOver : Room := { frames := 1, cells := 0, slots := 0, locals := 20 }
theorem dX4_handOver_0 : decode cX4_handOver 0 = .ok (.iconst 0, 1) := by decide +kernel
theorem dX4_handOver_1 : decode cX4_handOver 1 = .ok (.istore_n 3, 1) := by decide +kernel
theorem dX4_handOver_2 : decode cX4_handOver 2 = .ok (.aload_n 0, 1) := by decide +kernel
theorem dX4_handOver_3 : decode cX4_handOver 3 = .ok (.getfield 37, 3) := by decide +kernel
theorem dX4_handOver_6 : decode cX4_handOver 6 = .ok (.astore 4, 2) := by decide +kernel
theorem dX4_handOver_8 : decode cX4_handOver 8 = .ok (.aload 4, 2) := by decide +kernel
theorem dX4_handOver_10 : decode cX4_handOver 10 = .ok (.ifnull 43, 3) := by decide +kernel
theorem dX4_handOver_13 : decode cX4_handOver 13 = .ok (.aload 4, 2) := by decide +kernel
theorem dX4_handOver_15 : decode cX4_handOver 15 = .ok (.getfield 51, 3) := by decide +kernel
theorem dX4_handOver_18 : decode cX4_handOver 18 = .ok (.aload_n 1, 1) := by decide +kernel
theorem dX4_handOver_19 : decode cX4_handOver 19 = .ok (.if_acmp .ne 24, 3) := by decide +kernel
theorem dX4_handOver_22 : decode cX4_handOver 22 = .ok (.aload 4, 2) := by decide +kernel
theorem dX4_handOver_24 : decode cX4_handOver 24 = .ok (.invokevirtual 84, 3) := by decide +kernel
theorem dX4_handOver_27 : decode cX4_handOver 27 = .ok (.aload_n 0, 1) := by decide +kernel
theorem dX4_handOver_28 : decode cX4_handOver 28 = .ok (.getfield 28, 3) := by decide +kernel
theorem dX4_handOver_31 : decode cX4_handOver 31 = .ok (.if_icmp .le 12, 3) := by decide +kernel
theorem dX4_handOver_34 : decode cX4_handOver 34 = .ok (.aload 4, 2) := by decide +kernel
theorem dX4_handOver_36 : decode cX4_handOver 36 = .ok (.aload_n 2, 1) := by decide +kernel
theorem dX4_handOver_37 : decode cX4_handOver 37 = .ok (.putfield 51, 3) := by decide +kernel
theorem dX4_handOver_40 : decode cX4_handOver 40 = .ok (.iinc 3 1, 3) := by decide +kernel
theorem dX4_handOver_43 : decode cX4_handOver 43 = .ok (.aload 4, 2) := by decide +kernel
theorem dX4_handOver_45 : decode cX4_handOver 45 = .ok (.getfield 44, 3) := by decide +kernel
theorem dX4_handOver_48 : decode cX4_handOver 48 = .ok (.astore 4, 2) := by decide +kernel
theorem dX4_handOver_50 : decode cX4_handOver 50 = .ok (.goto (-42), 3) := by decide +kernel
theorem dX4_handOver_53 : decode cX4_handOver 53 = .ok (.iload_n 3, 1) := by decide +kernel
theorem dX4_handOver_54 : decode cX4_handOver 54 = .ok (.ireturn, 1) := by decide +kernel
def vb_X4_handOver_8 (post : Int32 → mj_M → Prop) : Nat → Nat → Nat → Nat → Int32 → Nat → mj_M → Prop
  | 0 => fun _ _ _ _ _ _ => False
  | f + 1 => fun l0 l1 l2 l3 l4 M => if l4 = 0 then (post l3 M) else (mj_tag M l4 = 4 ∧ if (mj_r M l4 2) = l1 then (vc_X3_until l4 M (fun r4 M5 => mj_tag M5 l0 = 5 ∧ if r4 ≤ (mj_i M5 l0 0) then (mj_tag M5 l4 = 4 ∧ vb_X4_handOver_8 post f l0 l1 l2 l3 (mj_r M5 l4 1) M5) else (mj_tag M5 l4 = 4 ∧ vb_X4_handOver_8 post f l0 l1 l2 (l3 + 1) (mj_r (mj_wr M5 l4 2 l2) l4 1) (mj_wr M5 l4 2 l2)))) else (vb_X4_handOver_8 post f l0 l1 l2 l3 (mj_r M l4 1) M))
def vc_X4_handOver (l0 : Nat) (l1 : Nat) (l2 : Nat) (M : mj_M) (post : Int32 → mj_M → Prop) : Prop := mj_tag M l0 = 5 ∧ ∃ fe, vb_X4_handOver_8 post fe l0 l1 l2 0 (mj_r M l0 1) M
set_option maxHeartbeats 4000000 in
set_option maxRecDepth 100000 in
theorem xb_X4_handOver_8 {g : mj_G} {post : Int32 → mj_M → Prop} (hC : mj_C g yX4_handOver cX4_handOver 5 (some .int) rm_X4_handOver) (hE : mj_E g mj_jI post 0 0) : ∀ (f : Nat) (l0 : Nat) (l1 : Nat) (l2 : Nat) (l3 : Int32) (l4 : Nat) (M : mj_M), vb_X4_handOver_8 post f l0 l1 l2 l3 l4 M → mj_X g 8 [(0, vR l0), (1, vR l1), (2, vR l2), (3, vI l3), (4, vR l4)] [] M 0 0 := by
  intro f
  induction f with
  | zero => exact fun _ _ _ _ _ _ h => absurd h (fun z => z)
  | succ f ih =>
    intro l0 l1 l2 l3 l4 M h
    simp only [vb_X4_handOver_8] at h
    refine mx_aload (j := 4) hC dX4_handOver_8 rfl ?_
    refine mx_ifnull (tgt := 53) hC dX4_handOver_10 (by decide) (fun hc1 => ?_) (fun hc1 => ?_)
    · replace h := mj_yy hc1 h
      refine mx_iload_n (j := 3) hC dX4_handOver_53 rfl rfl ?_
      exact mx_iret hC hE rfl dX4_handOver_54 h
    · replace h := mj_nn hc1 h
      refine mx_aload (j := 4) hC dX4_handOver_13 rfl ?_
      obtain ⟨ht2, h⟩ := h
      refine mx_get (v := vR (mj_r M l4 2)) hC tf_X4_51 ht2 rfl dX4_handOver_15 ?_
      refine mx_aload_n (j := 1) hC dX4_handOver_18 rfl rfl ?_
      refine mx_acmpne (tgt := 43) hC dX4_handOver_19 (by decide) (fun hc3 => ?_) (fun hc3 => ?_)
      · replace h := mj_nn hc3 h
        refine mx_aload (j := 4) hC dX4_handOver_43 rfl ?_
        refine mx_get (v := vR (mj_r M l4 1)) hC tf_X4_44 ht2 rfl dX4_handOver_45 ?_
        refine mx_astore (L' := [(4, vR (mj_r M l4 1)), (0, vR l0), (1, vR l1), (2, vR l2), (3, vI l3)]) hC dX4_handOver_48 (by decide) rfl ?_
        refine mx_goto (tgt := 8) hC dX4_handOver_50 (by decide) ?_
        refine mx_sub (L' := [(0, vR l0), (1, vR l1), (2, vR l2), (3, vI l3), (4, vR (mj_r M l4 1))]) [1, 2, 3, 4, 0] rfl ?_
        exact show mj_X g 8 [(0, vR l0), (1, vR l1), (2, vR l2), (3, vI l3), (4, vR (mj_r M l4 1))] [] M 0 0 from (ih l0 l1 l2 l3 (mj_r M l4 1) M h)
      · replace h := mj_yy hc3 h
        refine mx_aload (j := 4) hC dX4_handOver_22 rfl ?_
        refine mx_callV (inj := mj_jI) (As := []) (st := []) hC (ct_X3_until l4 M _ h) ty_X3_until tw448 ht2 rfl (Nat.le_of_ble_eq_true rfl) ⟨rfl, rfl, ⟨by decide, by decide⟩, by decide, by decide⟩ dX4_handOver_24 (fun r4 M5 h => ?_)
        show mj_X g 27 [(0, vR l0), (1, vR l1), (2, vR l2), (3, vI l3), (4, vR l4)] [vI r4] M5 0 0
        refine mx_aload_n (j := 0) hC dX4_handOver_27 rfl rfl ?_
        obtain ⟨ht6, h⟩ := h
        refine mx_get (v := vI (mj_i M5 l0 0)) hC tf_X4_28 ht6 rfl dX4_handOver_28 ?_
        refine mx_icmple (tgt := 43) hC dX4_handOver_31 (by decide) (fun hc7 => ?_) (fun hc7 => ?_)
        · replace h := mj_yy hc7 h
          refine mx_aload (j := 4) hC dX4_handOver_43 rfl ?_
          obtain ⟨ht8, h⟩ := h
          refine mx_get (v := vR (mj_r M5 l4 1)) hC tf_X4_44 ht8 rfl dX4_handOver_45 ?_
          refine mx_astore (L' := [(4, vR (mj_r M5 l4 1)), (0, vR l0), (1, vR l1), (2, vR l2), (3, vI l3)]) hC dX4_handOver_48 (by decide) rfl ?_
          refine mx_goto (tgt := 8) hC dX4_handOver_50 (by decide) ?_
          refine mx_sub (L' := [(0, vR l0), (1, vR l1), (2, vR l2), (3, vI l3), (4, vR (mj_r M5 l4 1))]) [1, 2, 3, 4, 0] rfl ?_
          exact show mj_X g 8 [(0, vR l0), (1, vR l1), (2, vR l2), (3, vI l3), (4, vR (mj_r M5 l4 1))] [] M5 0 0 from (ih l0 l1 l2 l3 (mj_r M5 l4 1) M5 h)
        · replace h := mj_nn hc7 h
          refine mx_aload (j := 4) hC dX4_handOver_34 rfl ?_
          refine mx_aload_n (j := 2) hC dX4_handOver_36 rfl rfl ?_
          obtain ⟨ht9, h⟩ := h
          refine mx_put (v := vR l2) (M1 := mj_wr M5 l4 2 l2) hC tf_X4_51 ht9 (Or.inl rfl) (mj_fitR l2 _) (mj_off_wr _ _ _ _) mj_put_wr dX4_handOver_37 ?_
          refine mx_iinc (j := 3) (v := l3 + 1) (L' := [(3, vI (l3 + 1)), (0, vR l0), (1, vR l1), (2, vR l2), (4, vR l4)]) hC dX4_handOver_40 rfl rfl (by decide) rfl ?_
          refine mx_aload (j := 4) hC dX4_handOver_43 rfl ?_
          refine mx_get (v := vR (mj_r (mj_wr M5 l4 2 l2) l4 1)) hC tf_X4_44 ht9 rfl dX4_handOver_45 ?_
          refine mx_astore (L' := [(4, vR (mj_r (mj_wr M5 l4 2 l2) l4 1)), (3, vI (l3 + 1)), (0, vR l0), (1, vR l1), (2, vR l2)]) hC dX4_handOver_48 (by decide) rfl ?_
          refine mx_goto (tgt := 8) hC dX4_handOver_50 (by decide) ?_
          refine mx_sub (L' := [(0, vR l0), (1, vR l1), (2, vR l2), (3, vI (l3 + 1)), (4, vR (mj_r (mj_wr M5 l4 2 l2) l4 1))]) [2, 3, 4, 1, 0] rfl ?_
          exact show mj_X g 8 [(0, vR l0), (1, vR l1), (2, vR l2), (3, vI (l3 + 1)), (4, vR (mj_r (mj_wr M5 l4 2 l2) l4 1))] [] (mj_wr M5 l4 2 l2) 0 0 from (ih l0 l1 l2 (l3 + 1) (mj_r (mj_wr M5 l4 2 l2) l4 1) (mj_wr M5 l4 2 l2) h)
set_option maxHeartbeats 4000000 in
set_option maxRecDepth 100000 in
theorem ct_X4_handOver {l : Launch} {base : Nat} {D : va_G} {A : ClassId × ClassId × ClassId} (l0 : Nat) (l1 : Nat) (l2 : Nat) (M : mj_M) (post : Int32 → mj_M → Prop) (h : vc_X4_handOver l0 l1 l2 M post) : mj_Met l base D A mj_jI yX4_handOver cX4_handOver 5 (some .int) rm_X4_handOver 0 0 [vR l0, vR l1, vR l2] M post := by
  refine mj_entry (by decide +kernel) (Nat.le_of_ble_eq_true rfl) (fun g hC hE h1 h2 h3 h4 => ?_)
  show mj_X g 0 [(0, vR l0), (1, vR l1), (2, vR l2)] [] M 0 0
  simp only [vc_X4_handOver] at h
  refine mx_iconst (v := 0) hC dX4_handOver_0 (by decide) ?_
  refine mx_istore_n (L' := [(3, vI 0), (0, vR l0), (1, vR l1), (2, vR l2)]) hC dX4_handOver_1 rfl (by decide) rfl ?_
  refine mx_aload_n (j := 1) hC dX4_handOver_2 rfl rfl ?_
  obtain ⟨ht10, h⟩ := h
  refine mx_get (v := vR (mj_r M l0 1)) hC tf_X4_37 ht10 rfl dX4_handOver_3 ?_
  refine mx_astore (L' := [(4, vR (mj_r M l0 1)), (3, vI 0), (0, vR l0), (1, vR l1), (2, vR l2)]) hC dX4_handOver_6 (by decide) rfl ?_
  refine mx_sub (L' := [(0, vR l0), (1, vR l1), (2, vR l2), (3, vI 0), (4, vR (mj_r M l0 1))]) [2, 3, 4, 1, 0] rfl ?_
  obtain ⟨fe, h⟩ := h
  exact show mj_X g 8 [(0, vR l0), (1, vR l1), (2, vR l2), (3, vI 0), (4, vR (mj_r M l0 1))] [] M 0 0 from (xb_X4_handOver_8 hC hE fe l0 l1 l2 0 (mj_r M l0 1) M h)
def rm_X4_hangsFrom : Room := { frames := 1, cells := 0, slots := 0, locals := 20 }
theorem dX4_hangsFrom_0 : decode cX4_hangsFrom 0 = .ok (.aload_n 1, 1) := by decide +kernel
theorem dX4_hangsFrom_1 : decode cX4_hangsFrom 1 = .ok (.astore_n 3, 1) := by decide +kernel
theorem dX4_hangsFrom_2 : decode cX4_hangsFrom 2 = .ok (.aload_n 3, 1) := by decide +kernel
theorem dX4_hangsFrom_3 : decode cX4_hangsFrom 3 = .ok (.ifnull 32, 3) := by decide +kernel
theorem dX4_hangsFrom_6 : decode cX4_hangsFrom 6 = .ok (.aload_n 3, 1) := by decide +kernel
theorem dX4_hangsFrom_7 : decode cX4_hangsFrom 7 = .ok (.invokevirtual 84, 3) := by decide +kernel
theorem dX4_hangsFrom_10 : decode cX4_hangsFrom 10 = .ok (.aload_n 0, 1) := by decide +kernel
theorem dX4_hangsFrom_11 : decode cX4_hangsFrom 11 = .ok (.getfield 28, 3) := by decide +kernel
theorem dX4_hangsFrom_14 : decode cX4_hangsFrom 14 = .ok (.if_icmp .le 21, 3) := by decide +kernel
theorem dX4_hangsFrom_17 : decode cX4_hangsFrom 17 = .ok (.aload_n 3, 1) := by decide +kernel
theorem dX4_hangsFrom_18 : decode cX4_hangsFrom 18 = .ok (.getfield 51, 3) := by decide +kernel
theorem dX4_hangsFrom_21 : decode cX4_hangsFrom 21 = .ok (.aload_n 2, 1) := by decide +kernel
theorem dX4_hangsFrom_22 : decode cX4_hangsFrom 22 = .ok (.if_acmp .ne 5, 3) := by decide +kernel
theorem dX4_hangsFrom_25 : decode cX4_hangsFrom 25 = .ok (.iconst 1, 1) := by decide +kernel
theorem dX4_hangsFrom_26 : decode cX4_hangsFrom 26 = .ok (.ireturn, 1) := by decide +kernel
theorem dX4_hangsFrom_27 : decode cX4_hangsFrom 27 = .ok (.aload_n 3, 1) := by decide +kernel
theorem dX4_hangsFrom_28 : decode cX4_hangsFrom 28 = .ok (.getfield 51, 3) := by decide +kernel
theorem dX4_hangsFrom_31 : decode cX4_hangsFrom 31 = .ok (.astore_n 3, 1) := by decide +kernel
theorem dX4_hangsFrom_32 : decode cX4_hangsFrom 32 = .ok (.goto (-30), 3) := by decide +kernel
theorem dX4_hangsFrom_35 : decode cX4_hangsFrom 35 = .ok (.iconst 0, 1) := by decide +kernel
theorem dX4_hangsFrom_36 : decode cX4_hangsFrom 36 = .ok (.ireturn, 1) := by decide +kernel
def vb_X4_hangsFrom_2 (post : Bool → mj_M → Prop) : Nat → Nat → Nat → Nat → mj_M → Prop
  | 0 => fun _ _ _ _ => False
  | f + 1 => fun l0 l2 l3 M => if l3 = 0 then (post false M) else (mj_tag M l3 = 4 ∧ vc_X3_until l3 M (fun r3 M4 => mj_tag M4 l0 = 5 ∧ if r3 ≤ (mj_i M4 l0 0) then (post false M4) else (mj_tag M4 l3 = 4 ∧ if (mj_r M4 l3 2) = l2 then (post true M4) else (vb_X4_hangsFrom_2 post f l0 l2 (mj_r M4 l3 2) M4))))
def vc_X4_hangsFrom (l0 : Nat) (l1 : Nat) (l2 : Nat) (M : mj_M) (post : Bool → mj_M → Prop) : Prop := ∃ fe, vb_X4_hangsFrom_2 post fe l0 l2 l1 M
set_option maxHeartbeats 4000000 in
set_option maxRecDepth 100000 in
theorem xb_X4_hangsFrom_2 {g : mj_G} {post : Bool → mj_M → Prop} (hC : mj_C g yX4_hangsFrom cX4_hangsFrom 4 (some .boolean) rm_X4_hangsFrom) (hE : mj_E g mj_jB post 0 0) : ∀ (f : Nat) (l0 : Nat) (l2 : Nat) (l3 : Nat) (M : mj_M), vb_X4_hangsFrom_2 post f l0 l2 l3 M → mj_X g 2 [(0, vR l0), (2, vR l2), (3, vR l3)] [] M 0 0 := by
  intro f
  induction f with
  | zero => exact fun _ _ _ _ h => absurd h (fun z => z)
  | succ f ih =>
    intro l0 l2 l3 M h
    simp only [vb_X4_hangsFrom_2] at h
    refine mx_aload_n (j := 2) hC dX4_hangsFrom_2 rfl rfl ?_
    refine mx_ifnull (tgt := 35) hC dX4_hangsFrom_3 (by decide) (fun hc1 => ?_) (fun hc1 => ?_)
    · replace h := mj_yy hc1 h
      refine mx_iconst (v := 0) hC dX4_hangsFrom_35 (by decide) ?_
      exact mx_zret (b := false) hC hE rfl dX4_hangsFrom_36 h
    · replace h := mj_nn hc1 h
      refine mx_aload_n (j := 2) hC dX4_hangsFrom_6 rfl rfl ?_
      obtain ⟨ht2, h⟩ := h
      refine mx_callV (inj := mj_jI) (As := []) (st := []) hC (ct_X3_until l3 M _ h) ty_X3_until tw448 ht2 rfl (Nat.le_of_ble_eq_true rfl) ⟨rfl, rfl, ⟨by decide, by decide⟩, by decide, by decide⟩ dX4_hangsFrom_7 (fun r3 M4 h => ?_)
      show mj_X g 10 [(0, vR l0), (2, vR l2), (3, vR l3)] [vI r3] M4 0 0
      refine mx_aload_n (j := 0) hC dX4_hangsFrom_10 rfl rfl ?_
      obtain ⟨ht5, h⟩ := h
      refine mx_get (v := vI (mj_i M4 l0 0)) hC tf_X4_28 ht5 rfl dX4_hangsFrom_11 ?_
      refine mx_icmple (tgt := 35) hC dX4_hangsFrom_14 (by decide) (fun hc6 => ?_) (fun hc6 => ?_)
      · replace h := mj_yy hc6 h
        refine mx_iconst (v := 0) hC dX4_hangsFrom_35 (by decide) ?_
        exact mx_zret (b := false) hC hE rfl dX4_hangsFrom_36 h
      · replace h := mj_nn hc6 h
        refine mx_aload_n (j := 2) hC dX4_hangsFrom_17 rfl rfl ?_
        obtain ⟨ht7, h⟩ := h
        refine mx_get (v := vR (mj_r M4 l3 2)) hC tf_X4_51 ht7 rfl dX4_hangsFrom_18 ?_
        refine mx_aload_n (j := 1) hC dX4_hangsFrom_21 rfl rfl ?_
        refine mx_acmpne (tgt := 27) hC dX4_hangsFrom_22 (by decide) (fun hc8 => ?_) (fun hc8 => ?_)
        · replace h := mj_nn hc8 h
          refine mx_aload_n (j := 2) hC dX4_hangsFrom_27 rfl rfl ?_
          refine mx_get (v := vR (mj_r M4 l3 2)) hC tf_X4_51 ht7 rfl dX4_hangsFrom_28 ?_
          refine mx_astore_n (L' := [(3, vR (mj_r M4 l3 2)), (0, vR l0), (2, vR l2)]) hC dX4_hangsFrom_31 rfl (by decide) rfl ?_
          refine mx_goto (tgt := 2) hC dX4_hangsFrom_32 (by decide) ?_
          refine mx_sub (L' := [(0, vR l0), (2, vR l2), (3, vR (mj_r M4 l3 2))]) [1, 2, 0] rfl ?_
          exact show mj_X g 2 [(0, vR l0), (2, vR l2), (3, vR (mj_r M4 l3 2))] [] M4 0 0 from (ih l0 l2 (mj_r M4 l3 2) M4 h)
        · replace h := mj_yy hc8 h
          refine mx_iconst (v := 1) hC dX4_hangsFrom_25 (by decide) ?_
          exact mx_zret (b := true) hC hE rfl dX4_hangsFrom_26 h
set_option maxHeartbeats 4000000 in
set_option maxRecDepth 100000 in
theorem ct_X4_hangsFrom {l : Launch} {base : Nat} {D : va_G} {A : ClassId × ClassId × ClassId} (l0 : Nat) (l1 : Nat) (l2 : Nat) (M : mj_M) (post : Bool → mj_M → Prop) (h : vc_X4_hangsFrom l0 l1 l2 M post) : mj_Met l base D A mj_jB yX4_hangsFrom cX4_hangsFrom 4 (some .boolean) rm_X4_hangsFrom 0 0 [vR l0, vR l1, vR l2] M post := by
  refine mj_entry (by decide +kernel) (Nat.le_of_ble_eq_true rfl) (fun g hC hE h1 h2 h3 h4 => ?_)
  show mj_X g 0 [(0, vR l0), (1, vR l1), (2, vR l2)] [] M 0 0
  simp only [vc_X4_hangsFrom] at h
  refine mx_aload_n (j := 1) hC dX4_hangsFrom_0 rfl rfl ?_
  refine mx_astore_n (L' := [(3, vR l1), (0, vR l0), (1, vR l1), (2, vR l2)]) hC dX4_hangsFrom_1 rfl (by decide) rfl ?_
  refine mx_sub (L' := [(0, vR l0), (2, vR l2), (3, vR l1)]) [1, 3, 0] rfl ?_
  obtain ⟨fe, h⟩ := h
  exact show mj_X g 2 [(0, vR l0), (2, vR l2), (3, vR l1)] [] M 0 0 from (xb_X4_hangsFrom_2 hC hE fe l0 l2 l1 M h)
theorem tw357 : (Jvm.Cond.fieldLink "LeaseLand$Land" (121 : Nat) "LeaseLand$Holding" "falling" "Z") ∈ mj_tbl := mj_w 410 (by decide +kernel) (by decide +kernel)
theorem tf_X4_121 : mj_F 3 14 .boolean false "LeaseLand$Land" 121 := ⟨_, tk3, by decide, rfl, rfl, rfl, tw357⟩
theorem tw356 : (Jvm.Cond.fieldLink "LeaseLand$Land" (129 : Nat) "LeaseLand$Holding" "fellBy" "LLeaseLand$Holding;") ∈ mj_tbl := mj_w 409 (by decide +kernel) (by decide +kernel)
theorem tf_X4_129 : mj_F 3 13 (.object "LeaseLand$Holding") false "LeaseLand$Land" 129 := ⟨_, tk3, by decide, rfl, rfl, rfl, tw356⟩
theorem tw953 : (Jvm.Cond.methodLink "LeaseLand$Land" (125 : Nat) ({ cls := "LeaseLand$Land", name := "close", desc := "(LLeaseLand$Holding;I)V" } : Jvm.MethodName)) ∈ mj_tbl := mj_w 1006 (by decide +kernel) (by decide +kernel)
theorem tw959 : (Jvm.Cond.methodLink "LeaseLand$Land" (117 : Nat) ({ cls := "LeaseLand$Land", name := "hangsFrom", desc := "(LLeaseLand$Holding;LLeaseLand$Holding;)Z" } : Jvm.MethodName)) ∈ mj_tbl := mj_w 1012 (by decide +kernel) (by decide +kernel)
theorem tw497 : (Jvm.Cond.code ({ cls := "LeaseLand$Land", name := "close", desc := "(LLeaseLand$Holding;I)V" } : Jvm.MethodName) prog_6_method_18_code (3 : Nat) (Option.none : Option Jvm.ClassFile.FieldType)) ∈ mj_tbl := mj_w 550 (by decide +kernel) (by decide +kernel)
theorem tw495 : (Jvm.Cond.instanceMethod ({ cls := "LeaseLand$Land", name := "close", desc := "(LLeaseLand$Holding;I)V" } : Jvm.MethodName)) ∈ mj_tbl := mj_w 548 (by decide +kernel) (by decide +kernel)
theorem tw496 : (Jvm.Cond.selects "LeaseLand$Land" ({ cls := "LeaseLand$Land", name := "close", desc := "(LLeaseLand$Holding;I)V" } : Jvm.MethodName) ({ cls := "LeaseLand$Land", name := "close", desc := "(LLeaseLand$Holding;I)V" } : Jvm.MethodName)) ∈ mj_tbl := mj_w 549 (by decide +kernel) (by decide +kernel)
theorem ty_X4_close : mj_YV 4 yX4_close cX4_close 3 (none) 2 := ⟨⟨tw497, tw2, by decide +kernel, by decide +kernel, by decide +kernel⟩, tw495, tw496, _, rfl, rfl⟩
theorem tw962 : (Jvm.Cond.code ({ cls := "LeaseLand$Land", name := "hangsFrom", desc := "(LLeaseLand$Holding;LLeaseLand$Holding;)Z" } : Jvm.MethodName) prog_6_method_21_code (4 : Nat) (Option.some Jvm.ClassFile.FieldType.boolean)) ∈ mj_tbl := mj_w 1015 (by decide +kernel) (by decide +kernel)
theorem tw960 : (Jvm.Cond.instanceMethod ({ cls := "LeaseLand$Land", name := "hangsFrom", desc := "(LLeaseLand$Holding;LLeaseLand$Holding;)Z" } : Jvm.MethodName)) ∈ mj_tbl := mj_w 1013 (by decide +kernel) (by decide +kernel)
theorem tw961 : (Jvm.Cond.selects "LeaseLand$Land" ({ cls := "LeaseLand$Land", name := "hangsFrom", desc := "(LLeaseLand$Holding;LLeaseLand$Holding;)Z" } : Jvm.MethodName) ({ cls := "LeaseLand$Land", name := "hangsFrom", desc := "(LLeaseLand$Holding;LLeaseLand$Holding;)Z" } : Jvm.MethodName)) ∈ mj_tbl := mj_w 1014 (by decide +kernel) (by decide +kernel)
theorem ty_X4_hangsFrom : mj_YV 4 yX4_hangsFrom cX4_hangsFrom 4 (some .boolean) 2 := ⟨⟨tw962, tw2, by decide +kernel, by decide +kernel, by decide +kernel⟩, tw960, tw961, _, rfl, rfl⟩
def rm_X4_letFall : Room := { frames := 2, cells := 0, slots := 0, locals := 43 }
theorem dX4_letFall_0 : decode cX4_letFall 0 = .ok (.aload_n 0, 1) := by decide +kernel
theorem dX4_letFall_1 : decode cX4_letFall 1 = .ok (.getfield 37, 3) := by decide +kernel
theorem dX4_letFall_4 : decode cX4_letFall 4 = .ok (.astore_n 3, 1) := by decide +kernel
theorem dX4_letFall_5 : decode cX4_letFall 5 = .ok (.aload_n 3, 1) := by decide +kernel
theorem dX4_letFall_6 : decode cX4_letFall 6 = .ok (.ifnull 21, 3) := by decide +kernel
theorem dX4_letFall_9 : decode cX4_letFall 9 = .ok (.aload_n 3, 1) := by decide +kernel
theorem dX4_letFall_10 : decode cX4_letFall 10 = .ok (.aload_n 0, 1) := by decide +kernel
theorem dX4_letFall_11 : decode cX4_letFall 11 = .ok (.aload_n 3, 1) := by decide +kernel
theorem dX4_letFall_12 : decode cX4_letFall 12 = .ok (.aload_n 1, 1) := by decide +kernel
theorem dX4_letFall_13 : decode cX4_letFall 13 = .ok (.invokevirtual 117, 3) := by decide +kernel
theorem dX4_letFall_16 : decode cX4_letFall 16 = .ok (.putfield 121, 3) := by decide +kernel
theorem dX4_letFall_19 : decode cX4_letFall 19 = .ok (.aload_n 3, 1) := by decide +kernel
theorem dX4_letFall_20 : decode cX4_letFall 20 = .ok (.getfield 44, 3) := by decide +kernel
theorem dX4_letFall_23 : decode cX4_letFall 23 = .ok (.astore_n 3, 1) := by decide +kernel
theorem dX4_letFall_24 : decode cX4_letFall 24 = .ok (.goto (-19), 3) := by decide +kernel
theorem dX4_letFall_27 : decode cX4_letFall 27 = .ok (.iconst 0, 1) := by decide +kernel
theorem dX4_letFall_28 : decode cX4_letFall 28 = .ok (.istore_n 3, 1) := by decide +kernel
theorem dX4_letFall_29 : decode cX4_letFall 29 = .ok (.aload_n 0, 1) := by decide +kernel
theorem dX4_letFall_30 : decode cX4_letFall 30 = .ok (.getfield 37, 3) := by decide +kernel
theorem dX4_letFall_33 : decode cX4_letFall 33 = .ok (.astore 4, 2) := by decide +kernel
theorem dX4_letFall_35 : decode cX4_letFall 35 = .ok (.aload 4, 2) := by decide +kernel
theorem dX4_letFall_37 : decode cX4_letFall 37 = .ok (.ifnull 37, 3) := by decide +kernel
theorem dX4_letFall_40 : decode cX4_letFall 40 = .ok (.aload 4, 2) := by decide +kernel
theorem dX4_letFall_42 : decode cX4_letFall 42 = .ok (.getfield 121, 3) := by decide +kernel
theorem dX4_letFall_45 : decode cX4_letFall 45 = .ok (.ifCond .eq 19, 3) := by decide +kernel
theorem dX4_letFall_48 : decode cX4_letFall 48 = .ok (.aload_n 0, 1) := by decide +kernel
theorem dX4_letFall_49 : decode cX4_letFall 49 = .ok (.aload 4, 2) := by decide +kernel
theorem dX4_letFall_51 : decode cX4_letFall 51 = .ok (.iconst 4, 1) := by decide +kernel
theorem dX4_letFall_52 : decode cX4_letFall 52 = .ok (.invokevirtual 125, 3) := by decide +kernel
theorem dX4_letFall_55 : decode cX4_letFall 55 = .ok (.aload 4, 2) := by decide +kernel
theorem dX4_letFall_57 : decode cX4_letFall 57 = .ok (.aload_n 2, 1) := by decide +kernel
theorem dX4_letFall_58 : decode cX4_letFall 58 = .ok (.putfield 129, 3) := by decide +kernel
theorem dX4_letFall_61 : decode cX4_letFall 61 = .ok (.iinc 3 1, 3) := by decide +kernel
theorem dX4_letFall_64 : decode cX4_letFall 64 = .ok (.aload 4, 2) := by decide +kernel
theorem dX4_letFall_66 : decode cX4_letFall 66 = .ok (.getfield 44, 3) := by decide +kernel
theorem dX4_letFall_69 : decode cX4_letFall 69 = .ok (.astore 4, 2) := by decide +kernel
theorem dX4_letFall_71 : decode cX4_letFall 71 = .ok (.goto (-36), 3) := by decide +kernel
theorem dX4_letFall_74 : decode cX4_letFall 74 = .ok (.iload_n 3, 1) := by decide +kernel
theorem dX4_letFall_75 : decode cX4_letFall 75 = .ok (.ireturn, 1) := by decide +kernel
def vb_X4_letFall_35 (post : Int32 → mj_M → Prop) : Nat → Nat → Nat → Int32 → Nat → mj_M → Prop
  | 0 => fun _ _ _ _ _ => False
  | f + 1 => fun l0 l2 l3 l4 M => if l4 = 0 then (post l3 M) else (mj_tag M l4 = 4 ∧ if (mj_i M l4 14) = 0 then (vb_X4_letFall_35 post f l0 l2 l3 (mj_r M l4 1) M) else (mj_tag M l0 = 5 ∧ vc_X4_close l0 l4 4 M (fun _ M5 => mj_tag M5 l4 = 4 ∧ vb_X4_letFall_35 post f l0 l2 (l3 + 1) (mj_r (mj_wr M5 l4 13 l2) l4 1) (mj_wr M5 l4 13 l2))))
def vb_X4_letFall_5 (post : Int32 → mj_M → Prop) : Nat → Nat → Nat → Nat → Nat → mj_M → Prop
  | 0 => fun _ _ _ _ _ => False
  | f + 1 => fun l0 l1 l2 l3 M => if l3 = 0 then (mj_tag M l0 = 5 ∧ ∃ fe, vb_X4_letFall_35 post fe l0 l2 0 (mj_r M l0 1) M) else (mj_tag M l0 = 5 ∧ vc_X4_hangsFrom l0 l3 l1 M (fun r10 M11 => mj_tag M11 l3 = 4 ∧ vb_X4_letFall_5 post f l0 l1 l2 (mj_r M11 l3 1) (mj_wi M11 l3 14 (mj_b r10))))
def vc_X4_letFall (l0 : Nat) (l1 : Nat) (l2 : Nat) (M : mj_M) (post : Int32 → mj_M → Prop) : Prop := mj_tag M l0 = 5 ∧ ∃ fe, vb_X4_letFall_5 post fe l0 l1 l2 (mj_r M l0 1) M
set_option maxHeartbeats 4000000 in
set_option maxRecDepth 100000 in
theorem xb_X4_letFall_35 {g : mj_G} {post : Int32 → mj_M → Prop} (hC : mj_C g yX4_letFall cX4_letFall 5 (some .int) rm_X4_letFall) (hE : mj_E g mj_jI post 0 0) : ∀ (f : Nat) (l0 : Nat) (l2 : Nat) (l3 : Int32) (l4 : Nat) (M : mj_M), vb_X4_letFall_35 post f l0 l2 l3 l4 M → mj_X g 35 [(0, vR l0), (2, vR l2), (3, vI l3), (4, vR l4)] [] M 0 0 := by
  intro f
  induction f with
  | zero => exact fun _ _ _ _ _ h => absurd h (fun z => z)
  | succ f ih =>
    intro l0 l2 l3 l4 M h
    simp only [vb_X4_letFall_35] at h
    refine mx_aload (j := 3) hC dX4_letFall_35 rfl ?_
    refine mx_ifnull (tgt := 74) hC dX4_letFall_37 (by decide) (fun hc1 => ?_) (fun hc1 => ?_)
    · replace h := mj_yy hc1 h
      refine mx_iload_n (j := 2) hC dX4_letFall_74 rfl rfl ?_
      exact mx_iret hC hE rfl dX4_letFall_75 h
    · replace h := mj_nn hc1 h
      refine mx_aload (j := 3) hC dX4_letFall_40 rfl ?_
      obtain ⟨ht2, h⟩ := h
      refine mx_get (v := vI (mj_i M l4 14)) hC tf_X4_121 ht2 rfl dX4_letFall_42 ?_
      refine mx_ifeq (tgt := 64) hC dX4_letFall_45 (by decide) (fun hc3 => ?_) (fun hc3 => ?_)
      · replace h := mj_yy hc3 h
        refine mx_aload (j := 3) hC dX4_letFall_64 rfl ?_
        refine mx_get (v := vR (mj_r M l4 1)) hC tf_X4_44 ht2 rfl dX4_letFall_66 ?_
        refine mx_astore (L' := [(4, vR (mj_r M l4 1)), (0, vR l0), (2, vR l2), (3, vI l3)]) hC dX4_letFall_69 (by decide) rfl ?_
        refine mx_goto (tgt := 35) hC dX4_letFall_71 (by decide) ?_
        refine mx_sub (L' := [(0, vR l0), (2, vR l2), (3, vI l3), (4, vR (mj_r M l4 1))]) [1, 2, 3, 0] rfl ?_
        exact show mj_X g 35 [(0, vR l0), (2, vR l2), (3, vI l3), (4, vR (mj_r M l4 1))] [] M 0 0 from (ih l0 l2 l3 (mj_r M l4 1) M h)
      · replace h := mj_nn hc3 h
        refine mx_aload_n (j := 0) hC dX4_letFall_48 rfl rfl ?_
        refine mx_aload (j := 3) hC dX4_letFall_49 rfl ?_
        refine mx_iconst (v := 4) hC dX4_letFall_51 (by decide) ?_
        obtain ⟨ht4, h⟩ := h
        refine mx_callV (inj := mj_jV) (As := [vR l4, vI 4]) (st := []) hC (ct_X4_close l0 l4 4 M _ h) ty_X4_close tw953 ht4 rfl (Nat.le_of_ble_eq_true rfl) ⟨rfl, rfl, ⟨by decide, by decide⟩, by decide, by decide⟩ dX4_letFall_52 (fun _ M5 h => ?_)
        show mj_X g 55 [(0, vR l0), (2, vR l2), (3, vI l3), (4, vR l4)] [] M5 0 0
        refine mx_aload (j := 3) hC dX4_letFall_55 rfl ?_
        refine mx_aload_n (j := 1) hC dX4_letFall_57 rfl rfl ?_
        obtain ⟨ht6, h⟩ := h
        refine mx_put (v := vR l2) (M1 := mj_wr M5 l4 13 l2) hC tf_X4_129 ht6 (Or.inl rfl) (mj_fitR l2 _) (mj_off_wr _ _ _ _) mj_put_wr dX4_letFall_58 ?_
        refine mx_iinc (j := 2) (v := l3 + 1) (L' := [(3, vI (l3 + 1)), (0, vR l0), (2, vR l2), (4, vR l4)]) hC dX4_letFall_61 rfl rfl (by decide) rfl ?_
        refine mx_aload (j := 3) hC dX4_letFall_64 rfl ?_
        refine mx_get (v := vR (mj_r (mj_wr M5 l4 13 l2) l4 1)) hC tf_X4_44 ht6 rfl dX4_letFall_66 ?_
        refine mx_astore (L' := [(4, vR (mj_r (mj_wr M5 l4 13 l2) l4 1)), (3, vI (l3 + 1)), (0, vR l0), (2, vR l2)]) hC dX4_letFall_69 (by decide) rfl ?_
        refine mx_goto (tgt := 35) hC dX4_letFall_71 (by decide) ?_
        refine mx_sub (L' := [(0, vR l0), (2, vR l2), (3, vI (l3 + 1)), (4, vR (mj_r (mj_wr M5 l4 13 l2) l4 1))]) [2, 3, 1, 0] rfl ?_
        exact show mj_X g 35 [(0, vR l0), (2, vR l2), (3, vI (l3 + 1)), (4, vR (mj_r (mj_wr M5 l4 13 l2) l4 1))] [] (mj_wr M5 l4 13 l2) 0 0 from (ih l0 l2 (l3 + 1) (mj_r (mj_wr M5 l4 13 l2) l4 1) (mj_wr M5 l4 13 l2) h)
set_option maxHeartbeats 4000000 in
set_option maxRecDepth 100000 in
theorem xb_X4_letFall_5 {g : mj_G} {post : Int32 → mj_M → Prop} (hC : mj_C g yX4_letFall cX4_letFall 5 (some .int) rm_X4_letFall) (hE : mj_E g mj_jI post 0 0) : ∀ (f : Nat) (l0 : Nat) (l1 : Nat) (l2 : Nat) (l3 : Nat) (M : mj_M), vb_X4_letFall_5 post f l0 l1 l2 l3 M → mj_X g 5 [(0, vR l0), (1, vR l1), (2, vR l2), (3, vR l3)] [] M 0 0 := by
  intro f
  induction f with
  | zero => exact fun _ _ _ _ _ h => absurd h (fun z => z)
  | succ f ih =>
    intro l0 l1 l2 l3 M h
    simp only [vb_X4_letFall_5] at h
    refine mx_aload_n (j := 3) hC dX4_letFall_5 rfl rfl ?_
    refine mx_ifnull (tgt := 27) hC dX4_letFall_6 (by decide) (fun hc7 => ?_) (fun hc7 => ?_)
    · replace h := mj_yy hc7 h
      refine mx_iconst (v := 0) hC dX4_letFall_27 (by decide) ?_
      refine mx_istore_n (L' := [(3, vI 0), (0, vR l0), (1, vR l1), (2, vR l2)]) hC dX4_letFall_28 rfl (by decide) rfl ?_
      refine mx_aload_n (j := 1) hC dX4_letFall_29 rfl rfl ?_
      obtain ⟨ht8, h⟩ := h
      refine mx_get (v := vR (mj_r M l0 1)) hC tf_X4_37 ht8 rfl dX4_letFall_30 ?_
      refine mx_astore (L' := [(4, vR (mj_r M l0 1)), (3, vI 0), (0, vR l0), (1, vR l1), (2, vR l2)]) hC dX4_letFall_33 (by decide) rfl ?_
      refine mx_sub (L' := [(0, vR l0), (2, vR l2), (3, vI 0), (4, vR (mj_r M l0 1))]) [2, 4, 1, 0] rfl ?_
      obtain ⟨fe, h⟩ := h
      exact show mj_X g 35 [(0, vR l0), (2, vR l2), (3, vI 0), (4, vR (mj_r M l0 1))] [] M 0 0 from (xb_X4_letFall_35 hC hE fe l0 l2 0 (mj_r M l0 1) M h)
    · replace h := mj_nn hc7 h
      refine mx_aload_n (j := 3) hC dX4_letFall_9 rfl rfl ?_
      refine mx_aload_n (j := 0) hC dX4_letFall_10 rfl rfl ?_
      refine mx_aload_n (j := 3) hC dX4_letFall_11 rfl rfl ?_
      refine mx_aload_n (j := 1) hC dX4_letFall_12 rfl rfl ?_
      obtain ⟨ht9, h⟩ := h
      refine mx_callV (inj := mj_jB) (As := [vR l3, vR l1]) (st := [vR l3]) hC (ct_X4_hangsFrom l0 l3 l1 M _ h) ty_X4_hangsFrom tw959 ht9 rfl (Nat.le_of_ble_eq_true rfl) ⟨rfl, rfl, ⟨by decide, by decide⟩, by decide, by decide⟩ dX4_letFall_13 (fun r10 M11 h => ?_)
      show mj_X g 16 [(0, vR l0), (1, vR l1), (2, vR l2), (3, vR l3)] [vI (mj_b r10), vR l3] M11 0 0
      obtain ⟨ht12, h⟩ := h
      refine mx_put (v := vI (mj_b r10)) (M1 := mj_wi M11 l3 14 (mj_b r10)) hC tf_X4_121 ht12 (Or.inl rfl) (mj_fitZ r10) (mj_off_wi _ _ _ _) mj_put_wz dX4_letFall_16 ?_
      refine mx_aload_n (j := 3) hC dX4_letFall_19 rfl rfl ?_
      refine mx_get (v := vR (mj_r M11 l3 1)) hC tf_X4_44 ht12 rfl dX4_letFall_20 ?_
      refine mx_astore_n (L' := [(3, vR (mj_r M11 l3 1)), (0, vR l0), (1, vR l1), (2, vR l2)]) hC dX4_letFall_23 rfl (by decide) rfl ?_
      refine mx_goto (tgt := 5) hC dX4_letFall_24 (by decide) ?_
      refine mx_sub (L' := [(0, vR l0), (1, vR l1), (2, vR l2), (3, vR (mj_r M11 l3 1))]) [1, 2, 3, 0] rfl ?_
      exact show mj_X g 5 [(0, vR l0), (1, vR l1), (2, vR l2), (3, vR (mj_r M11 l3 1))] [] (mj_wi M11 l3 14 (mj_b r10)) 0 0 from (ih l0 l1 l2 (mj_r M11 l3 1) (mj_wi M11 l3 14 (mj_b r10)) h)
set_option maxHeartbeats 4000000 in
set_option maxRecDepth 100000 in
theorem ct_X4_letFall {l : Launch} {base : Nat} {D : va_G} {A : ClassId × ClassId × ClassId} (l0 : Nat) (l1 : Nat) (l2 : Nat) (M : mj_M) (post : Int32 → mj_M → Prop) (h : vc_X4_letFall l0 l1 l2 M post) : mj_Met l base D A mj_jI yX4_letFall cX4_letFall 5 (some .int) rm_X4_letFall 0 0 [vR l0, vR l1, vR l2] M post := by
  refine mj_entry (by decide +kernel) (Nat.le_of_ble_eq_true rfl) (fun g hC hE h1 h2 h3 h4 => ?_)
  show mj_X g 0 [(0, vR l0), (1, vR l1), (2, vR l2)] [] M 0 0
  simp only [vc_X4_letFall] at h
  refine mx_aload_n (j := 0) hC dX4_letFall_0 rfl rfl ?_
  obtain ⟨ht13, h⟩ := h
  refine mx_get (v := vR (mj_r M l0 1)) hC tf_X4_37 ht13 rfl dX4_letFall_1 ?_
  refine mx_astore_n (L' := [(3, vR (mj_r M l0 1)), (0, vR l0), (1, vR l1), (2, vR l2)]) hC dX4_letFall_4 rfl (by decide) rfl ?_
  refine mx_sub (L' := [(0, vR l0), (1, vR l1), (2, vR l2), (3, vR (mj_r M l0 1))]) [1, 2, 3, 0] rfl ?_
  obtain ⟨fe, h⟩ := h
  exact show mj_X g 5 [(0, vR l0), (1, vR l1), (2, vR l2), (3, vR (mj_r M l0 1))] [] M 0 0 from (xb_X4_letFall_5 hC hE fe l0 l1 l2 (mj_r M l0 1) M h)
theorem tw1152 : (Jvm.Cond.methodLink "LeaseLand$Land" (132 : Nat) ({ cls := "LeaseLand$Land", name := "isInForce", desc := "(LLeaseLand$Holding;)Z" } : Jvm.MethodName)) ∈ mj_tbl := mj_w 1205 (by decide +kernel) (by decide +kernel)
theorem tw937 : (Jvm.Cond.methodLink "LeaseLand$Land" (135 : Nat) ({ cls := "LeaseLand$Land", name := "isInTheWay", desc := "(LLeaseLand$Holding;II)Z" } : Jvm.MethodName)) ∈ mj_tbl := mj_w 990 (by decide +kernel) (by decide +kernel)
theorem tw461 : (Jvm.Cond.code ({ cls := "LeaseLand$Land", name := "isInForce", desc := "(LLeaseLand$Holding;)Z" } : Jvm.MethodName) prog_6_method_3_code (2 : Nat) (Option.some Jvm.ClassFile.FieldType.boolean)) ∈ mj_tbl := mj_w 514 (by decide +kernel) (by decide +kernel)
theorem tw459 : (Jvm.Cond.instanceMethod ({ cls := "LeaseLand$Land", name := "isInForce", desc := "(LLeaseLand$Holding;)Z" } : Jvm.MethodName)) ∈ mj_tbl := mj_w 512 (by decide +kernel) (by decide +kernel)
theorem tw460 : (Jvm.Cond.selects "LeaseLand$Land" ({ cls := "LeaseLand$Land", name := "isInForce", desc := "(LLeaseLand$Holding;)Z" } : Jvm.MethodName) ({ cls := "LeaseLand$Land", name := "isInForce", desc := "(LLeaseLand$Holding;)Z" } : Jvm.MethodName)) ∈ mj_tbl := mj_w 513 (by decide +kernel) (by decide +kernel)
theorem ty_X4_isInForce : mj_YV 4 yX4_isInForce cX4_isInForce 2 (some .boolean) 1 := ⟨⟨tw461, tw2, by decide +kernel, by decide +kernel, by decide +kernel⟩, tw459, tw460, _, rfl, rfl⟩
theorem tw940 : (Jvm.Cond.code ({ cls := "LeaseLand$Land", name := "isInTheWay", desc := "(LLeaseLand$Holding;II)Z" } : Jvm.MethodName) prog_6_method_10_code (4 : Nat) (Option.some Jvm.ClassFile.FieldType.boolean)) ∈ mj_tbl := mj_w 993 (by decide +kernel) (by decide +kernel)
theorem tw938 : (Jvm.Cond.instanceMethod ({ cls := "LeaseLand$Land", name := "isInTheWay", desc := "(LLeaseLand$Holding;II)Z" } : Jvm.MethodName)) ∈ mj_tbl := mj_w 991 (by decide +kernel) (by decide +kernel)
theorem tw939 : (Jvm.Cond.selects "LeaseLand$Land" ({ cls := "LeaseLand$Land", name := "isInTheWay", desc := "(LLeaseLand$Holding;II)Z" } : Jvm.MethodName) ({ cls := "LeaseLand$Land", name := "isInTheWay", desc := "(LLeaseLand$Holding;II)Z" } : Jvm.MethodName)) ∈ mj_tbl := mj_w 992 (by decide +kernel) (by decide +kernel)
theorem ty_X4_isInTheWay : mj_YV 4 yX4_isInTheWay cX4_isInTheWay 4 (some .boolean) 3 := ⟨⟨tw940, tw2, by decide +kernel, by decide +kernel, by decide +kernel⟩, tw938, tw939, _, rfl, rfl⟩
def rm_X4_canStandAgain : Room := { frames := 4, cells := 0, slots := 0, locals := 93 }
theorem dX4_canStandAgain_0 : decode cX4_canStandAgain 0 = .ok (.aload_n 1, 1) := by decide +kernel
theorem dX4_canStandAgain_1 : decode cX4_canStandAgain 1 = .ok (.getfield 51, 3) := by decide +kernel
theorem dX4_canStandAgain_4 : decode cX4_canStandAgain 4 = .ok (.astore_n 2, 1) := by decide +kernel
theorem dX4_canStandAgain_5 : decode cX4_canStandAgain 5 = .ok (.aload_n 2, 1) := by decide +kernel
theorem dX4_canStandAgain_6 : decode cX4_canStandAgain 6 = .ok (.ifnull 26, 3) := by decide +kernel
theorem dX4_canStandAgain_9 : decode cX4_canStandAgain 9 = .ok (.aload_n 0, 1) := by decide +kernel
theorem dX4_canStandAgain_10 : decode cX4_canStandAgain 10 = .ok (.aload_n 2, 1) := by decide +kernel
theorem dX4_canStandAgain_11 : decode cX4_canStandAgain 11 = .ok (.invokevirtual 132, 3) := by decide +kernel
theorem dX4_canStandAgain_14 : decode cX4_canStandAgain 14 = .ok (.ifCond .eq 18, 3) := by decide +kernel
theorem dX4_canStandAgain_17 : decode cX4_canStandAgain 17 = .ok (.aload_n 2, 1) := by decide +kernel
theorem dX4_canStandAgain_18 : decode cX4_canStandAgain 18 = .ok (.aload_n 1, 1) := by decide +kernel
theorem dX4_canStandAgain_19 : decode cX4_canStandAgain 19 = .ok (.getfield 57, 3) := by decide +kernel
theorem dX4_canStandAgain_22 : decode cX4_canStandAgain 22 = .ok (.invokevirtual 95, 3) := by decide +kernel
theorem dX4_canStandAgain_25 : decode cX4_canStandAgain 25 = .ok (.ifCond .eq 7, 3) := by decide +kernel
theorem dX4_canStandAgain_28 : decode cX4_canStandAgain 28 = .ok (.iconst 1, 1) := by decide +kernel
theorem dX4_canStandAgain_29 : decode cX4_canStandAgain 29 = .ok (.goto 4, 3) := by decide +kernel
theorem dX4_canStandAgain_32 : decode cX4_canStandAgain 32 = .ok (.iconst 0, 1) := by decide +kernel
theorem dX4_canStandAgain_33 : decode cX4_canStandAgain 33 = .ok (.istore_n 3, 1) := by decide +kernel
theorem dX4_canStandAgain_34 : decode cX4_canStandAgain 34 = .ok (.iload_n 3, 1) := by decide +kernel
theorem dX4_canStandAgain_35 : decode cX4_canStandAgain 35 = .ok (.ifCond .eq 23, 3) := by decide +kernel
theorem dX4_canStandAgain_38 : decode cX4_canStandAgain 38 = .ok (.aload_n 0, 1) := by decide +kernel
theorem dX4_canStandAgain_39 : decode cX4_canStandAgain 39 = .ok (.aload_n 1, 1) := by decide +kernel
theorem dX4_canStandAgain_40 : decode cX4_canStandAgain 40 = .ok (.aload_n 0, 1) := by decide +kernel
theorem dX4_canStandAgain_41 : decode cX4_canStandAgain 41 = .ok (.getfield 28, 3) := by decide +kernel
theorem dX4_canStandAgain_44 : decode cX4_canStandAgain 44 = .ok (.aload_n 1, 1) := by decide +kernel
theorem dX4_canStandAgain_45 : decode cX4_canStandAgain 45 = .ok (.getfield 88, 3) := by decide +kernel
theorem dX4_canStandAgain_48 : decode cX4_canStandAgain 48 = .ok (.invokevirtual 135, 3) := by decide +kernel
theorem dX4_canStandAgain_51 : decode cX4_canStandAgain 51 = .ok (.ifCond .ne 7, 3) := by decide +kernel
theorem dX4_canStandAgain_54 : decode cX4_canStandAgain 54 = .ok (.iconst 1, 1) := by decide +kernel
theorem dX4_canStandAgain_55 : decode cX4_canStandAgain 55 = .ok (.goto 4, 3) := by decide +kernel
theorem dX4_canStandAgain_58 : decode cX4_canStandAgain 58 = .ok (.iconst 0, 1) := by decide +kernel
theorem dX4_canStandAgain_59 : decode cX4_canStandAgain 59 = .ok (.ireturn, 1) := by decide +kernel
def vb_X4_canStandAgain_33 (post : Bool → mj_M → Prop) (l0 : Nat) (l1 : Nat) (s0 : Bool) (M : mj_M) : Prop := if s0 = true then (mj_tag M l0 = 5 ∧ mj_tag M l1 = 4 ∧ vc_X4_isInTheWay l0 l1 (mj_i M l0 0) (mj_i M l1 5) M (fun r4 M5 => if r4 = true then (post false M5) else (post true M5))) else (post false M)
def vb_X4_canStandAgain_32 (post : Bool → mj_M → Prop) (l0 : Nat) (l1 : Nat) (M : mj_M) : Prop := vb_X4_canStandAgain_33 post l0 l1 false M
def vc_X4_canStandAgain (l0 : Nat) (l1 : Nat) (M : mj_M) (post : Bool → mj_M → Prop) : Prop := mj_tag M l1 = 4 ∧ if (mj_r M l1 2) = 0 then (vb_X4_canStandAgain_32 post l0 l1 M) else (mj_tag M l0 = 5 ∧ vc_X4_isInForce l0 (mj_r M l1 2) M (fun r10 M11 => if r10 = true then (mj_tag M11 l1 = 4 ∧ mj_tag M11 (mj_r M l1 2) = 4 ∧ vc_X3_hasFloors (mj_r M l1 2) (mj_i M11 l1 3) M11 (fun r15 M16 => if r15 = true then (vb_X4_canStandAgain_33 post l0 l1 true M16) else (vb_X4_canStandAgain_32 post l0 l1 M16))) else (vb_X4_canStandAgain_32 post l0 l1 M11)))
set_option maxHeartbeats 4000000 in
set_option maxRecDepth 100000 in
theorem xb_X4_canStandAgain_33 {g : mj_G} {post : Bool → mj_M → Prop} (hC : mj_C g yX4_canStandAgain cX4_canStandAgain 4 (some .boolean) rm_X4_canStandAgain) (hE : mj_E g mj_jB post 0 0) (l0 : Nat) (l1 : Nat) (s0 : Bool) (M : mj_M) (h : vb_X4_canStandAgain_33 post l0 l1 s0 M) : mj_X g 33 [(0, vR l0), (1, vR l1)] [vI (mj_b s0)] M 0 0 := by
  simp only [vb_X4_canStandAgain_33] at h
  refine mx_istore_n (L' := [(3, vI (mj_b s0)), (0, vR l0), (1, vR l1)]) hC dX4_canStandAgain_33 rfl (by decide) rfl ?_
  refine mx_iload_n (j := 0) hC dX4_canStandAgain_34 rfl rfl ?_
  refine mx_ifeqB (tgt := 58) hC dX4_canStandAgain_35 (by decide) (fun hc1 => ?_) (fun hc1 => ?_)
  · replace h := mj_nn hc1 h
    refine mx_iconst (v := 0) hC dX4_canStandAgain_58 (by decide) ?_
    exact mx_zret (b := false) hC hE rfl dX4_canStandAgain_59 h
  · replace h := mj_yy hc1 h
    refine mx_aload_n (j := 1) hC dX4_canStandAgain_38 rfl rfl ?_
    refine mx_aload_n (j := 2) hC dX4_canStandAgain_39 rfl rfl ?_
    refine mx_aload_n (j := 1) hC dX4_canStandAgain_40 rfl rfl ?_
    obtain ⟨ht2, h⟩ := h
    refine mx_get (v := vI (mj_i M l0 0)) hC tf_X4_28 ht2 rfl dX4_canStandAgain_41 ?_
    refine mx_aload_n (j := 2) hC dX4_canStandAgain_44 rfl rfl ?_
    obtain ⟨ht3, h⟩ := h
    refine mx_get (v := vI (mj_i M l1 5)) hC tf_X4_88 ht3 rfl dX4_canStandAgain_45 ?_
    refine mx_callV (inj := mj_jB) (As := [vR l1, vI (mj_i M l0 0), vI (mj_i M l1 5)]) (st := []) hC (ct_X4_isInTheWay l0 l1 (mj_i M l0 0) (mj_i M l1 5) M _ h) ty_X4_isInTheWay tw937 ht2 rfl (Nat.le_of_ble_eq_true rfl) ⟨rfl, rfl, ⟨by decide, by decide⟩, by decide, by decide⟩ dX4_canStandAgain_48 (fun r4 M5 h => ?_)
    show mj_X g 51 [(3, vI (mj_b s0)), (0, vR l0), (1, vR l1)] [vI (mj_b r4)] M5 0 0
    refine mx_ifneB (tgt := 58) hC dX4_canStandAgain_51 (by decide) (fun hc6 => ?_) (fun hc6 => ?_)
    · replace h := mj_yy hc6 h
      refine mx_iconst (v := 0) hC dX4_canStandAgain_58 (by decide) ?_
      exact mx_zret (b := false) hC hE rfl dX4_canStandAgain_59 h
    · replace h := mj_nn hc6 h
      refine mx_iconst (v := 1) hC dX4_canStandAgain_54 (by decide) ?_
      refine mx_goto (tgt := 59) hC dX4_canStandAgain_55 (by decide) ?_
      exact mx_zret (b := true) hC hE rfl dX4_canStandAgain_59 h
set_option maxHeartbeats 4000000 in
set_option maxRecDepth 100000 in
theorem xb_X4_canStandAgain_32 {g : mj_G} {post : Bool → mj_M → Prop} (hC : mj_C g yX4_canStandAgain cX4_canStandAgain 4 (some .boolean) rm_X4_canStandAgain) (hE : mj_E g mj_jB post 0 0) (l0 : Nat) (l1 : Nat) (M : mj_M) (h : vb_X4_canStandAgain_32 post l0 l1 M) : mj_X g 32 [(0, vR l0), (1, vR l1)] [] M 0 0 := by
  simp only [vb_X4_canStandAgain_32] at h
  refine mx_iconst (v := 0) hC dX4_canStandAgain_32 (by decide) ?_
  refine mx_sub (L' := [(0, vR l0), (1, vR l1)]) [0, 1] rfl ?_
  exact show mj_X g 33 [(0, vR l0), (1, vR l1)] [vI (mj_b false)] M 0 0 from (xb_X4_canStandAgain_33 hC hE l0 l1 false M h)
set_option maxHeartbeats 4000000 in
set_option maxRecDepth 100000 in
theorem ct_X4_canStandAgain {l : Launch} {base : Nat} {D : va_G} {A : ClassId × ClassId × ClassId} (l0 : Nat) (l1 : Nat) (M : mj_M) (post : Bool → mj_M → Prop) (h : vc_X4_canStandAgain l0 l1 M post) : mj_Met l base D A mj_jB yX4_canStandAgain cX4_canStandAgain 4 (some .boolean) rm_X4_canStandAgain 0 0 [vR l0, vR l1] M post := by
  refine mj_entry (by decide +kernel) (Nat.le_of_ble_eq_true rfl) (fun g hC hE h1 h2 h3 h4 => ?_)
  show mj_X g 0 [(0, vR l0), (1, vR l1)] [] M 0 0
  simp only [vc_X4_canStandAgain] at h
  refine mx_aload_n (j := 1) hC dX4_canStandAgain_0 rfl rfl ?_
  obtain ⟨ht7, h⟩ := h
  refine mx_get (v := vR (mj_r M l1 2)) hC tf_X4_51 ht7 rfl dX4_canStandAgain_1 ?_
  refine mx_astore_n (L' := [(2, vR (mj_r M l1 2)), (0, vR l0), (1, vR l1)]) hC dX4_canStandAgain_4 rfl (by decide) rfl ?_
  refine mx_aload_n (j := 0) hC dX4_canStandAgain_5 rfl rfl ?_
  refine mx_ifnull (tgt := 32) hC dX4_canStandAgain_6 (by decide) (fun hc8 => ?_) (fun hc8 => ?_)
  · replace h := mj_yy hc8 h
    refine mx_sub (L' := [(0, vR l0), (1, vR l1)]) [1, 2] rfl ?_
    exact show mj_X g 32 [(0, vR l0), (1, vR l1)] [] M 0 0 from (xb_X4_canStandAgain_32 hC hE l0 l1 M h)
  · replace h := mj_nn hc8 h
    refine mx_aload_n (j := 1) hC dX4_canStandAgain_9 rfl rfl ?_
    refine mx_aload_n (j := 0) hC dX4_canStandAgain_10 rfl rfl ?_
    obtain ⟨ht9, h⟩ := h
    refine mx_callV (inj := mj_jB) (As := [vR (mj_r M l1 2)]) (st := []) hC (ct_X4_isInForce l0 (mj_r M l1 2) M _ h) ty_X4_isInForce tw1152 ht9 rfl (Nat.le_of_ble_eq_true rfl) ⟨rfl, rfl, ⟨by decide, by decide⟩, by decide, by decide⟩ dX4_canStandAgain_11 (fun r10 M11 h => ?_)
    show mj_X g 14 [(2, vR (mj_r M l1 2)), (0, vR l0), (1, vR l1)] [vI (mj_b r10)] M11 0 0
    refine mx_ifeqB (tgt := 32) hC dX4_canStandAgain_14 (by decide) (fun hc12 => ?_) (fun hc12 => ?_)
    · replace h := mj_nn hc12 h
      refine mx_sub (L' := [(0, vR l0), (1, vR l1)]) [1, 2] rfl ?_
      exact show mj_X g 32 [(0, vR l0), (1, vR l1)] [] M11 0 0 from (xb_X4_canStandAgain_32 hC hE l0 l1 M11 h)
    · replace h := mj_yy hc12 h
      refine mx_aload_n (j := 0) hC dX4_canStandAgain_17 rfl rfl ?_
      refine mx_aload_n (j := 2) hC dX4_canStandAgain_18 rfl rfl ?_
      obtain ⟨ht13, h⟩ := h
      refine mx_get (v := vI (mj_i M11 l1 3)) hC tf_X4_57 ht13 rfl dX4_canStandAgain_19 ?_
      obtain ⟨ht14, h⟩ := h
      refine mx_callV (inj := mj_jB) (As := [vI (mj_i M11 l1 3)]) (st := []) hC (ct_X3_hasFloors (mj_r M l1 2) (mj_i M11 l1 3) M11 _ h) ty_X3_hasFloors tw479 ht14 rfl (Nat.le_of_ble_eq_true rfl) ⟨rfl, rfl, ⟨by decide, by decide⟩, by decide, by decide⟩ dX4_canStandAgain_22 (fun r15 M16 h => ?_)
      show mj_X g 25 [(2, vR (mj_r M l1 2)), (0, vR l0), (1, vR l1)] [vI (mj_b r15)] M16 0 0
      refine mx_ifeqB (tgt := 32) hC dX4_canStandAgain_25 (by decide) (fun hc17 => ?_) (fun hc17 => ?_)
      · replace h := mj_nn hc17 h
        refine mx_sub (L' := [(0, vR l0), (1, vR l1)]) [1, 2] rfl ?_
        exact show mj_X g 32 [(0, vR l0), (1, vR l1)] [] M16 0 0 from (xb_X4_canStandAgain_32 hC hE l0 l1 M16 h)
      · replace h := mj_yy hc17 h
        refine mx_iconst (v := 1) hC dX4_canStandAgain_28 (by decide) ?_
        refine mx_goto (tgt := 33) hC dX4_canStandAgain_29 (by decide) ?_
        refine mx_sub (L' := [(0, vR l0), (1, vR l1)]) [1, 2] rfl ?_
        exact show mj_X g 33 [(0, vR l0), (1, vR l1)] [vI (mj_b true)] M16 0 0 from (xb_X4_canStandAgain_33 hC hE l0 l1 true M16 h)
theorem tw355 : (Jvm.Cond.fieldLink "LeaseLand$Land" (139 : Nat) "LeaseLand$Holding" "breach" "I") ∈ mj_tbl := mj_w 408 (by decide +kernel) (by decide +kernel)
theorem tf_X4_139 : mj_F 3 12 .int false "LeaseLand$Land" 139 := ⟨_, tk3, by decide, rfl, rfl, rfl, tw355⟩
def rm_X4_standAgain : Room := { frames := 0, cells := 0, slots := 0, locals := 0 }
theorem dX4_standAgain_0 : decode cX4_standAgain 0 = .ok (.aload_n 1, 1) := by decide +kernel
theorem dX4_standAgain_1 : decode cX4_standAgain 1 = .ok (.iconst 0, 1) := by decide +kernel
theorem dX4_standAgain_2 : decode cX4_standAgain 2 = .ok (.putfield 111, 3) := by decide +kernel
theorem dX4_standAgain_5 : decode cX4_standAgain 5 = .ok (.aload_n 1, 1) := by decide +kernel
theorem dX4_standAgain_6 : decode cX4_standAgain 6 = .ok (.bipush (-6), 2) := by decide +kernel
theorem dX4_standAgain_8 : decode cX4_standAgain 8 = .ok (.putfield 139, 3) := by decide +kernel
theorem dX4_standAgain_11 : decode cX4_standAgain 11 = .ok (.iconst 1, 1) := by decide +kernel
theorem dX4_standAgain_12 : decode cX4_standAgain 12 = .ok (.istore_n 2, 1) := by decide +kernel
theorem dX4_standAgain_13 : decode cX4_standAgain 13 = .ok (.aload_n 0, 1) := by decide +kernel
theorem dX4_standAgain_14 : decode cX4_standAgain 14 = .ok (.getfield 37, 3) := by decide +kernel
theorem dX4_standAgain_17 : decode cX4_standAgain 17 = .ok (.astore_n 3, 1) := by decide +kernel
theorem dX4_standAgain_18 : decode cX4_standAgain 18 = .ok (.aload_n 3, 1) := by decide +kernel
theorem dX4_standAgain_19 : decode cX4_standAgain 19 = .ok (.ifnull 32, 3) := by decide +kernel
theorem dX4_standAgain_22 : decode cX4_standAgain 22 = .ok (.aload_n 3, 1) := by decide +kernel
theorem dX4_standAgain_23 : decode cX4_standAgain 23 = .ok (.getfield 129, 3) := by decide +kernel
theorem dX4_standAgain_26 : decode cX4_standAgain 26 = .ok (.aload_n 1, 1) := by decide +kernel
theorem dX4_standAgain_27 : decode cX4_standAgain 27 = .ok (.if_acmp .ne 16, 3) := by decide +kernel
theorem dX4_standAgain_30 : decode cX4_standAgain 30 = .ok (.aload_n 3, 1) := by decide +kernel
theorem dX4_standAgain_31 : decode cX4_standAgain 31 = .ok (.iconst 0, 1) := by decide +kernel
theorem dX4_standAgain_32 : decode cX4_standAgain 32 = .ok (.putfield 111, 3) := by decide +kernel
theorem dX4_standAgain_35 : decode cX4_standAgain 35 = .ok (.aload_n 3, 1) := by decide +kernel
theorem dX4_standAgain_36 : decode cX4_standAgain 36 = .ok (.aconst_null, 1) := by decide +kernel
theorem dX4_standAgain_37 : decode cX4_standAgain 37 = .ok (.putfield 129, 3) := by decide +kernel
theorem dX4_standAgain_40 : decode cX4_standAgain 40 = .ok (.iinc 2 1, 3) := by decide +kernel
theorem dX4_standAgain_43 : decode cX4_standAgain 43 = .ok (.aload_n 3, 1) := by decide +kernel
theorem dX4_standAgain_44 : decode cX4_standAgain 44 = .ok (.getfield 44, 3) := by decide +kernel
theorem dX4_standAgain_47 : decode cX4_standAgain 47 = .ok (.astore_n 3, 1) := by decide +kernel
theorem dX4_standAgain_48 : decode cX4_standAgain 48 = .ok (.goto (-30), 3) := by decide +kernel
theorem dX4_standAgain_51 : decode cX4_standAgain 51 = .ok (.iload_n 2, 1) := by decide +kernel
theorem dX4_standAgain_52 : decode cX4_standAgain 52 = .ok (.ireturn, 1) := by decide +kernel
def vb_X4_standAgain_18 (post : Int32 → mj_M → Prop) : Nat → Nat → Int32 → Nat → mj_M → Prop
  | 0 => fun _ _ _ _ => False
  | f + 1 => fun l1 l2 l3 M => if l3 = 0 then (post l2 M) else (mj_tag M l3 = 4 ∧ if (mj_r M l3 13) = l1 then (vb_X4_standAgain_18 post f l1 (l2 + 1) (mj_r (mj_wr (mj_wi M l3 6 0) l3 13 0) l3 1) (mj_wr (mj_wi M l3 6 0) l3 13 0)) else (vb_X4_standAgain_18 post f l1 l2 (mj_r M l3 1) M))
def vc_X4_standAgain (l0 : Nat) (l1 : Nat) (M : mj_M) (post : Int32 → mj_M → Prop) : Prop := mj_tag M l1 = 4 ∧ mj_tag M l0 = 5 ∧ ∃ fe, vb_X4_standAgain_18 post fe l1 1 (mj_r M l0 1) (mj_wi (mj_wi M l1 6 0) l1 12 ((-6)))
set_option maxHeartbeats 4000000 in
set_option maxRecDepth 100000 in
theorem xb_X4_standAgain_18 {g : mj_G} {post : Int32 → mj_M → Prop} (hC : mj_C g yX4_standAgain cX4_standAgain 4 (some .int) rm_X4_standAgain) (hE : mj_E g mj_jI post 0 0) : ∀ (f : Nat) (l1 : Nat) (l2 : Int32) (l3 : Nat) (M : mj_M), vb_X4_standAgain_18 post f l1 l2 l3 M → mj_X g 18 [(1, vR l1), (2, vI l2), (3, vR l3)] [] M 0 0 := by
  intro f
  induction f with
  | zero => exact fun _ _ _ _ h => absurd h (fun z => z)
  | succ f ih =>
    intro l1 l2 l3 M h
    simp only [vb_X4_standAgain_18] at h
    refine mx_aload_n (j := 2) hC dX4_standAgain_18 rfl rfl ?_
    refine mx_ifnull (tgt := 51) hC dX4_standAgain_19 (by decide) (fun hc1 => ?_) (fun hc1 => ?_)
    · replace h := mj_yy hc1 h
      refine mx_iload_n (j := 1) hC dX4_standAgain_51 rfl rfl ?_
      exact mx_iret hC hE rfl dX4_standAgain_52 h
    · replace h := mj_nn hc1 h
      refine mx_aload_n (j := 2) hC dX4_standAgain_22 rfl rfl ?_
      obtain ⟨ht2, h⟩ := h
      refine mx_get (v := vR (mj_r M l3 13)) hC tf_X4_129 ht2 rfl dX4_standAgain_23 ?_
      refine mx_aload_n (j := 0) hC dX4_standAgain_26 rfl rfl ?_
      refine mx_acmpne (tgt := 43) hC dX4_standAgain_27 (by decide) (fun hc3 => ?_) (fun hc3 => ?_)
      · replace h := mj_nn hc3 h
        refine mx_aload_n (j := 2) hC dX4_standAgain_43 rfl rfl ?_
        refine mx_get (v := vR (mj_r M l3 1)) hC tf_X4_44 ht2 rfl dX4_standAgain_44 ?_
        refine mx_astore_n (L' := [(3, vR (mj_r M l3 1)), (1, vR l1), (2, vI l2)]) hC dX4_standAgain_47 rfl (by decide) rfl ?_
        refine mx_goto (tgt := 18) hC dX4_standAgain_48 (by decide) ?_
        refine mx_sub (L' := [(1, vR l1), (2, vI l2), (3, vR (mj_r M l3 1))]) [1, 2, 0] rfl ?_
        exact show mj_X g 18 [(1, vR l1), (2, vI l2), (3, vR (mj_r M l3 1))] [] M 0 0 from (ih l1 l2 (mj_r M l3 1) M h)
      · replace h := mj_yy hc3 h
        refine mx_aload_n (j := 2) hC dX4_standAgain_30 rfl rfl ?_
        refine mx_iconst (v := 0) hC dX4_standAgain_31 (by decide) ?_
        refine mx_put (v := vI 0) (M1 := mj_wi M l3 6 0) hC tf_X4_111 ht2 (Or.inl rfl) ⟨rfl, rfl⟩ (mj_off_wi _ _ _ _) mj_put_wi dX4_standAgain_32 ?_
        refine mx_aload_n (j := 2) hC dX4_standAgain_35 rfl rfl ?_
        refine mx_null hC dX4_standAgain_36 ?_
        refine mx_put (v := vR 0) (M1 := mj_wr (mj_wi M l3 6 0) l3 13 0) hC tf_X4_129 ht2 (Or.inl rfl) (mj_fitR 0 _) (mj_off_wr _ _ _ _) mj_put_wr dX4_standAgain_37 ?_
        refine mx_iinc (j := 1) (v := l2 + 1) (L' := [(2, vI (l2 + 1)), (1, vR l1), (3, vR l3)]) hC dX4_standAgain_40 rfl rfl (by decide) rfl ?_
        refine mx_aload_n (j := 2) hC dX4_standAgain_43 rfl rfl ?_
        refine mx_get (v := vR (mj_r (mj_wr (mj_wi M l3 6 0) l3 13 0) l3 1)) hC tf_X4_44 ht2 rfl dX4_standAgain_44 ?_
        refine mx_astore_n (L' := [(3, vR (mj_r (mj_wr (mj_wi M l3 6 0) l3 13 0) l3 1)), (2, vI (l2 + 1)), (1, vR l1)]) hC dX4_standAgain_47 rfl (by decide) rfl ?_
        refine mx_goto (tgt := 18) hC dX4_standAgain_48 (by decide) ?_
        refine mx_sub (L' := [(1, vR l1), (2, vI (l2 + 1)), (3, vR (mj_r (mj_wr (mj_wi M l3 6 0) l3 13 0) l3 1))]) [2, 1, 0] rfl ?_
        exact show mj_X g 18 [(1, vR l1), (2, vI (l2 + 1)), (3, vR (mj_r (mj_wr (mj_wi M l3 6 0) l3 13 0) l3 1))] [] (mj_wr (mj_wi M l3 6 0) l3 13 0) 0 0 from (ih l1 (l2 + 1) (mj_r (mj_wr (mj_wi M l3 6 0) l3 13 0) l3 1) (mj_wr (mj_wi M l3 6 0) l3 13 0) h)
set_option maxHeartbeats 4000000 in
set_option maxRecDepth 100000 in
theorem ct_X4_standAgain {l : Launch} {base : Nat} {D : va_G} {A : ClassId × ClassId × ClassId} (l0 : Nat) (l1 : Nat) (M : mj_M) (post : Int32 → mj_M → Prop) (h : vc_X4_standAgain l0 l1 M post) : mj_Met l base D A mj_jI yX4_standAgain cX4_standAgain 4 (some .int) rm_X4_standAgain 0 0 [vR l0, vR l1] M post := by
  refine mj_entry (by decide +kernel) (Nat.le_of_ble_eq_true rfl) (fun g hC hE h1 h2 h3 h4 => ?_)
  show mj_X g 0 [(0, vR l0), (1, vR l1)] [] M 0 0
  simp only [vc_X4_standAgain] at h
  refine mx_aload_n (j := 1) hC dX4_standAgain_0 rfl rfl ?_
  refine mx_iconst (v := 0) hC dX4_standAgain_1 (by decide) ?_
  obtain ⟨ht4, h⟩ := h
  refine mx_put (v := vI 0) (M1 := mj_wi M l1 6 0) hC tf_X4_111 ht4 (Or.inl rfl) ⟨rfl, rfl⟩ (mj_off_wi _ _ _ _) mj_put_wi dX4_standAgain_2 ?_
  refine mx_aload_n (j := 1) hC dX4_standAgain_5 rfl rfl ?_
  refine mx_bipush (v := (-6)) hC dX4_standAgain_6 (by decide) ?_
  refine mx_put (v := vI ((-6))) (M1 := mj_wi (mj_wi M l1 6 0) l1 12 ((-6))) hC tf_X4_139 ht4 (Or.inl rfl) ⟨rfl, rfl⟩ (mj_off_wi _ _ _ _) mj_put_wi dX4_standAgain_8 ?_
  refine mx_iconst (v := 1) hC dX4_standAgain_11 (by decide) ?_
  refine mx_istore_n (L' := [(2, vI 1), (0, vR l0), (1, vR l1)]) hC dX4_standAgain_12 rfl (by decide) rfl ?_
  refine mx_aload_n (j := 1) hC dX4_standAgain_13 rfl rfl ?_
  obtain ⟨ht5, h⟩ := h
  refine mx_get (v := vR (mj_r M l0 1)) hC tf_X4_37 ht5 rfl dX4_standAgain_14 ?_
  refine mx_astore_n (L' := [(3, vR (mj_r M l0 1)), (2, vI 1), (0, vR l0), (1, vR l1)]) hC dX4_standAgain_17 rfl (by decide) rfl ?_
  refine mx_sub (L' := [(1, vR l1), (2, vI 1), (3, vR (mj_r M l0 1))]) [3, 1, 0] rfl ?_
  obtain ⟨fe, h⟩ := h
  exact show mj_X g 18 [(1, vR l1), (2, vI 1), (3, vR (mj_r M l0 1))] [] (mj_wi (mj_wi M l1 6 0) l1 12 ((-6))) 0 0 from (xb_X4_standAgain_18 hC hE fe l1 1 (mj_r M l0 1) (mj_wi (mj_wi M l1 6 0) l1 12 ((-6))) h)
theorem tw934 : (Jvm.Cond.constant "LeaseLand$Land" (145 : Nat) (73000 : Int32)) ∈ mj_tbl := mj_w 987 (by decide +kernel) (by decide +kernel)
theorem tw935 : (Jvm.Cond.constant "LeaseLand$Land" (146 : Nat) (32850 : Int32)) ∈ mj_tbl := mj_w 988 (by decide +kernel) (by decide +kernel)
theorem tw936 : (Jvm.Cond.methodLink "LeaseLand$Land" (147 : Nat) ({ cls := "java/lang/Math", name := "min", desc := "(II)I" } : Jvm.MethodName)) ∈ mj_tbl := mj_w 989 (by decide +kernel) (by decide +kernel)
def rm_X4_lengthened : Room := { frames := 1, cells := 0, slots := 0, locals := 21 }
theorem dX4_lengthened_0 : decode cX4_lengthened 0 = .ok (.ldc 145, 2) := by decide +kernel
theorem dX4_lengthened_2 : decode cX4_lengthened 2 = .ok (.aload_n 1, 1) := by decide +kernel
theorem dX4_lengthened_3 : decode cX4_lengthened 3 = .ok (.getfield 88, 3) := by decide +kernel
theorem dX4_lengthened_6 : decode cX4_lengthened 6 = .ok (.ldc 146, 2) := by decide +kernel
theorem dX4_lengthened_8 : decode cX4_lengthened 8 = .ok (.iadd, 1) := by decide +kernel
theorem dX4_lengthened_9 : decode cX4_lengthened 9 = .ok (.invokestatic 147, 3) := by decide +kernel
theorem dX4_lengthened_12 : decode cX4_lengthened 12 = .ok (.ireturn, 1) := by decide +kernel
def vc_X4_lengthened (l0 : Nat) (l1 : Nat) (M : mj_M) (post : Int32 → mj_M → Prop) : Prop := mj_tag M l1 = 4 ∧ vc_J9_min_7cf53 73000 ((mj_i M l1 5) + 32850) M (fun r2 M3 => post r2 M3)
set_option maxHeartbeats 4000000 in
set_option maxRecDepth 100000 in
theorem ct_X4_lengthened {l : Launch} {base : Nat} {D : va_G} {A : ClassId × ClassId × ClassId} (l0 : Nat) (l1 : Nat) (M : mj_M) (post : Int32 → mj_M → Prop) (h : vc_X4_lengthened l0 l1 M post) : mj_Met l base D A mj_jI yX4_lengthened cX4_lengthened 2 (some .int) rm_X4_lengthened 0 0 [vR l0, vR l1] M post := by
  refine mj_entry (by decide +kernel) (Nat.le_of_ble_eq_true rfl) (fun g hC hE h1 h2 h3 h4 => ?_)
  show mj_X g 0 [(0, vR l0), (1, vR l1)] [] M 0 0
  simp only [vc_X4_lengthened] at h
  refine mx_ldc (v := 73000) hC dX4_lengthened_0 tw934 ?_
  refine mx_aload_n (j := 1) hC dX4_lengthened_2 rfl rfl ?_
  obtain ⟨ht1, h⟩ := h
  refine mx_get (v := vI (mj_i M l1 5)) hC tf_X4_88 ht1 rfl dX4_lengthened_3 ?_
  refine mx_ldc (v := 32850) hC dX4_lengthened_6 tw935 ?_
  refine mx_iadd hC dX4_lengthened_8 ?_
  refine mx_callS (inj := mj_jI) (As := [vI 73000, vI ((mj_i M l1 5) + 32850)]) (st := []) hC (ct_J9_min_7cf53 73000 ((mj_i M l1 5) + 32850) M _ h) ty_J9_min_7cf53 tw936 rfl (Nat.le_of_ble_eq_true rfl) ⟨rfl, rfl, ⟨by decide, by decide⟩, by decide, by decide⟩ dX4_lengthened_9 (fun r2 M3 h => ?_)
  show mj_X g 12 [(0, vR l0), (1, vR l1)] [vI r2] M3 0 0
  exact mx_iret hC hE rfl dX4_lengthened_12 h
theorem tw930 : (Jvm.Cond.methodLink "LeaseLand$Land" (142 : Nat) ({ cls := "LeaseLand$Land", name := "lengthened", desc := "(LLeaseLand$Holding;)I" } : Jvm.MethodName)) ∈ mj_tbl := mj_w 983 (by decide +kernel) (by decide +kernel)
theorem tw933 : (Jvm.Cond.code ({ cls := "LeaseLand$Land", name := "lengthened", desc := "(LLeaseLand$Holding;)I" } : Jvm.MethodName) prog_6_method_26_code (2 : Nat) (Option.some Jvm.ClassFile.FieldType.int)) ∈ mj_tbl := mj_w 986 (by decide +kernel) (by decide +kernel)
theorem tw931 : (Jvm.Cond.instanceMethod ({ cls := "LeaseLand$Land", name := "lengthened", desc := "(LLeaseLand$Holding;)I" } : Jvm.MethodName)) ∈ mj_tbl := mj_w 984 (by decide +kernel) (by decide +kernel)
theorem tw932 : (Jvm.Cond.selects "LeaseLand$Land" ({ cls := "LeaseLand$Land", name := "lengthened", desc := "(LLeaseLand$Holding;)I" } : Jvm.MethodName) ({ cls := "LeaseLand$Land", name := "lengthened", desc := "(LLeaseLand$Holding;)I" } : Jvm.MethodName)) ∈ mj_tbl := mj_w 985 (by decide +kernel) (by decide +kernel)
theorem ty_X4_lengthened : mj_YV 4 yX4_lengthened cX4_lengthened 2 (some .int) 1 := ⟨⟨tw933, tw2, by decide +kernel, by decide +kernel, by decide +kernel⟩, tw931, tw932, _, rfl, rfl⟩
def rm_X4_canLengthen : Room := { frames := 4, cells := 0, slots := 0, locals := 93 }
theorem dX4_canLengthen_0 : decode cX4_canLengthen 0 = .ok (.aload_n 0, 1) := by decide +kernel
theorem dX4_canLengthen_1 : decode cX4_canLengthen 1 = .ok (.aload_n 1, 1) := by decide +kernel
theorem dX4_canLengthen_2 : decode cX4_canLengthen 2 = .ok (.invokevirtual 142, 3) := by decide +kernel
theorem dX4_canLengthen_5 : decode cX4_canLengthen 5 = .ok (.istore_n 2, 1) := by decide +kernel
theorem dX4_canLengthen_6 : decode cX4_canLengthen 6 = .ok (.aload_n 1, 1) := by decide +kernel
theorem dX4_canLengthen_7 : decode cX4_canLengthen 7 = .ok (.astore_n 3, 1) := by decide +kernel
theorem dX4_canLengthen_8 : decode cX4_canLengthen 8 = .ok (.aload_n 3, 1) := by decide +kernel
theorem dX4_canLengthen_9 : decode cX4_canLengthen 9 = .ok (.getfield 51, 3) := by decide +kernel
theorem dX4_canLengthen_12 : decode cX4_canLengthen 12 = .ok (.ifnull 26, 3) := by decide +kernel
theorem dX4_canLengthen_15 : decode cX4_canLengthen 15 = .ok (.aload_n 0, 1) := by decide +kernel
theorem dX4_canLengthen_16 : decode cX4_canLengthen 16 = .ok (.aload_n 3, 1) := by decide +kernel
theorem dX4_canLengthen_17 : decode cX4_canLengthen 17 = .ok (.aload_n 3, 1) := by decide +kernel
theorem dX4_canLengthen_18 : decode cX4_canLengthen 18 = .ok (.getfield 88, 3) := by decide +kernel
theorem dX4_canLengthen_21 : decode cX4_canLengthen 21 = .ok (.iload_n 2, 1) := by decide +kernel
theorem dX4_canLengthen_22 : decode cX4_canLengthen 22 = .ok (.invokevirtual 135, 3) := by decide +kernel
theorem dX4_canLengthen_25 : decode cX4_canLengthen 25 = .ok (.ifCond .eq 5, 3) := by decide +kernel
theorem dX4_canLengthen_28 : decode cX4_canLengthen 28 = .ok (.iconst 0, 1) := by decide +kernel
theorem dX4_canLengthen_29 : decode cX4_canLengthen 29 = .ok (.ireturn, 1) := by decide +kernel
theorem dX4_canLengthen_30 : decode cX4_canLengthen 30 = .ok (.aload_n 3, 1) := by decide +kernel
theorem dX4_canLengthen_31 : decode cX4_canLengthen 31 = .ok (.getfield 51, 3) := by decide +kernel
theorem dX4_canLengthen_34 : decode cX4_canLengthen 34 = .ok (.astore_n 3, 1) := by decide +kernel
theorem dX4_canLengthen_35 : decode cX4_canLengthen 35 = .ok (.goto (-27), 3) := by decide +kernel
theorem dX4_canLengthen_38 : decode cX4_canLengthen 38 = .ok (.iconst 1, 1) := by decide +kernel
theorem dX4_canLengthen_39 : decode cX4_canLengthen 39 = .ok (.ireturn, 1) := by decide +kernel
def vb_X4_canLengthen_8 (post : Bool → mj_M → Prop) : Nat → Nat → Int32 → Nat → mj_M → Prop
  | 0 => fun _ _ _ _ => False
  | f + 1 => fun l0 l2 l3 M => mj_tag M l3 = 4 ∧ if (mj_r M l3 2) = 0 then (post true M) else (mj_tag M l0 = 5 ∧ vc_X4_isInTheWay l0 l3 (mj_i M l3 5) l2 M (fun r4 M5 => if r4 = true then (post false M5) else (mj_tag M5 l3 = 4 ∧ vb_X4_canLengthen_8 post f l0 l2 (mj_r M5 l3 2) M5)))
def vc_X4_canLengthen (l0 : Nat) (l1 : Nat) (M : mj_M) (post : Bool → mj_M → Prop) : Prop := mj_tag M l0 = 5 ∧ vc_X4_lengthened l0 l1 M (fun r9 M10 => ∃ fe, vb_X4_canLengthen_8 post fe l0 r9 l1 M10)
set_option maxHeartbeats 4000000 in
set_option maxRecDepth 100000 in
theorem xb_X4_canLengthen_8 {g : mj_G} {post : Bool → mj_M → Prop} (hC : mj_C g yX4_canLengthen cX4_canLengthen 4 (some .boolean) rm_X4_canLengthen) (hE : mj_E g mj_jB post 0 0) : ∀ (f : Nat) (l0 : Nat) (l2 : Int32) (l3 : Nat) (M : mj_M), vb_X4_canLengthen_8 post f l0 l2 l3 M → mj_X g 8 [(0, vR l0), (2, vI l2), (3, vR l3)] [] M 0 0 := by
  intro f
  induction f with
  | zero => exact fun _ _ _ _ h => absurd h (fun z => z)
  | succ f ih =>
    intro l0 l2 l3 M h
    simp only [vb_X4_canLengthen_8] at h
    refine mx_aload_n (j := 2) hC dX4_canLengthen_8 rfl rfl ?_
    obtain ⟨ht1, h⟩ := h
    refine mx_get (v := vR (mj_r M l3 2)) hC tf_X4_51 ht1 rfl dX4_canLengthen_9 ?_
    refine mx_ifnull (tgt := 38) hC dX4_canLengthen_12 (by decide) (fun hc2 => ?_) (fun hc2 => ?_)
    · replace h := mj_yy hc2 h
      refine mx_iconst (v := 1) hC dX4_canLengthen_38 (by decide) ?_
      exact mx_zret (b := true) hC hE rfl dX4_canLengthen_39 h
    · replace h := mj_nn hc2 h
      refine mx_aload_n (j := 0) hC dX4_canLengthen_15 rfl rfl ?_
      refine mx_aload_n (j := 2) hC dX4_canLengthen_16 rfl rfl ?_
      refine mx_aload_n (j := 2) hC dX4_canLengthen_17 rfl rfl ?_
      refine mx_get (v := vI (mj_i M l3 5)) hC tf_X4_88 ht1 rfl dX4_canLengthen_18 ?_
      refine mx_iload_n (j := 1) hC dX4_canLengthen_21 rfl rfl ?_
      obtain ⟨ht3, h⟩ := h
      refine mx_callV (inj := mj_jB) (As := [vR l3, vI (mj_i M l3 5), vI l2]) (st := []) hC (ct_X4_isInTheWay l0 l3 (mj_i M l3 5) l2 M _ h) ty_X4_isInTheWay tw937 ht3 rfl (Nat.le_of_ble_eq_true rfl) ⟨rfl, rfl, ⟨by decide, by decide⟩, by decide, by decide⟩ dX4_canLengthen_22 (fun r4 M5 h => ?_)
      show mj_X g 25 [(0, vR l0), (2, vI l2), (3, vR l3)] [vI (mj_b r4)] M5 0 0
      refine mx_ifeqB (tgt := 30) hC dX4_canLengthen_25 (by decide) (fun hc6 => ?_) (fun hc6 => ?_)
      · replace h := mj_nn hc6 h
        refine mx_aload_n (j := 2) hC dX4_canLengthen_30 rfl rfl ?_
        obtain ⟨ht7, h⟩ := h
        refine mx_get (v := vR (mj_r M5 l3 2)) hC tf_X4_51 ht7 rfl dX4_canLengthen_31 ?_
        refine mx_astore_n (L' := [(3, vR (mj_r M5 l3 2)), (0, vR l0), (2, vI l2)]) hC dX4_canLengthen_34 rfl (by decide) rfl ?_
        refine mx_goto (tgt := 8) hC dX4_canLengthen_35 (by decide) ?_
        refine mx_sub (L' := [(0, vR l0), (2, vI l2), (3, vR (mj_r M5 l3 2))]) [1, 2, 0] rfl ?_
        exact show mj_X g 8 [(0, vR l0), (2, vI l2), (3, vR (mj_r M5 l3 2))] [] M5 0 0 from (ih l0 l2 (mj_r M5 l3 2) M5 h)
      · replace h := mj_yy hc6 h
        refine mx_iconst (v := 0) hC dX4_canLengthen_28 (by decide) ?_
        exact mx_zret (b := false) hC hE rfl dX4_canLengthen_29 h
set_option maxHeartbeats 4000000 in
set_option maxRecDepth 100000 in
theorem ct_X4_canLengthen {l : Launch} {base : Nat} {D : va_G} {A : ClassId × ClassId × ClassId} (l0 : Nat) (l1 : Nat) (M : mj_M) (post : Bool → mj_M → Prop) (h : vc_X4_canLengthen l0 l1 M post) : mj_Met l base D A mj_jB yX4_canLengthen cX4_canLengthen 4 (some .boolean) rm_X4_canLengthen 0 0 [vR l0, vR l1] M post := by
  refine mj_entry (by decide +kernel) (Nat.le_of_ble_eq_true rfl) (fun g hC hE h1 h2 h3 h4 => ?_)
  show mj_X g 0 [(0, vR l0), (1, vR l1)] [] M 0 0
  simp only [vc_X4_canLengthen] at h
  refine mx_aload_n (j := 0) hC dX4_canLengthen_0 rfl rfl ?_
  refine mx_aload_n (j := 1) hC dX4_canLengthen_1 rfl rfl ?_
  obtain ⟨ht8, h⟩ := h
  refine mx_callV (inj := mj_jI) (As := [vR l1]) (st := []) hC (ct_X4_lengthened l0 l1 M _ h) ty_X4_lengthened tw930 ht8 rfl (Nat.le_of_ble_eq_true rfl) ⟨rfl, rfl, ⟨by decide, by decide⟩, by decide, by decide⟩ dX4_canLengthen_2 (fun r9 M10 h => ?_)
  show mj_X g 5 [(0, vR l0), (1, vR l1)] [vI r9] M10 0 0
  refine mx_istore_n (L' := [(2, vI r9), (0, vR l0), (1, vR l1)]) hC dX4_canLengthen_5 rfl (by decide) rfl ?_
  refine mx_aload_n (j := 2) hC dX4_canLengthen_6 rfl rfl ?_
  refine mx_astore_n (L' := [(3, vR l1), (2, vI r9), (0, vR l0), (1, vR l1)]) hC dX4_canLengthen_7 rfl (by decide) rfl ?_
  refine mx_sub (L' := [(0, vR l0), (2, vI r9), (3, vR l1)]) [2, 1, 0] rfl ?_
  obtain ⟨fe, h⟩ := h
  exact show mj_X g 8 [(0, vR l0), (2, vI r9), (3, vR l1)] [] M10 0 0 from (xb_X4_canLengthen_8 hC hE fe l0 r9 l1 M10 h)
def rm_X4_lengthen : Room := { frames := 2, cells := 0, slots := 0, locals := 42 }
theorem dX4_lengthen_0 : decode cX4_lengthen 0 = .ok (.aload_n 0, 1) := by decide +kernel
theorem dX4_lengthen_1 : decode cX4_lengthen 1 = .ok (.aload_n 1, 1) := by decide +kernel
theorem dX4_lengthen_2 : decode cX4_lengthen 2 = .ok (.invokevirtual 142, 3) := by decide +kernel
theorem dX4_lengthen_5 : decode cX4_lengthen 5 = .ok (.istore_n 2, 1) := by decide +kernel
theorem dX4_lengthen_6 : decode cX4_lengthen 6 = .ok (.aload_n 1, 1) := by decide +kernel
theorem dX4_lengthen_7 : decode cX4_lengthen 7 = .ok (.astore_n 3, 1) := by decide +kernel
theorem dX4_lengthen_8 : decode cX4_lengthen 8 = .ok (.aload_n 3, 1) := by decide +kernel
theorem dX4_lengthen_9 : decode cX4_lengthen 9 = .ok (.getfield 51, 3) := by decide +kernel
theorem dX4_lengthen_12 : decode cX4_lengthen 12 = .ok (.ifnull 23, 3) := by decide +kernel
theorem dX4_lengthen_15 : decode cX4_lengthen 15 = .ok (.aload_n 3, 1) := by decide +kernel
theorem dX4_lengthen_16 : decode cX4_lengthen 16 = .ok (.aload_n 3, 1) := by decide +kernel
theorem dX4_lengthen_17 : decode cX4_lengthen 17 = .ok (.getfield 88, 3) := by decide +kernel
theorem dX4_lengthen_20 : decode cX4_lengthen 20 = .ok (.iload_n 2, 1) := by decide +kernel
theorem dX4_lengthen_21 : decode cX4_lengthen 21 = .ok (.invokestatic 78, 3) := by decide +kernel
theorem dX4_lengthen_24 : decode cX4_lengthen 24 = .ok (.putfield 88, 3) := by decide +kernel
theorem dX4_lengthen_27 : decode cX4_lengthen 27 = .ok (.aload_n 3, 1) := by decide +kernel
theorem dX4_lengthen_28 : decode cX4_lengthen 28 = .ok (.getfield 51, 3) := by decide +kernel
theorem dX4_lengthen_31 : decode cX4_lengthen 31 = .ok (.astore_n 3, 1) := by decide +kernel
theorem dX4_lengthen_32 : decode cX4_lengthen 32 = .ok (.goto (-24), 3) := by decide +kernel
theorem dX4_lengthen_35 : decode cX4_lengthen 35 = .ok (.aload_n 1, 1) := by decide +kernel
theorem dX4_lengthen_36 : decode cX4_lengthen 36 = .ok (.iconst 0, 1) := by decide +kernel
theorem dX4_lengthen_37 : decode cX4_lengthen 37 = .ok (.putfield 105, 3) := by decide +kernel
theorem dX4_lengthen_40 : decode cX4_lengthen 40 = .ok (.return_, 1) := by decide +kernel
def vb_X4_lengthen_8 (post : Unit → mj_M → Prop) : Nat → Nat → Int32 → Nat → mj_M → Prop
  | 0 => fun _ _ _ _ => False
  | f + 1 => fun l1 l2 l3 M => mj_tag M l3 = 4 ∧ if (mj_r M l3 2) = 0 then (mj_tag M l1 = 4 ∧ post () (mj_wi M l1 10 0)) else (vc_J9_max_7cf53 (mj_i M l3 5) l2 M (fun r4 M5 => mj_tag M5 l3 = 4 ∧ vb_X4_lengthen_8 post f l1 l2 (mj_r M5 l3 2) (mj_wi M5 l3 5 r4)))
def vc_X4_lengthen (l0 : Nat) (l1 : Nat) (M : mj_M) (post : Unit → mj_M → Prop) : Prop := mj_tag M l0 = 5 ∧ vc_X4_lengthened l0 l1 M (fun r8 M9 => ∃ fe, vb_X4_lengthen_8 post fe l1 r8 l1 M9)
set_option maxHeartbeats 4000000 in
set_option maxRecDepth 100000 in
theorem xb_X4_lengthen_8 {g : mj_G} {post : Unit → mj_M → Prop} (hC : mj_C g yX4_lengthen cX4_lengthen 4 (none) rm_X4_lengthen) (hE : mj_E g mj_jV post 0 0) : ∀ (f : Nat) (l1 : Nat) (l2 : Int32) (l3 : Nat) (M : mj_M), vb_X4_lengthen_8 post f l1 l2 l3 M → mj_X g 8 [(1, vR l1), (2, vI l2), (3, vR l3)] [] M 0 0 := by
  intro f
  induction f with
  | zero => exact fun _ _ _ _ h => absurd h (fun z => z)
  | succ f ih =>
    intro l1 l2 l3 M h
    simp only [vb_X4_lengthen_8] at h
    refine mx_aload_n (j := 2) hC dX4_lengthen_8 rfl rfl ?_
    obtain ⟨ht1, h⟩ := h
    refine mx_get (v := vR (mj_r M l3 2)) hC tf_X4_51 ht1 rfl dX4_lengthen_9 ?_
    refine mx_ifnull (tgt := 35) hC dX4_lengthen_12 (by decide) (fun hc2 => ?_) (fun hc2 => ?_)
    · replace h := mj_yy hc2 h
      refine mx_aload_n (j := 0) hC dX4_lengthen_35 rfl rfl ?_
      refine mx_iconst (v := 0) hC dX4_lengthen_36 (by decide) ?_
      obtain ⟨ht3, h⟩ := h
      refine mx_put (v := vI 0) (M1 := mj_wi M l1 10 0) hC tf_X4_105 ht3 (Or.inl rfl) ⟨rfl, rfl⟩ (mj_off_wi _ _ _ _) mj_put_wi dX4_lengthen_37 ?_
      exact mx_vret hC hE rfl dX4_lengthen_40 h
    · replace h := mj_nn hc2 h
      refine mx_aload_n (j := 2) hC dX4_lengthen_15 rfl rfl ?_
      refine mx_aload_n (j := 2) hC dX4_lengthen_16 rfl rfl ?_
      refine mx_get (v := vI (mj_i M l3 5)) hC tf_X4_88 ht1 rfl dX4_lengthen_17 ?_
      refine mx_iload_n (j := 1) hC dX4_lengthen_20 rfl rfl ?_
      refine mx_callS (inj := mj_jI) (As := [vI (mj_i M l3 5), vI l2]) (st := [vR l3]) hC (ct_J9_max_7cf53 (mj_i M l3 5) l2 M _ h) ty_J9_max_7cf53 tw447 rfl (Nat.le_of_ble_eq_true rfl) ⟨rfl, rfl, ⟨by decide, by decide⟩, by decide, by decide⟩ dX4_lengthen_21 (fun r4 M5 h => ?_)
      show mj_X g 24 [(1, vR l1), (2, vI l2), (3, vR l3)] [vI r4, vR l3] M5 0 0
      obtain ⟨ht6, h⟩ := h
      refine mx_put (v := vI r4) (M1 := mj_wi M5 l3 5 r4) hC tf_X4_88 ht6 (Or.inl rfl) ⟨rfl, rfl⟩ (mj_off_wi _ _ _ _) mj_put_wi dX4_lengthen_24 ?_
      refine mx_aload_n (j := 2) hC dX4_lengthen_27 rfl rfl ?_
      refine mx_get (v := vR (mj_r M5 l3 2)) hC tf_X4_51 ht6 rfl dX4_lengthen_28 ?_
      refine mx_astore_n (L' := [(3, vR (mj_r M5 l3 2)), (1, vR l1), (2, vI l2)]) hC dX4_lengthen_31 rfl (by decide) rfl ?_
      refine mx_goto (tgt := 8) hC dX4_lengthen_32 (by decide) ?_
      refine mx_sub (L' := [(1, vR l1), (2, vI l2), (3, vR (mj_r M5 l3 2))]) [1, 2, 0] rfl ?_
      exact show mj_X g 8 [(1, vR l1), (2, vI l2), (3, vR (mj_r M5 l3 2))] [] (mj_wi M5 l3 5 r4) 0 0 from (ih l1 l2 (mj_r M5 l3 2) (mj_wi M5 l3 5 r4) h)
set_option maxHeartbeats 4000000 in
set_option maxRecDepth 100000 in
theorem ct_X4_lengthen {l : Launch} {base : Nat} {D : va_G} {A : ClassId × ClassId × ClassId} (l0 : Nat) (l1 : Nat) (M : mj_M) (post : Unit → mj_M → Prop) (h : vc_X4_lengthen l0 l1 M post) : mj_Met l base D A mj_jV yX4_lengthen cX4_lengthen 4 (none) rm_X4_lengthen 0 0 [vR l0, vR l1] M post := by
  refine mj_entry (by decide +kernel) (Nat.le_of_ble_eq_true rfl) (fun g hC hE h1 h2 h3 h4 => ?_)
  show mj_X g 0 [(0, vR l0), (1, vR l1)] [] M 0 0
  simp only [vc_X4_lengthen] at h
  refine mx_aload_n (j := 0) hC dX4_lengthen_0 rfl rfl ?_
  refine mx_aload_n (j := 1) hC dX4_lengthen_1 rfl rfl ?_
  obtain ⟨ht7, h⟩ := h
  refine mx_callV (inj := mj_jI) (As := [vR l1]) (st := []) hC (ct_X4_lengthened l0 l1 M _ h) ty_X4_lengthened tw930 ht7 rfl (Nat.le_of_ble_eq_true rfl) ⟨rfl, rfl, ⟨by decide, by decide⟩, by decide, by decide⟩ dX4_lengthen_2 (fun r8 M9 h => ?_)
  show mj_X g 5 [(0, vR l0), (1, vR l1)] [vI r8] M9 0 0
  refine mx_istore_n (L' := [(2, vI r8), (0, vR l0), (1, vR l1)]) hC dX4_lengthen_5 rfl (by decide) rfl ?_
  refine mx_aload_n (j := 2) hC dX4_lengthen_6 rfl rfl ?_
  refine mx_astore_n (L' := [(3, vR l1), (2, vI r8), (0, vR l0), (1, vR l1)]) hC dX4_lengthen_7 rfl (by decide) rfl ?_
  refine mx_sub (L' := [(1, vR l1), (2, vI r8), (3, vR l1)]) [3, 1, 0] rfl ?_
  obtain ⟨fe, h⟩ := h
  exact show mj_X g 8 [(1, vR l1), (2, vI r8), (3, vR l1)] [] M9 0 0 from (xb_X4_lengthen_8 hC hE fe l1 r8 l1 M9 h)
def rm_X4_canBuyOut : Room := { frames := 0, cells := 0, slots := 0, locals := 0 }
theorem dX4_canBuyOut_0 : decode cX4_canBuyOut 0 = .ok (.aload_n 1, 1) := by decide +kernel
theorem dX4_canBuyOut_1 : decode cX4_canBuyOut 1 = .ok (.getfield 51, 3) := by decide +kernel
theorem dX4_canBuyOut_4 : decode cX4_canBuyOut 4 = .ok (.astore_n 2, 1) := by decide +kernel
theorem dX4_canBuyOut_5 : decode cX4_canBuyOut 5 = .ok (.aload_n 2, 1) := by decide +kernel
theorem dX4_canBuyOut_6 : decode cX4_canBuyOut 6 = .ok (.ifnull 24, 3) := by decide +kernel
theorem dX4_canBuyOut_9 : decode cX4_canBuyOut 9 = .ok (.aload_n 2, 1) := by decide +kernel
theorem dX4_canBuyOut_10 : decode cX4_canBuyOut 10 = .ok (.getfield 57, 3) := by decide +kernel
theorem dX4_canBuyOut_13 : decode cX4_canBuyOut 13 = .ok (.aload_n 1, 1) := by decide +kernel
theorem dX4_canBuyOut_14 : decode cX4_canBuyOut 14 = .ok (.getfield 57, 3) := by decide +kernel
theorem dX4_canBuyOut_17 : decode cX4_canBuyOut 17 = .ok (.if_icmp .eq 5, 3) := by decide +kernel
theorem dX4_canBuyOut_20 : decode cX4_canBuyOut 20 = .ok (.iconst 0, 1) := by decide +kernel
theorem dX4_canBuyOut_21 : decode cX4_canBuyOut 21 = .ok (.ireturn, 1) := by decide +kernel
theorem dX4_canBuyOut_22 : decode cX4_canBuyOut 22 = .ok (.aload_n 2, 1) := by decide +kernel
theorem dX4_canBuyOut_23 : decode cX4_canBuyOut 23 = .ok (.getfield 51, 3) := by decide +kernel
theorem dX4_canBuyOut_26 : decode cX4_canBuyOut 26 = .ok (.astore_n 2, 1) := by decide +kernel
theorem dX4_canBuyOut_27 : decode cX4_canBuyOut 27 = .ok (.goto (-22), 3) := by decide +kernel
theorem dX4_canBuyOut_30 : decode cX4_canBuyOut 30 = .ok (.iconst 1, 1) := by decide +kernel
theorem dX4_canBuyOut_31 : decode cX4_canBuyOut 31 = .ok (.ireturn, 1) := by decide +kernel
def vb_X4_canBuyOut_5 (post : Bool → mj_M → Prop) : Nat → Nat → Nat → mj_M → Prop
  | 0 => fun _ _ _ => False
  | f + 1 => fun l1 l2 M => if l2 = 0 then (post true M) else (mj_tag M l2 = 4 ∧ mj_tag M l1 = 4 ∧ if (mj_i M l2 3) = (mj_i M l1 3) then (vb_X4_canBuyOut_5 post f l1 (mj_r M l2 2) M) else (post false M))
def vc_X4_canBuyOut (l0 : Nat) (l1 : Nat) (M : mj_M) (post : Bool → mj_M → Prop) : Prop := mj_tag M l1 = 4 ∧ ∃ fe, vb_X4_canBuyOut_5 post fe l1 (mj_r M l1 2) M
set_option maxHeartbeats 4000000 in
set_option maxRecDepth 100000 in
theorem xb_X4_canBuyOut_5 {g : mj_G} {post : Bool → mj_M → Prop} (hC : mj_C g yX4_canBuyOut cX4_canBuyOut 3 (some .boolean) rm_X4_canBuyOut) (hE : mj_E g mj_jB post 0 0) : ∀ (f : Nat) (l1 : Nat) (l2 : Nat) (M : mj_M), vb_X4_canBuyOut_5 post f l1 l2 M → mj_X g 5 [(1, vR l1), (2, vR l2)] [] M 0 0 := by
  intro f
  induction f with
  | zero => exact fun _ _ _ h => absurd h (fun z => z)
  | succ f ih =>
    intro l1 l2 M h
    simp only [vb_X4_canBuyOut_5] at h
    refine mx_aload_n (j := 1) hC dX4_canBuyOut_5 rfl rfl ?_
    refine mx_ifnull (tgt := 30) hC dX4_canBuyOut_6 (by decide) (fun hc1 => ?_) (fun hc1 => ?_)
    · replace h := mj_yy hc1 h
      refine mx_iconst (v := 1) hC dX4_canBuyOut_30 (by decide) ?_
      exact mx_zret (b := true) hC hE rfl dX4_canBuyOut_31 h
    · replace h := mj_nn hc1 h
      refine mx_aload_n (j := 1) hC dX4_canBuyOut_9 rfl rfl ?_
      obtain ⟨ht2, h⟩ := h
      refine mx_get (v := vI (mj_i M l2 3)) hC tf_X4_57 ht2 rfl dX4_canBuyOut_10 ?_
      refine mx_aload_n (j := 0) hC dX4_canBuyOut_13 rfl rfl ?_
      obtain ⟨ht3, h⟩ := h
      refine mx_get (v := vI (mj_i M l1 3)) hC tf_X4_57 ht3 rfl dX4_canBuyOut_14 ?_
      refine mx_icmpeq (tgt := 22) hC dX4_canBuyOut_17 (by decide) (fun hc4 => ?_) (fun hc4 => ?_)
      · replace h := mj_yy hc4 h
        refine mx_aload_n (j := 1) hC dX4_canBuyOut_22 rfl rfl ?_
        refine mx_get (v := vR (mj_r M l2 2)) hC tf_X4_51 ht2 rfl dX4_canBuyOut_23 ?_
        refine mx_astore_n (L' := [(2, vR (mj_r M l2 2)), (1, vR l1)]) hC dX4_canBuyOut_26 rfl (by decide) rfl ?_
        refine mx_goto (tgt := 5) hC dX4_canBuyOut_27 (by decide) ?_
        refine mx_sub (L' := [(1, vR l1), (2, vR (mj_r M l2 2))]) [1, 0] rfl ?_
        exact show mj_X g 5 [(1, vR l1), (2, vR (mj_r M l2 2))] [] M 0 0 from (ih l1 (mj_r M l2 2) M h)
      · replace h := mj_nn hc4 h
        refine mx_iconst (v := 0) hC dX4_canBuyOut_20 (by decide) ?_
        exact mx_zret (b := false) hC hE rfl dX4_canBuyOut_21 h
set_option maxHeartbeats 4000000 in
set_option maxRecDepth 100000 in
theorem ct_X4_canBuyOut {l : Launch} {base : Nat} {D : va_G} {A : ClassId × ClassId × ClassId} (l0 : Nat) (l1 : Nat) (M : mj_M) (post : Bool → mj_M → Prop) (h : vc_X4_canBuyOut l0 l1 M post) : mj_Met l base D A mj_jB yX4_canBuyOut cX4_canBuyOut 3 (some .boolean) rm_X4_canBuyOut 0 0 [vR l0, vR l1] M post := by
  refine mj_entry (by decide +kernel) (Nat.le_of_ble_eq_true rfl) (fun g hC hE h1 h2 h3 h4 => ?_)
  show mj_X g 0 [(0, vR l0), (1, vR l1)] [] M 0 0
  simp only [vc_X4_canBuyOut] at h
  refine mx_aload_n (j := 1) hC dX4_canBuyOut_0 rfl rfl ?_
  obtain ⟨ht5, h⟩ := h
  refine mx_get (v := vR (mj_r M l1 2)) hC tf_X4_51 ht5 rfl dX4_canBuyOut_1 ?_
  refine mx_astore_n (L' := [(2, vR (mj_r M l1 2)), (0, vR l0), (1, vR l1)]) hC dX4_canBuyOut_4 rfl (by decide) rfl ?_
  refine mx_sub (L' := [(1, vR l1), (2, vR (mj_r M l1 2))]) [2, 0] rfl ?_
  obtain ⟨fe, h⟩ := h
  exact show mj_X g 5 [(1, vR l1), (2, vR (mj_r M l1 2))] [] M 0 0 from (xb_X4_canBuyOut_5 hC hE fe l1 (mj_r M l1 2) M h)
theorem tw343 : (Jvm.Cond.fieldLink "LeaseLand$Land" (150 : Nat) "LeaseLand$Holding" "person" "I") ∈ mj_tbl := mj_w 396 (by decide +kernel) (by decide +kernel)
theorem tf_X4_150 : mj_F 3 8 .int false "LeaseLand$Land" 150 := ⟨_, tk3, by decide, rfl, rfl, rfl, tw343⟩
theorem tw346 : (Jvm.Cond.fieldLink "LeaseLand$Land" (153 : Nat) "LeaseLand$Holding" "since" "I") ∈ mj_tbl := mj_w 399 (by decide +kernel) (by decide +kernel)
theorem tf_X4_153 : mj_F 3 9 .int false "LeaseLand$Land" 153 := ⟨_, tk3, by decide, rfl, rfl, rfl, tw346⟩
theorem tw954 : (Jvm.Cond.methodLink "LeaseLand$Land" (156 : Nat) ({ cls := "LeaseLand$Land", name := "handOver", desc := "(LLeaseLand$Holding;LLeaseLand$Holding;)I" } : Jvm.MethodName)) ∈ mj_tbl := mj_w 1007 (by decide +kernel) (by decide +kernel)
theorem tw955 : (Jvm.Cond.methodLink "LeaseLand$Land" (160 : Nat) ({ cls := "LeaseLand$Land", name := "letFall", desc := "(LLeaseLand$Holding;LLeaseLand$Holding;)I" } : Jvm.MethodName)) ∈ mj_tbl := mj_w 1008 (by decide +kernel) (by decide +kernel)
theorem tw501 : (Jvm.Cond.code ({ cls := "LeaseLand$Land", name := "handOver", desc := "(LLeaseLand$Holding;LLeaseLand$Holding;)I" } : Jvm.MethodName) prog_6_method_19_code (5 : Nat) (Option.some Jvm.ClassFile.FieldType.int)) ∈ mj_tbl := mj_w 554 (by decide +kernel) (by decide +kernel)
theorem tw499 : (Jvm.Cond.instanceMethod ({ cls := "LeaseLand$Land", name := "handOver", desc := "(LLeaseLand$Holding;LLeaseLand$Holding;)I" } : Jvm.MethodName)) ∈ mj_tbl := mj_w 552 (by decide +kernel) (by decide +kernel)
theorem tw500 : (Jvm.Cond.selects "LeaseLand$Land" ({ cls := "LeaseLand$Land", name := "handOver", desc := "(LLeaseLand$Holding;LLeaseLand$Holding;)I" } : Jvm.MethodName) ({ cls := "LeaseLand$Land", name := "handOver", desc := "(LLeaseLand$Holding;LLeaseLand$Holding;)I" } : Jvm.MethodName)) ∈ mj_tbl := mj_w 553 (by decide +kernel) (by decide +kernel)
theorem ty_X4_handOver : mj_YV 4 yX4_handOver cX4_handOver 5 (some .int) 2 := ⟨⟨tw501, tw2, by decide +kernel, by decide +kernel, by decide +kernel⟩, tw499, tw500, _, rfl, rfl⟩
theorem tw958 : (Jvm.Cond.code ({ cls := "LeaseLand$Land", name := "letFall", desc := "(LLeaseLand$Holding;LLeaseLand$Holding;)I" } : Jvm.MethodName) prog_6_method_20_code (5 : Nat) (Option.some Jvm.ClassFile.FieldType.int)) ∈ mj_tbl := mj_w 1011 (by decide +kernel) (by decide +kernel)
theorem tw956 : (Jvm.Cond.instanceMethod ({ cls := "LeaseLand$Land", name := "letFall", desc := "(LLeaseLand$Holding;LLeaseLand$Holding;)I" } : Jvm.MethodName)) ∈ mj_tbl := mj_w 1009 (by decide +kernel) (by decide +kernel)
theorem tw957 : (Jvm.Cond.selects "LeaseLand$Land" ({ cls := "LeaseLand$Land", name := "letFall", desc := "(LLeaseLand$Holding;LLeaseLand$Holding;)I" } : Jvm.MethodName) ({ cls := "LeaseLand$Land", name := "letFall", desc := "(LLeaseLand$Holding;LLeaseLand$Holding;)I" } : Jvm.MethodName)) ∈ mj_tbl := mj_w 1010 (by decide +kernel) (by decide +kernel)
theorem ty_X4_letFall : mj_YV 4 yX4_letFall cX4_letFall 5 (some .int) 2 := ⟨⟨tw958, tw2, by decide +kernel, by decide +kernel, by decide +kernel⟩, tw956, tw957, _, rfl, rfl⟩
def rm_X4_buyOut : Room := { frames := 3, cells := 0, slots := 0, locals := 67 }
theorem dX4_buyOut_0 : decode cX4_buyOut 0 = .ok (.aload_n 0, 1) := by decide +kernel
theorem dX4_buyOut_1 : decode cX4_buyOut 1 = .ok (.aload_n 1, 1) := by decide +kernel
theorem dX4_buyOut_2 : decode cX4_buyOut 2 = .ok (.iconst 3, 1) := by decide +kernel
theorem dX4_buyOut_3 : decode cX4_buyOut 3 = .ok (.invokevirtual 125, 3) := by decide +kernel
theorem dX4_buyOut_6 : decode cX4_buyOut 6 = .ok (.aload_n 1, 1) := by decide +kernel
theorem dX4_buyOut_7 : decode cX4_buyOut 7 = .ok (.astore_n 2, 1) := by decide +kernel
theorem dX4_buyOut_8 : decode cX4_buyOut 8 = .ok (.aload_n 1, 1) := by decide +kernel
theorem dX4_buyOut_9 : decode cX4_buyOut 9 = .ok (.getfield 51, 3) := by decide +kernel
theorem dX4_buyOut_12 : decode cX4_buyOut 12 = .ok (.astore_n 3, 1) := by decide +kernel
theorem dX4_buyOut_13 : decode cX4_buyOut 13 = .ok (.aload_n 3, 1) := by decide +kernel
theorem dX4_buyOut_14 : decode cX4_buyOut 14 = .ok (.ifnull 26, 3) := by decide +kernel
theorem dX4_buyOut_17 : decode cX4_buyOut 17 = .ok (.aload_n 3, 1) := by decide +kernel
theorem dX4_buyOut_18 : decode cX4_buyOut 18 = .ok (.getfield 51, 3) := by decide +kernel
theorem dX4_buyOut_21 : decode cX4_buyOut 21 = .ok (.ifnull 9, 3) := by decide +kernel
theorem dX4_buyOut_24 : decode cX4_buyOut 24 = .ok (.aload_n 0, 1) := by decide +kernel
theorem dX4_buyOut_25 : decode cX4_buyOut 25 = .ok (.aload_n 3, 1) := by decide +kernel
theorem dX4_buyOut_26 : decode cX4_buyOut 26 = .ok (.iconst 5, 1) := by decide +kernel
theorem dX4_buyOut_27 : decode cX4_buyOut 27 = .ok (.invokevirtual 125, 3) := by decide +kernel
theorem dX4_buyOut_30 : decode cX4_buyOut 30 = .ok (.aload_n 3, 1) := by decide +kernel
theorem dX4_buyOut_31 : decode cX4_buyOut 31 = .ok (.astore_n 2, 1) := by decide +kernel
theorem dX4_buyOut_32 : decode cX4_buyOut 32 = .ok (.aload_n 3, 1) := by decide +kernel
theorem dX4_buyOut_33 : decode cX4_buyOut 33 = .ok (.getfield 51, 3) := by decide +kernel
theorem dX4_buyOut_36 : decode cX4_buyOut 36 = .ok (.astore_n 3, 1) := by decide +kernel
theorem dX4_buyOut_37 : decode cX4_buyOut 37 = .ok (.goto (-24), 3) := by decide +kernel
theorem dX4_buyOut_40 : decode cX4_buyOut 40 = .ok (.aload_n 2, 1) := by decide +kernel
theorem dX4_buyOut_41 : decode cX4_buyOut 41 = .ok (.aload_n 1, 1) := by decide +kernel
theorem dX4_buyOut_42 : decode cX4_buyOut 42 = .ok (.getfield 150, 3) := by decide +kernel
theorem dX4_buyOut_45 : decode cX4_buyOut 45 = .ok (.putfield 150, 3) := by decide +kernel
theorem dX4_buyOut_48 : decode cX4_buyOut 48 = .ok (.aload_n 2, 1) := by decide +kernel
theorem dX4_buyOut_49 : decode cX4_buyOut 49 = .ok (.aload_n 0, 1) := by decide +kernel
theorem dX4_buyOut_50 : decode cX4_buyOut 50 = .ok (.getfield 28, 3) := by decide +kernel
theorem dX4_buyOut_53 : decode cX4_buyOut 53 = .ok (.putfield 153, 3) := by decide +kernel
theorem dX4_buyOut_56 : decode cX4_buyOut 56 = .ok (.aload_n 0, 1) := by decide +kernel
theorem dX4_buyOut_57 : decode cX4_buyOut 57 = .ok (.aload_n 1, 1) := by decide +kernel
theorem dX4_buyOut_58 : decode cX4_buyOut 58 = .ok (.aload_n 2, 1) := by decide +kernel
theorem dX4_buyOut_59 : decode cX4_buyOut 59 = .ok (.invokevirtual 156, 3) := by decide +kernel
theorem dX4_buyOut_62 : decode cX4_buyOut 62 = .ok (.pop, 1) := by decide +kernel
theorem dX4_buyOut_63 : decode cX4_buyOut 63 = .ok (.aload_n 1, 1) := by decide +kernel
theorem dX4_buyOut_64 : decode cX4_buyOut 64 = .ok (.getfield 51, 3) := by decide +kernel
theorem dX4_buyOut_67 : decode cX4_buyOut 67 = .ok (.astore_n 3, 1) := by decide +kernel
theorem dX4_buyOut_68 : decode cX4_buyOut 68 = .ok (.aload_n 3, 1) := by decide +kernel
theorem dX4_buyOut_69 : decode cX4_buyOut 69 = .ok (.ifnull 25, 3) := by decide +kernel
theorem dX4_buyOut_72 : decode cX4_buyOut 72 = .ok (.aload_n 3, 1) := by decide +kernel
theorem dX4_buyOut_73 : decode cX4_buyOut 73 = .ok (.getfield 51, 3) := by decide +kernel
theorem dX4_buyOut_76 : decode cX4_buyOut 76 = .ok (.ifnull 18, 3) := by decide +kernel
theorem dX4_buyOut_79 : decode cX4_buyOut 79 = .ok (.aload_n 0, 1) := by decide +kernel
theorem dX4_buyOut_80 : decode cX4_buyOut 80 = .ok (.aload_n 3, 1) := by decide +kernel
theorem dX4_buyOut_81 : decode cX4_buyOut 81 = .ok (.aconst_null, 1) := by decide +kernel
theorem dX4_buyOut_82 : decode cX4_buyOut 82 = .ok (.invokevirtual 160, 3) := by decide +kernel
theorem dX4_buyOut_85 : decode cX4_buyOut 85 = .ok (.pop, 1) := by decide +kernel
theorem dX4_buyOut_86 : decode cX4_buyOut 86 = .ok (.aload_n 3, 1) := by decide +kernel
theorem dX4_buyOut_87 : decode cX4_buyOut 87 = .ok (.getfield 51, 3) := by decide +kernel
theorem dX4_buyOut_90 : decode cX4_buyOut 90 = .ok (.astore_n 3, 1) := by decide +kernel
theorem dX4_buyOut_91 : decode cX4_buyOut 91 = .ok (.goto (-23), 3) := by decide +kernel
theorem dX4_buyOut_94 : decode cX4_buyOut 94 = .ok (.return_, 1) := by decide +kernel
def vb_X4_buyOut_30 (k13 : Nat → Nat → Nat → Nat → mj_M → Prop) (post : Unit → mj_M → Prop) (l0 : Nat) (l1 : Nat) (l3 : Nat) (M : mj_M) : Prop := mj_tag M l3 = 4 ∧ k13 l0 l1 l3 (mj_r M l3 2) M
def vb_X4_buyOut_68 (post : Unit → mj_M → Prop) : Nat → Nat → Nat → mj_M → Prop
  | 0 => fun _ _ _ => False
  | f + 1 => fun l0 l3 M => if l3 = 0 then (post () M) else (mj_tag M l3 = 4 ∧ if (mj_r M l3 2) = 0 then (post () M) else (mj_tag M l0 = 5 ∧ vc_X4_letFall l0 l3 0 M (fun r6 M7 => mj_tag M7 l3 = 4 ∧ vb_X4_buyOut_68 post f l0 (mj_r M7 l3 2) M7)))
def vb_X4_buyOut_13 (post : Unit → mj_M → Prop) : Nat → Nat → Nat → Nat → Nat → mj_M → Prop
  | 0 => fun _ _ _ _ _ => False
  | f + 1 => fun l0 l1 l2 l3 M => if l3 = 0 then (mj_tag M l1 = 4 ∧ mj_tag M l2 = 4 ∧ mj_tag M l0 = 5 ∧ vc_X4_handOver l0 l1 l2 (mj_wi (mj_wi M l2 8 (mj_i M l1 8)) l2 9 (mj_i (mj_wi M l2 8 (mj_i M l1 8)) l0 0)) (fun r13 M14 => mj_tag M14 l1 = 4 ∧ ∃ fe, vb_X4_buyOut_68 post fe l0 (mj_r M14 l1 2) M14)) else (mj_tag M l3 = 4 ∧ if (mj_r M l3 2) = 0 then (vb_X4_buyOut_30 (vb_X4_buyOut_13 post f) post l0 l1 l3 M) else (mj_tag M l0 = 5 ∧ vc_X4_close l0 l3 5 M (fun _ M19 => vb_X4_buyOut_30 (vb_X4_buyOut_13 post f) post l0 l1 l3 M19)))
def vc_X4_buyOut (l0 : Nat) (l1 : Nat) (M : mj_M) (post : Unit → mj_M → Prop) : Prop := mj_tag M l0 = 5 ∧ vc_X4_close l0 l1 3 M (fun _ M21 => mj_tag M21 l1 = 4 ∧ ∃ fe, vb_X4_buyOut_13 post fe l0 l1 l1 (mj_r M21 l1 2) M21)
set_option maxHeartbeats 4000000 in
set_option maxRecDepth 100000 in
theorem xb_X4_buyOut_30 {g : mj_G} {post : Unit → mj_M → Prop} (hC : mj_C g yX4_buyOut cX4_buyOut 4 (none) rm_X4_buyOut) (hE : mj_E g mj_jV post 0 0) {k13 : Nat → Nat → Nat → Nat → mj_M → Prop} (hk13 : ∀ (l0 : Nat) (l1 : Nat) (l2 : Nat) (l3 : Nat) (M : mj_M), k13 l0 l1 l2 l3 M → mj_X g 13 [(0, vR l0), (1, vR l1), (2, vR l2), (3, vR l3)] [] M 0 0) (l0 : Nat) (l1 : Nat) (l3 : Nat) (M : mj_M) (h : vb_X4_buyOut_30 k13 post l0 l1 l3 M) : mj_X g 30 [(0, vR l0), (1, vR l1), (3, vR l3)] [] M 0 0 := by
  simp only [vb_X4_buyOut_30] at h
  refine mx_aload_n (j := 2) hC dX4_buyOut_30 rfl rfl ?_
  refine mx_astore_n (L' := [(2, vR l3), (0, vR l0), (1, vR l1), (3, vR l3)]) hC dX4_buyOut_31 rfl (by decide) rfl ?_
  refine mx_aload_n (j := 3) hC dX4_buyOut_32 rfl rfl ?_
  obtain ⟨ht1, h⟩ := h
  refine mx_get (v := vR (mj_r M l3 2)) hC tf_X4_51 ht1 rfl dX4_buyOut_33 ?_
  refine mx_astore_n (L' := [(3, vR (mj_r M l3 2)), (2, vR l3), (0, vR l0), (1, vR l1)]) hC dX4_buyOut_36 rfl (by decide) rfl ?_
  refine mx_goto (tgt := 13) hC dX4_buyOut_37 (by decide) ?_
  refine mx_sub (L' := [(0, vR l0), (1, vR l1), (2, vR l3), (3, vR (mj_r M l3 2))]) [2, 3, 1, 0] rfl ?_
  exact show mj_X g 13 [(0, vR l0), (1, vR l1), (2, vR l3), (3, vR (mj_r M l3 2))] [] M 0 0 from (hk13 l0 l1 l3 (mj_r M l3 2) M h)
set_option maxHeartbeats 4000000 in
set_option maxRecDepth 100000 in
theorem xb_X4_buyOut_68 {g : mj_G} {post : Unit → mj_M → Prop} (hC : mj_C g yX4_buyOut cX4_buyOut 4 (none) rm_X4_buyOut) (hE : mj_E g mj_jV post 0 0) : ∀ (f : Nat) (l0 : Nat) (l3 : Nat) (M : mj_M), vb_X4_buyOut_68 post f l0 l3 M → mj_X g 68 [(0, vR l0), (3, vR l3)] [] M 0 0 := by
  intro f
  induction f with
  | zero => exact fun _ _ _ h => absurd h (fun z => z)
  | succ f ih =>
    intro l0 l3 M h
    simp only [vb_X4_buyOut_68] at h
    refine mx_aload_n (j := 1) hC dX4_buyOut_68 rfl rfl ?_
    refine mx_ifnull (tgt := 94) hC dX4_buyOut_69 (by decide) (fun hc2 => ?_) (fun hc2 => ?_)
    · replace h := mj_yy hc2 h
      exact mx_vret hC hE rfl dX4_buyOut_94 h
    · replace h := mj_nn hc2 h
      refine mx_aload_n (j := 1) hC dX4_buyOut_72 rfl rfl ?_
      obtain ⟨ht3, h⟩ := h
      refine mx_get (v := vR (mj_r M l3 2)) hC tf_X4_51 ht3 rfl dX4_buyOut_73 ?_
      refine mx_ifnull (tgt := 94) hC dX4_buyOut_76 (by decide) (fun hc4 => ?_) (fun hc4 => ?_)
      · replace h := mj_yy hc4 h
        exact mx_vret hC hE rfl dX4_buyOut_94 h
      · replace h := mj_nn hc4 h
        refine mx_aload_n (j := 0) hC dX4_buyOut_79 rfl rfl ?_
        refine mx_aload_n (j := 1) hC dX4_buyOut_80 rfl rfl ?_
        refine mx_null hC dX4_buyOut_81 ?_
        obtain ⟨ht5, h⟩ := h
        refine mx_callV (inj := mj_jI) (As := [vR l3, vR 0]) (st := []) hC (ct_X4_letFall l0 l3 0 M _ h) ty_X4_letFall tw955 ht5 rfl (Nat.le_of_ble_eq_true rfl) ⟨rfl, rfl, ⟨by decide, by decide⟩, by decide, by decide⟩ dX4_buyOut_82 (fun r6 M7 h => ?_)
        show mj_X g 85 [(0, vR l0), (3, vR l3)] [vI r6] M7 0 0
        refine mx_pop hC dX4_buyOut_85 rfl ?_
        refine mx_aload_n (j := 1) hC dX4_buyOut_86 rfl rfl ?_
        obtain ⟨ht8, h⟩ := h
        refine mx_get (v := vR (mj_r M7 l3 2)) hC tf_X4_51 ht8 rfl dX4_buyOut_87 ?_
        refine mx_astore_n (L' := [(3, vR (mj_r M7 l3 2)), (0, vR l0)]) hC dX4_buyOut_90 rfl (by decide) rfl ?_
        refine mx_goto (tgt := 68) hC dX4_buyOut_91 (by decide) ?_
        refine mx_sub (L' := [(0, vR l0), (3, vR (mj_r M7 l3 2))]) [1, 0] rfl ?_
        exact show mj_X g 68 [(0, vR l0), (3, vR (mj_r M7 l3 2))] [] M7 0 0 from (ih l0 (mj_r M7 l3 2) M7 h)
set_option maxHeartbeats 4000000 in
set_option maxRecDepth 100000 in
theorem xb_X4_buyOut_13 {g : mj_G} {post : Unit → mj_M → Prop} (hC : mj_C g yX4_buyOut cX4_buyOut 4 (none) rm_X4_buyOut) (hE : mj_E g mj_jV post 0 0) : ∀ (f : Nat) (l0 : Nat) (l1 : Nat) (l2 : Nat) (l3 : Nat) (M : mj_M), vb_X4_buyOut_13 post f l0 l1 l2 l3 M → mj_X g 13 [(0, vR l0), (1, vR l1), (2, vR l2), (3, vR l3)] [] M 0 0 := by
  intro f
  induction f with
  | zero => exact fun _ _ _ _ _ h => absurd h (fun z => z)
  | succ f ih =>
    intro l0 l1 l2 l3 M h
    simp only [vb_X4_buyOut_13] at h
    refine mx_aload_n (j := 3) hC dX4_buyOut_13 rfl rfl ?_
    refine mx_ifnull (tgt := 40) hC dX4_buyOut_14 (by decide) (fun hc9 => ?_) (fun hc9 => ?_)
    · replace h := mj_yy hc9 h
      refine mx_aload_n (j := 2) hC dX4_buyOut_40 rfl rfl ?_
      refine mx_aload_n (j := 1) hC dX4_buyOut_41 rfl rfl ?_
      obtain ⟨ht10, h⟩ := h
      refine mx_get (v := vI (mj_i M l1 8)) hC tf_X4_150 ht10 rfl dX4_buyOut_42 ?_
      obtain ⟨ht11, h⟩ := h
      refine mx_put (v := vI (mj_i M l1 8)) (M1 := mj_wi M l2 8 (mj_i M l1 8)) hC tf_X4_150 ht11 (Or.inl rfl) ⟨rfl, rfl⟩ (mj_off_wi _ _ _ _) mj_put_wi dX4_buyOut_45 ?_
      refine mx_aload_n (j := 2) hC dX4_buyOut_48 rfl rfl ?_
      refine mx_aload_n (j := 0) hC dX4_buyOut_49 rfl rfl ?_
      obtain ⟨ht12, h⟩ := h
      refine mx_get (v := vI (mj_i (mj_wi M l2 8 (mj_i M l1 8)) l0 0)) hC tf_X4_28 ht12 rfl dX4_buyOut_50 ?_
      refine mx_put (v := vI (mj_i (mj_wi M l2 8 (mj_i M l1 8)) l0 0)) (M1 := mj_wi (mj_wi M l2 8 (mj_i M l1 8)) l2 9 (mj_i (mj_wi M l2 8 (mj_i M l1 8)) l0 0)) hC tf_X4_153 ht11 (Or.inl rfl) ⟨rfl, rfl⟩ (mj_off_wi _ _ _ _) mj_put_wi dX4_buyOut_53 ?_
      refine mx_aload_n (j := 0) hC dX4_buyOut_56 rfl rfl ?_
      refine mx_aload_n (j := 1) hC dX4_buyOut_57 rfl rfl ?_
      refine mx_aload_n (j := 2) hC dX4_buyOut_58 rfl rfl ?_
      refine mx_callV (inj := mj_jI) (As := [vR l1, vR l2]) (st := []) hC (ct_X4_handOver l0 l1 l2 (mj_wi (mj_wi M l2 8 (mj_i M l1 8)) l2 9 (mj_i (mj_wi M l2 8 (mj_i M l1 8)) l0 0)) _ h) ty_X4_handOver tw954 ht12 rfl (Nat.le_of_ble_eq_true rfl) ⟨rfl, rfl, ⟨by decide, by decide⟩, by decide, by decide⟩ dX4_buyOut_59 (fun r13 M14 h => ?_)
      show mj_X g 62 [(0, vR l0), (1, vR l1), (2, vR l2), (3, vR l3)] [vI r13] M14 0 0
      refine mx_pop hC dX4_buyOut_62 rfl ?_
      refine mx_aload_n (j := 1) hC dX4_buyOut_63 rfl rfl ?_
      obtain ⟨ht15, h⟩ := h
      refine mx_get (v := vR (mj_r M14 l1 2)) hC tf_X4_51 ht15 rfl dX4_buyOut_64 ?_
      refine mx_astore_n (L' := [(3, vR (mj_r M14 l1 2)), (0, vR l0), (1, vR l1), (2, vR l2)]) hC dX4_buyOut_67 rfl (by decide) rfl ?_
      refine mx_sub (L' := [(0, vR l0), (3, vR (mj_r M14 l1 2))]) [1, 0] rfl ?_
      obtain ⟨fe, h⟩ := h
      exact show mj_X g 68 [(0, vR l0), (3, vR (mj_r M14 l1 2))] [] M14 0 0 from (xb_X4_buyOut_68 hC hE fe l0 (mj_r M14 l1 2) M14 h)
    · replace h := mj_nn hc9 h
      refine mx_aload_n (j := 3) hC dX4_buyOut_17 rfl rfl ?_
      obtain ⟨ht16, h⟩ := h
      refine mx_get (v := vR (mj_r M l3 2)) hC tf_X4_51 ht16 rfl dX4_buyOut_18 ?_
      refine mx_ifnull (tgt := 30) hC dX4_buyOut_21 (by decide) (fun hc17 => ?_) (fun hc17 => ?_)
      · replace h := mj_yy hc17 h
        refine mx_sub (L' := [(0, vR l0), (1, vR l1), (3, vR l3)]) [0, 1, 3] rfl ?_
        exact show mj_X g 30 [(0, vR l0), (1, vR l1), (3, vR l3)] [] M 0 0 from (xb_X4_buyOut_30 hC hE ih l0 l1 l3 M h)
      · replace h := mj_nn hc17 h
        refine mx_aload_n (j := 0) hC dX4_buyOut_24 rfl rfl ?_
        refine mx_aload_n (j := 3) hC dX4_buyOut_25 rfl rfl ?_
        refine mx_iconst (v := 5) hC dX4_buyOut_26 (by decide) ?_
        obtain ⟨ht18, h⟩ := h
        refine mx_callV (inj := mj_jV) (As := [vR l3, vI 5]) (st := []) hC (ct_X4_close l0 l3 5 M _ h) ty_X4_close tw953 ht18 rfl (Nat.le_of_ble_eq_true rfl) ⟨rfl, rfl, ⟨by decide, by decide⟩, by decide, by decide⟩ dX4_buyOut_27 (fun _ M19 h => ?_)
        show mj_X g 30 [(0, vR l0), (1, vR l1), (2, vR l2), (3, vR l3)] [] M19 0 0
        refine mx_sub (L' := [(0, vR l0), (1, vR l1), (3, vR l3)]) [0, 1, 3] rfl ?_
        exact show mj_X g 30 [(0, vR l0), (1, vR l1), (3, vR l3)] [] M19 0 0 from (xb_X4_buyOut_30 hC hE ih l0 l1 l3 M19 h)
set_option maxHeartbeats 4000000 in
set_option maxRecDepth 100000 in
theorem ct_X4_buyOut {l : Launch} {base : Nat} {D : va_G} {A : ClassId × ClassId × ClassId} (l0 : Nat) (l1 : Nat) (M : mj_M) (post : Unit → mj_M → Prop) (h : vc_X4_buyOut l0 l1 M post) : mj_Met l base D A mj_jV yX4_buyOut cX4_buyOut 4 (none) rm_X4_buyOut 0 0 [vR l0, vR l1] M post := by
  refine mj_entry (by decide +kernel) (Nat.le_of_ble_eq_true rfl) (fun g hC hE h1 h2 h3 h4 => ?_)
  show mj_X g 0 [(0, vR l0), (1, vR l1)] [] M 0 0
  simp only [vc_X4_buyOut] at h
  refine mx_aload_n (j := 0) hC dX4_buyOut_0 rfl rfl ?_
  refine mx_aload_n (j := 1) hC dX4_buyOut_1 rfl rfl ?_
  refine mx_iconst (v := 3) hC dX4_buyOut_2 (by decide) ?_
  obtain ⟨ht20, h⟩ := h
  refine mx_callV (inj := mj_jV) (As := [vR l1, vI 3]) (st := []) hC (ct_X4_close l0 l1 3 M _ h) ty_X4_close tw953 ht20 rfl (Nat.le_of_ble_eq_true rfl) ⟨rfl, rfl, ⟨by decide, by decide⟩, by decide, by decide⟩ dX4_buyOut_3 (fun _ M21 h => ?_)
  show mj_X g 6 [(0, vR l0), (1, vR l1)] [] M21 0 0
  refine mx_aload_n (j := 1) hC dX4_buyOut_6 rfl rfl ?_
  refine mx_astore_n (L' := [(2, vR l1), (0, vR l0), (1, vR l1)]) hC dX4_buyOut_7 rfl (by decide) rfl ?_
  refine mx_aload_n (j := 2) hC dX4_buyOut_8 rfl rfl ?_
  obtain ⟨ht22, h⟩ := h
  refine mx_get (v := vR (mj_r M21 l1 2)) hC tf_X4_51 ht22 rfl dX4_buyOut_9 ?_
  refine mx_astore_n (L' := [(3, vR (mj_r M21 l1 2)), (2, vR l1), (0, vR l0), (1, vR l1)]) hC dX4_buyOut_12 rfl (by decide) rfl ?_
  refine mx_sub (L' := [(0, vR l0), (1, vR l1), (2, vR l1), (3, vR (mj_r M21 l1 2))]) [2, 3, 1, 0] rfl ?_
  obtain ⟨fe, h⟩ := h
  exact show mj_X g 13 [(0, vR l0), (1, vR l1), (2, vR l1), (3, vR (mj_r M21 l1 2))] [] M21 0 0 from (xb_X4_buyOut_13 hC hE fe l0 l1 l1 (mj_r M21 l1 2) M21 h)
def rm_X4_countOutOf : Room := { frames := 0, cells := 0, slots := 0, locals := 0 }
theorem dX4_countOutOf_0 : decode cX4_countOutOf 0 = .ok (.iconst 0, 1) := by decide +kernel
theorem dX4_countOutOf_1 : decode cX4_countOutOf 1 = .ok (.istore_n 2, 1) := by decide +kernel
theorem dX4_countOutOf_2 : decode cX4_countOutOf 2 = .ok (.aload_n 0, 1) := by decide +kernel
theorem dX4_countOutOf_3 : decode cX4_countOutOf 3 = .ok (.getfield 37, 3) := by decide +kernel
theorem dX4_countOutOf_6 : decode cX4_countOutOf 6 = .ok (.astore_n 3, 1) := by decide +kernel
theorem dX4_countOutOf_7 : decode cX4_countOutOf 7 = .ok (.aload_n 3, 1) := by decide +kernel
theorem dX4_countOutOf_8 : decode cX4_countOutOf 8 = .ok (.ifnull 27, 3) := by decide +kernel
theorem dX4_countOutOf_11 : decode cX4_countOutOf 11 = .ok (.iload_n 2, 1) := by decide +kernel
theorem dX4_countOutOf_12 : decode cX4_countOutOf 12 = .ok (.aload_n 3, 1) := by decide +kernel
theorem dX4_countOutOf_13 : decode cX4_countOutOf 13 = .ok (.getfield 51, 3) := by decide +kernel
theorem dX4_countOutOf_16 : decode cX4_countOutOf 16 = .ok (.aload_n 1, 1) := by decide +kernel
theorem dX4_countOutOf_17 : decode cX4_countOutOf 17 = .ok (.if_acmp .ne 7, 3) := by decide +kernel
theorem dX4_countOutOf_20 : decode cX4_countOutOf 20 = .ok (.iconst 1, 1) := by decide +kernel
theorem dX4_countOutOf_21 : decode cX4_countOutOf 21 = .ok (.goto 4, 3) := by decide +kernel
theorem dX4_countOutOf_24 : decode cX4_countOutOf 24 = .ok (.iconst 0, 1) := by decide +kernel
theorem dX4_countOutOf_25 : decode cX4_countOutOf 25 = .ok (.iadd, 1) := by decide +kernel
theorem dX4_countOutOf_26 : decode cX4_countOutOf 26 = .ok (.istore_n 2, 1) := by decide +kernel
theorem dX4_countOutOf_27 : decode cX4_countOutOf 27 = .ok (.aload_n 3, 1) := by decide +kernel
theorem dX4_countOutOf_28 : decode cX4_countOutOf 28 = .ok (.getfield 44, 3) := by decide +kernel
theorem dX4_countOutOf_31 : decode cX4_countOutOf 31 = .ok (.astore_n 3, 1) := by decide +kernel
theorem dX4_countOutOf_32 : decode cX4_countOutOf 32 = .ok (.goto (-25), 3) := by decide +kernel
theorem dX4_countOutOf_35 : decode cX4_countOutOf 35 = .ok (.iload_n 2, 1) := by decide +kernel
theorem dX4_countOutOf_36 : decode cX4_countOutOf 36 = .ok (.ireturn, 1) := by decide +kernel
def vb_X4_countOutOf_25 (k7 : Nat → Int32 → Nat → mj_M → Prop) (post : Int32 → mj_M → Prop) (l1 : Nat) (l3 : Nat) (s0 : Int32) (s1 : Bool) (M : mj_M) : Prop := mj_tag M l3 = 4 ∧ k7 l1 (s0 + (mj_b s1)) (mj_r M l3 1) M
def vb_X4_countOutOf_7 (post : Int32 → mj_M → Prop) : Nat → Nat → Int32 → Nat → mj_M → Prop
  | 0 => fun _ _ _ _ => False
  | f + 1 => fun l1 l2 l3 M => if l3 = 0 then (post l2 M) else (mj_tag M l3 = 4 ∧ if (mj_r M l3 2) = l1 then (vb_X4_countOutOf_25 (vb_X4_countOutOf_7 post f) post l1 l3 l2 true M) else (vb_X4_countOutOf_25 (vb_X4_countOutOf_7 post f) post l1 l3 l2 false M))
def vc_X4_countOutOf (l0 : Nat) (l1 : Nat) (M : mj_M) (post : Int32 → mj_M → Prop) : Prop := mj_tag M l0 = 5 ∧ ∃ fe, vb_X4_countOutOf_7 post fe l1 0 (mj_r M l0 1) M
set_option maxHeartbeats 4000000 in
set_option maxRecDepth 100000 in
theorem xb_X4_countOutOf_25 {g : mj_G} {post : Int32 → mj_M → Prop} (hC : mj_C g yX4_countOutOf cX4_countOutOf 4 (some .int) rm_X4_countOutOf) (hE : mj_E g mj_jI post 0 0) {k7 : Nat → Int32 → Nat → mj_M → Prop} (hk7 : ∀ (l1 : Nat) (l2 : Int32) (l3 : Nat) (M : mj_M), k7 l1 l2 l3 M → mj_X g 7 [(1, vR l1), (2, vI l2), (3, vR l3)] [] M 0 0) (l1 : Nat) (l3 : Nat) (s0 : Int32) (s1 : Bool) (M : mj_M) (h : vb_X4_countOutOf_25 k7 post l1 l3 s0 s1 M) : mj_X g 25 [(1, vR l1), (3, vR l3)] [vI (mj_b s1), vI s0] M 0 0 := by
  simp only [vb_X4_countOutOf_25] at h
  refine mx_iadd hC dX4_countOutOf_25 ?_
  refine mx_istore_n (L' := [(2, vI (s0 + (mj_b s1))), (1, vR l1), (3, vR l3)]) hC dX4_countOutOf_26 rfl (by decide) rfl ?_
  refine mx_aload_n (j := 2) hC dX4_countOutOf_27 rfl rfl ?_
  obtain ⟨ht1, h⟩ := h
  refine mx_get (v := vR (mj_r M l3 1)) hC tf_X4_44 ht1 rfl dX4_countOutOf_28 ?_
  refine mx_astore_n (L' := [(3, vR (mj_r M l3 1)), (2, vI (s0 + (mj_b s1))), (1, vR l1)]) hC dX4_countOutOf_31 rfl (by decide) rfl ?_
  refine mx_goto (tgt := 7) hC dX4_countOutOf_32 (by decide) ?_
  refine mx_sub (L' := [(1, vR l1), (2, vI (s0 + (mj_b s1))), (3, vR (mj_r M l3 1))]) [2, 1, 0] rfl ?_
  exact show mj_X g 7 [(1, vR l1), (2, vI (s0 + (mj_b s1))), (3, vR (mj_r M l3 1))] [] M 0 0 from (hk7 l1 (s0 + (mj_b s1)) (mj_r M l3 1) M h)
set_option maxHeartbeats 4000000 in
set_option maxRecDepth 100000 in
theorem xb_X4_countOutOf_7 {g : mj_G} {post : Int32 → mj_M → Prop} (hC : mj_C g yX4_countOutOf cX4_countOutOf 4 (some .int) rm_X4_countOutOf) (hE : mj_E g mj_jI post 0 0) : ∀ (f : Nat) (l1 : Nat) (l2 : Int32) (l3 : Nat) (M : mj_M), vb_X4_countOutOf_7 post f l1 l2 l3 M → mj_X g 7 [(1, vR l1), (2, vI l2), (3, vR l3)] [] M 0 0 := by
  intro f
  induction f with
  | zero => exact fun _ _ _ _ h => absurd h (fun z => z)
  | succ f ih =>
    intro l1 l2 l3 M h
    simp only [vb_X4_countOutOf_7] at h
    refine mx_aload_n (j := 2) hC dX4_countOutOf_7 rfl rfl ?_
    refine mx_ifnull (tgt := 35) hC dX4_countOutOf_8 (by decide) (fun hc2 => ?_) (fun hc2 => ?_)
    · replace h := mj_yy hc2 h
      refine mx_iload_n (j := 1) hC dX4_countOutOf_35 rfl rfl ?_
      exact mx_iret hC hE rfl dX4_countOutOf_36 h
    · replace h := mj_nn hc2 h
      refine mx_iload_n (j := 1) hC dX4_countOutOf_11 rfl rfl ?_
      refine mx_aload_n (j := 2) hC dX4_countOutOf_12 rfl rfl ?_
      obtain ⟨ht3, h⟩ := h
      refine mx_get (v := vR (mj_r M l3 2)) hC tf_X4_51 ht3 rfl dX4_countOutOf_13 ?_
      refine mx_aload_n (j := 0) hC dX4_countOutOf_16 rfl rfl ?_
      refine mx_acmpne (tgt := 24) hC dX4_countOutOf_17 (by decide) (fun hc4 => ?_) (fun hc4 => ?_)
      · replace h := mj_nn hc4 h
        refine mx_iconst (v := 0) hC dX4_countOutOf_24 (by decide) ?_
        refine mx_sub (L' := [(1, vR l1), (3, vR l3)]) [0, 2] rfl ?_
        exact show mj_X g 25 [(1, vR l1), (3, vR l3)] [vI (mj_b false), vI l2] M 0 0 from (xb_X4_countOutOf_25 hC hE ih l1 l3 l2 false M h)
      · replace h := mj_yy hc4 h
        refine mx_iconst (v := 1) hC dX4_countOutOf_20 (by decide) ?_
        refine mx_goto (tgt := 25) hC dX4_countOutOf_21 (by decide) ?_
        refine mx_sub (L' := [(1, vR l1), (3, vR l3)]) [0, 2] rfl ?_
        exact show mj_X g 25 [(1, vR l1), (3, vR l3)] [vI (mj_b true), vI l2] M 0 0 from (xb_X4_countOutOf_25 hC hE ih l1 l3 l2 true M h)
set_option maxHeartbeats 4000000 in
set_option maxRecDepth 100000 in
theorem ct_X4_countOutOf {l : Launch} {base : Nat} {D : va_G} {A : ClassId × ClassId × ClassId} (l0 : Nat) (l1 : Nat) (M : mj_M) (post : Int32 → mj_M → Prop) (h : vc_X4_countOutOf l0 l1 M post) : mj_Met l base D A mj_jI yX4_countOutOf cX4_countOutOf 4 (some .int) rm_X4_countOutOf 0 0 [vR l0, vR l1] M post := by
  refine mj_entry (by decide +kernel) (Nat.le_of_ble_eq_true rfl) (fun g hC hE h1 h2 h3 h4 => ?_)
  show mj_X g 0 [(0, vR l0), (1, vR l1)] [] M 0 0
  simp only [vc_X4_countOutOf] at h
  refine mx_iconst (v := 0) hC dX4_countOutOf_0 (by decide) ?_
  refine mx_istore_n (L' := [(2, vI 0), (0, vR l0), (1, vR l1)]) hC dX4_countOutOf_1 rfl (by decide) rfl ?_
  refine mx_aload_n (j := 1) hC dX4_countOutOf_2 rfl rfl ?_
  obtain ⟨ht5, h⟩ := h
  refine mx_get (v := vR (mj_r M l0 1)) hC tf_X4_37 ht5 rfl dX4_countOutOf_3 ?_
  refine mx_astore_n (L' := [(3, vR (mj_r M l0 1)), (2, vI 0), (0, vR l0), (1, vR l1)]) hC dX4_countOutOf_6 rfl (by decide) rfl ?_
  refine mx_sub (L' := [(1, vR l1), (2, vI 0), (3, vR (mj_r M l0 1))]) [3, 1, 0] rfl ?_
  obtain ⟨fe, h⟩ := h
  exact show mj_X g 7 [(1, vR l1), (2, vI 0), (3, vR (mj_r M l0 1))] [] M 0 0 from (xb_X4_countOutOf_7 hC hE fe l1 0 (mj_r M l0 1) M h)
theorem tw522 : (Jvm.Cond.methodLink "LeaseLand$Land" (163 : Nat) ({ cls := "LeaseLand$Holding", name := "hasFloor", desc := "(I)Z" } : Jvm.MethodName)) ∈ mj_tbl := mj_w 575 (by decide +kernel) (by decide +kernel)
theorem tw525 : (Jvm.Cond.code ({ cls := "LeaseLand$Holding", name := "hasFloor", desc := "(I)Z" } : Jvm.MethodName) prog_5_method_4_code (2 : Nat) (Option.some Jvm.ClassFile.FieldType.boolean)) ∈ mj_tbl := mj_w 578 (by decide +kernel) (by decide +kernel)
theorem tw523 : (Jvm.Cond.instanceMethod ({ cls := "LeaseLand$Holding", name := "hasFloor", desc := "(I)Z" } : Jvm.MethodName)) ∈ mj_tbl := mj_w 576 (by decide +kernel) (by decide +kernel)
theorem tw524 : (Jvm.Cond.selects "LeaseLand$Holding" ({ cls := "LeaseLand$Holding", name := "hasFloor", desc := "(I)Z" } : Jvm.MethodName) ({ cls := "LeaseLand$Holding", name := "hasFloor", desc := "(I)Z" } : Jvm.MethodName)) ∈ mj_tbl := mj_w 577 (by decide +kernel) (by decide +kernel)
theorem ty_X3_hasFloor : mj_YV 3 yX3_hasFloor cX3_hasFloor 2 (some .boolean) 1 := ⟨⟨tw525, tw12, by decide +kernel, by decide +kernel, by decide +kernel⟩, tw523, tw524, _, rfl, rfl⟩
def rm_X4_nextOf : Room := { frames := 2, cells := 0, slots := 0, locals := 41 }
theorem dX4_nextOf_0 : decode cX4_nextOf 0 = .ok (.aload_n 0, 1) := by decide +kernel
theorem dX4_nextOf_1 : decode cX4_nextOf 1 = .ok (.getfield 37, 3) := by decide +kernel
theorem dX4_nextOf_4 : decode cX4_nextOf 4 = .ok (.astore_n 3, 1) := by decide +kernel
theorem dX4_nextOf_5 : decode cX4_nextOf 5 = .ok (.aload_n 3, 1) := by decide +kernel
theorem dX4_nextOf_6 : decode cX4_nextOf 6 = .ok (.ifnull 40, 3) := by decide +kernel
theorem dX4_nextOf_9 : decode cX4_nextOf 9 = .ok (.aload_n 3, 1) := by decide +kernel
theorem dX4_nextOf_10 : decode cX4_nextOf 10 = .ok (.getfield 51, 3) := by decide +kernel
theorem dX4_nextOf_13 : decode cX4_nextOf 13 = .ok (.aload_n 1, 1) := by decide +kernel
theorem dX4_nextOf_14 : decode cX4_nextOf 14 = .ok (.if_acmp .ne 24, 3) := by decide +kernel
theorem dX4_nextOf_17 : decode cX4_nextOf 17 = .ok (.aload_n 3, 1) := by decide +kernel
theorem dX4_nextOf_18 : decode cX4_nextOf 18 = .ok (.iload_n 2, 1) := by decide +kernel
theorem dX4_nextOf_19 : decode cX4_nextOf 19 = .ok (.invokevirtual 163, 3) := by decide +kernel
theorem dX4_nextOf_22 : decode cX4_nextOf 22 = .ok (.ifCond .eq 16, 3) := by decide +kernel
theorem dX4_nextOf_25 : decode cX4_nextOf 25 = .ok (.aload_n 3, 1) := by decide +kernel
theorem dX4_nextOf_26 : decode cX4_nextOf 26 = .ok (.aload_n 0, 1) := by decide +kernel
theorem dX4_nextOf_27 : decode cX4_nextOf 27 = .ok (.getfield 28, 3) := by decide +kernel
theorem dX4_nextOf_30 : decode cX4_nextOf 30 = .ok (.invokevirtual 31, 3) := by decide +kernel
theorem dX4_nextOf_33 : decode cX4_nextOf 33 = .ok (.ifCond .eq 5, 3) := by decide +kernel
theorem dX4_nextOf_36 : decode cX4_nextOf 36 = .ok (.aload_n 3, 1) := by decide +kernel
theorem dX4_nextOf_37 : decode cX4_nextOf 37 = .ok (.areturn, 1) := by decide +kernel
theorem dX4_nextOf_38 : decode cX4_nextOf 38 = .ok (.aload_n 3, 1) := by decide +kernel
theorem dX4_nextOf_39 : decode cX4_nextOf 39 = .ok (.getfield 44, 3) := by decide +kernel
theorem dX4_nextOf_42 : decode cX4_nextOf 42 = .ok (.astore_n 3, 1) := by decide +kernel
theorem dX4_nextOf_43 : decode cX4_nextOf 43 = .ok (.goto (-38), 3) := by decide +kernel
theorem dX4_nextOf_46 : decode cX4_nextOf 46 = .ok (.aconst_null, 1) := by decide +kernel
theorem dX4_nextOf_47 : decode cX4_nextOf 47 = .ok (.areturn, 1) := by decide +kernel
def vb_X4_nextOf_5 (post : Nat → mj_M → Prop) : Nat → Nat → Nat → Int32 → Nat → mj_M → Prop
  | 0 => fun _ _ _ _ _ => False
  | f + 1 => fun l0 l1 l2 l3 M => if l3 = 0 then (post 0 M) else (mj_tag M l3 = 4 ∧ if (mj_r M l3 2) = l1 then (vc_X3_hasFloor l3 l2 M (fun r4 M5 => if r4 = true then (mj_tag M5 l0 = 5 ∧ mj_tag M5 l3 = 4 ∧ vc_X3_isInForce l3 (mj_i M5 l0 0) M5 (fun r10 M11 => if r10 = true then (post l3 M11) else (mj_tag M11 l3 = 4 ∧ vb_X4_nextOf_5 post f l0 l1 l2 (mj_r M11 l3 1) M11))) else (mj_tag M5 l3 = 4 ∧ vb_X4_nextOf_5 post f l0 l1 l2 (mj_r M5 l3 1) M5))) else (vb_X4_nextOf_5 post f l0 l1 l2 (mj_r M l3 1) M))
def vc_X4_nextOf (l0 : Nat) (l1 : Nat) (l2 : Int32) (M : mj_M) (post : Nat → mj_M → Prop) : Prop := mj_tag M l0 = 5 ∧ ∃ fe, vb_X4_nextOf_5 post fe l0 l1 l2 (mj_r M l0 1) M
set_option maxHeartbeats 4000000 in
set_option maxRecDepth 100000 in
theorem xb_X4_nextOf_5 {g : mj_G} {post : Nat → mj_M → Prop} (hC : mj_C g yX4_nextOf cX4_nextOf 4 (some (.object "LeaseLand$Holding")) rm_X4_nextOf) (hE : mj_E g mj_jR post 0 0) : ∀ (f : Nat) (l0 : Nat) (l1 : Nat) (l2 : Int32) (l3 : Nat) (M : mj_M), vb_X4_nextOf_5 post f l0 l1 l2 l3 M → mj_X g 5 [(0, vR l0), (1, vR l1), (2, vI l2), (3, vR l3)] [] M 0 0 := by
  intro f
  induction f with
  | zero => exact fun _ _ _ _ _ h => absurd h (fun z => z)
  | succ f ih =>
    intro l0 l1 l2 l3 M h
    simp only [vb_X4_nextOf_5] at h
    refine mx_aload_n (j := 3) hC dX4_nextOf_5 rfl rfl ?_
    refine mx_ifnull (tgt := 46) hC dX4_nextOf_6 (by decide) (fun hc1 => ?_) (fun hc1 => ?_)
    · replace h := mj_yy hc1 h
      refine mx_null hC dX4_nextOf_46 ?_
      exact mx_aret hC hE rfl (Or.inl ⟨_, rfl⟩) dX4_nextOf_47 h
    · replace h := mj_nn hc1 h
      refine mx_aload_n (j := 3) hC dX4_nextOf_9 rfl rfl ?_
      obtain ⟨ht2, h⟩ := h
      refine mx_get (v := vR (mj_r M l3 2)) hC tf_X4_51 ht2 rfl dX4_nextOf_10 ?_
      refine mx_aload_n (j := 1) hC dX4_nextOf_13 rfl rfl ?_
      refine mx_acmpne (tgt := 38) hC dX4_nextOf_14 (by decide) (fun hc3 => ?_) (fun hc3 => ?_)
      · replace h := mj_nn hc3 h
        refine mx_aload_n (j := 3) hC dX4_nextOf_38 rfl rfl ?_
        refine mx_get (v := vR (mj_r M l3 1)) hC tf_X4_44 ht2 rfl dX4_nextOf_39 ?_
        refine mx_astore_n (L' := [(3, vR (mj_r M l3 1)), (0, vR l0), (1, vR l1), (2, vI l2)]) hC dX4_nextOf_42 rfl (by decide) rfl ?_
        refine mx_goto (tgt := 5) hC dX4_nextOf_43 (by decide) ?_
        refine mx_sub (L' := [(0, vR l0), (1, vR l1), (2, vI l2), (3, vR (mj_r M l3 1))]) [1, 2, 3, 0] rfl ?_
        exact show mj_X g 5 [(0, vR l0), (1, vR l1), (2, vI l2), (3, vR (mj_r M l3 1))] [] M 0 0 from (ih l0 l1 l2 (mj_r M l3 1) M h)
      · replace h := mj_yy hc3 h
        refine mx_aload_n (j := 3) hC dX4_nextOf_17 rfl rfl ?_
        refine mx_iload_n (j := 2) hC dX4_nextOf_18 rfl rfl ?_
        refine mx_callV (inj := mj_jB) (As := [vI l2]) (st := []) hC (ct_X3_hasFloor l3 l2 M _ h) ty_X3_hasFloor tw522 ht2 rfl (Nat.le_of_ble_eq_true rfl) ⟨rfl, rfl, ⟨by decide, by decide⟩, by decide, by decide⟩ dX4_nextOf_19 (fun r4 M5 h => ?_)
        show mj_X g 22 [(0, vR l0), (1, vR l1), (2, vI l2), (3, vR l3)] [vI (mj_b r4)] M5 0 0
        refine mx_ifeqB (tgt := 38) hC dX4_nextOf_22 (by decide) (fun hc6 => ?_) (fun hc6 => ?_)
        · replace h := mj_nn hc6 h
          refine mx_aload_n (j := 3) hC dX4_nextOf_38 rfl rfl ?_
          obtain ⟨ht7, h⟩ := h
          refine mx_get (v := vR (mj_r M5 l3 1)) hC tf_X4_44 ht7 rfl dX4_nextOf_39 ?_
          refine mx_astore_n (L' := [(3, vR (mj_r M5 l3 1)), (0, vR l0), (1, vR l1), (2, vI l2)]) hC dX4_nextOf_42 rfl (by decide) rfl ?_
          refine mx_goto (tgt := 5) hC dX4_nextOf_43 (by decide) ?_
          refine mx_sub (L' := [(0, vR l0), (1, vR l1), (2, vI l2), (3, vR (mj_r M5 l3 1))]) [1, 2, 3, 0] rfl ?_
          exact show mj_X g 5 [(0, vR l0), (1, vR l1), (2, vI l2), (3, vR (mj_r M5 l3 1))] [] M5 0 0 from (ih l0 l1 l2 (mj_r M5 l3 1) M5 h)
        · replace h := mj_yy hc6 h
          refine mx_aload_n (j := 3) hC dX4_nextOf_25 rfl rfl ?_
          refine mx_aload_n (j := 0) hC dX4_nextOf_26 rfl rfl ?_
          obtain ⟨ht8, h⟩ := h
          refine mx_get (v := vI (mj_i M5 l0 0)) hC tf_X4_28 ht8 rfl dX4_nextOf_27 ?_
          obtain ⟨ht9, h⟩ := h
          refine mx_callV (inj := mj_jB) (As := [vI (mj_i M5 l0 0)]) (st := []) hC (ct_X3_isInForce l3 (mj_i M5 l0 0) M5 _ h) ty_X3_isInForce tw462 ht9 rfl (Nat.le_of_ble_eq_true rfl) ⟨rfl, rfl, ⟨by decide, by decide⟩, by decide, by decide⟩ dX4_nextOf_30 (fun r10 M11 h => ?_)
          show mj_X g 33 [(0, vR l0), (1, vR l1), (2, vI l2), (3, vR l3)] [vI (mj_b r10)] M11 0 0
          refine mx_ifeqB (tgt := 38) hC dX4_nextOf_33 (by decide) (fun hc12 => ?_) (fun hc12 => ?_)
          · replace h := mj_nn hc12 h
            refine mx_aload_n (j := 3) hC dX4_nextOf_38 rfl rfl ?_
            obtain ⟨ht13, h⟩ := h
            refine mx_get (v := vR (mj_r M11 l3 1)) hC tf_X4_44 ht13 rfl dX4_nextOf_39 ?_
            refine mx_astore_n (L' := [(3, vR (mj_r M11 l3 1)), (0, vR l0), (1, vR l1), (2, vI l2)]) hC dX4_nextOf_42 rfl (by decide) rfl ?_
            refine mx_goto (tgt := 5) hC dX4_nextOf_43 (by decide) ?_
            refine mx_sub (L' := [(0, vR l0), (1, vR l1), (2, vI l2), (3, vR (mj_r M11 l3 1))]) [1, 2, 3, 0] rfl ?_
            exact show mj_X g 5 [(0, vR l0), (1, vR l1), (2, vI l2), (3, vR (mj_r M11 l3 1))] [] M11 0 0 from (ih l0 l1 l2 (mj_r M11 l3 1) M11 h)
          · replace h := mj_yy hc12 h
            refine mx_aload_n (j := 3) hC dX4_nextOf_36 rfl rfl ?_
            exact mx_aret hC hE rfl (Or.inl ⟨_, rfl⟩) dX4_nextOf_37 h
set_option maxHeartbeats 4000000 in
set_option maxRecDepth 100000 in
theorem ct_X4_nextOf {l : Launch} {base : Nat} {D : va_G} {A : ClassId × ClassId × ClassId} (l0 : Nat) (l1 : Nat) (l2 : Int32) (M : mj_M) (post : Nat → mj_M → Prop) (h : vc_X4_nextOf l0 l1 l2 M post) : mj_Met l base D A mj_jR yX4_nextOf cX4_nextOf 4 (some (.object "LeaseLand$Holding")) rm_X4_nextOf 0 0 [vR l0, vR l1, vI l2] M post := by
  refine mj_entry (by decide +kernel) (Nat.le_of_ble_eq_true rfl) (fun g hC hE h1 h2 h3 h4 => ?_)
  show mj_X g 0 [(0, vR l0), (1, vR l1), (2, vI l2)] [] M 0 0
  simp only [vc_X4_nextOf] at h
  refine mx_aload_n (j := 0) hC dX4_nextOf_0 rfl rfl ?_
  obtain ⟨ht14, h⟩ := h
  refine mx_get (v := vR (mj_r M l0 1)) hC tf_X4_37 ht14 rfl dX4_nextOf_1 ?_
  refine mx_astore_n (L' := [(3, vR (mj_r M l0 1)), (0, vR l0), (1, vR l1), (2, vI l2)]) hC dX4_nextOf_4 rfl (by decide) rfl ?_
  refine mx_sub (L' := [(0, vR l0), (1, vR l1), (2, vI l2), (3, vR (mj_r M l0 1))]) [1, 2, 3, 0] rfl ?_
  obtain ⟨fe, h⟩ := h
  exact show mj_X g 5 [(0, vR l0), (1, vR l1), (2, vI l2), (3, vR (mj_r M l0 1))] [] M 0 0 from (xb_X4_nextOf_5 hC hE fe l0 l1 l2 (mj_r M l0 1) M h)

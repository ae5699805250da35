/-! methods 6. By program (wip/gen) out of the bytecode: vc_KEY: what must hold of a call; ct_KEY: then the machine does it. -/
theorem tn782 : (Jvm.Cond.methodLinkNest "LeaseLand$Reading" (12 : Nat) ({ cls := "LeaseLand", name := "isFact", desc := "(I)Z" } : Jvm.MethodName) "LeaseLand") ∈ mj_nest := List.mem_filter.mpr ⟨List.mem_of_getElem? (i := 782) (by decide +kernel), rfl⟩
theorem tn802 : (Jvm.Cond.methodLinkNest "LeaseLand$Reading" (28 : Nat) ({ cls := "LeaseLand", name := "isDigit", desc := "(I)Z" } : Jvm.MethodName) "LeaseLand") ∈ mj_nest := List.mem_filter.mpr ⟨List.mem_of_getElem? (i := 802) (by decide +kernel), rfl⟩
theorem tw773 : (Jvm.Cond.methodLink "LeaseLand$Reading" (7 : Nat) ({ cls := "LeaseLand$Reading", name := "restart", desc := "()V" } : Jvm.MethodName)) ∈ mj_tbl := mj_w 826 (by decide +kernel) (by decide +kernel)
theorem tw783 : (Jvm.Cond.methodLink "LeaseLand$Reading" (18 : Nat) ({ cls := "LeaseLand$Land", name := "measure", desc := "(LLeaseLand$Holding;II)I" } : Jvm.MethodName)) ∈ mj_tbl := mj_w 836 (by decide +kernel) (by decide +kernel)
theorem tw803 : (Jvm.Cond.methodLink "LeaseLand$Reading" (34 : Nat) ({ cls := "LeaseLand$Reading", name := "compares", desc := "()Z" } : Jvm.MethodName)) ∈ mj_tbl := mj_w 856 (by decide +kernel) (by decide +kernel)
theorem tw811 : (Jvm.Cond.methodLink "LeaseLand$Reading" (45 : Nat) ({ cls := "LeaseLand$Reading", name := "takeSign", desc := "(I)V" } : Jvm.MethodName)) ∈ mj_tbl := mj_w 864 (by decide +kernel) (by decide +kernel)
theorem tw786 : (Jvm.Cond.code ({ cls := "LeaseLand$Land", name := "measure", desc := "(LLeaseLand$Holding;II)I" } : Jvm.MethodName) prog_6_method_32_code (4 : Nat) (Option.some Jvm.ClassFile.FieldType.int)) ∈ mj_tbl := mj_w 839 (by decide +kernel) (by decide +kernel)
theorem tw784 : (Jvm.Cond.instanceMethod ({ cls := "LeaseLand$Land", name := "measure", desc := "(LLeaseLand$Holding;II)I" } : Jvm.MethodName)) ∈ mj_tbl := mj_w 837 (by decide +kernel) (by decide +kernel)
theorem tw785 : (Jvm.Cond.selects "LeaseLand$Land" ({ cls := "LeaseLand$Land", name := "measure", desc := "(LLeaseLand$Holding;II)I" } : Jvm.MethodName) ({ cls := "LeaseLand$Land", name := "measure", desc := "(LLeaseLand$Holding;II)I" } : Jvm.MethodName)) ∈ mj_tbl := mj_w 838 (by decide +kernel) (by decide +kernel)
theorem ty_X4_measure : mj_YV 4 yX4_measure cX4_measure 4 (some .int) 3 := ⟨⟨tw786, tw2, by decide +kernel, by decide +kernel, by decide +kernel⟩, tw784, tw785, _, rfl, rfl⟩
theorem tw806 : (Jvm.Cond.code ({ cls := "LeaseLand$Reading", name := "compares", desc := "()Z" } : Jvm.MethodName) prog_10_method_8_code (1 : Nat) (Option.some Jvm.ClassFile.FieldType.boolean)) ∈ mj_tbl := mj_w 859 (by decide +kernel) (by decide +kernel)
theorem tw804 : (Jvm.Cond.instanceMethod ({ cls := "LeaseLand$Reading", name := "compares", desc := "()Z" } : Jvm.MethodName)) ∈ mj_tbl := mj_w 857 (by decide +kernel) (by decide +kernel)
theorem tw805 : (Jvm.Cond.selects "LeaseLand$Reading" ({ cls := "LeaseLand$Reading", name := "compares", desc := "()Z" } : Jvm.MethodName) ({ cls := "LeaseLand$Reading", name := "compares", desc := "()Z" } : Jvm.MethodName)) ∈ mj_tbl := mj_w 858 (by decide +kernel) (by decide +kernel)
theorem ty_X8_compares : mj_YV 8 yX8_compares cX8_compares 1 (some .boolean) 0 := ⟨⟨tw806, tw6, by decide +kernel, by decide +kernel, by decide +kernel⟩, tw804, tw805, _, rfl, rfl⟩
theorem tw776 : (Jvm.Cond.code ({ cls := "LeaseLand$Reading", name := "restart", desc := "()V" } : Jvm.MethodName) prog_10_method_3_code (1 : Nat) (Option.none : Option Jvm.ClassFile.FieldType)) ∈ mj_tbl := mj_w 829 (by decide +kernel) (by decide +kernel)
theorem tw774 : (Jvm.Cond.instanceMethod ({ cls := "LeaseLand$Reading", name := "restart", desc := "()V" } : Jvm.MethodName)) ∈ mj_tbl := mj_w 827 (by decide +kernel) (by decide +kernel)
theorem tw775 : (Jvm.Cond.selects "LeaseLand$Reading" ({ cls := "LeaseLand$Reading", name := "restart", desc := "()V" } : Jvm.MethodName) ({ cls := "LeaseLand$Reading", name := "restart", desc := "()V" } : Jvm.MethodName)) ∈ mj_tbl := mj_w 828 (by decide +kernel) (by decide +kernel)
theorem ty_X8_restart : mj_YV 8 yX8_restart cX8_restart 1 (none) 0 := ⟨⟨tw776, tw6, by decide +kernel, by decide +kernel, by decide +kernel⟩, tw774, tw775, _, rfl, rfl⟩
theorem tw814 : (Jvm.Cond.code ({ cls := "LeaseLand$Reading", name := "takeSign", desc := "(I)V" } : Jvm.MethodName) prog_10_method_5_code (5 : Nat) (Option.none : Option Jvm.ClassFile.FieldType)) ∈ mj_tbl := mj_w 867 (by decide +kernel) (by decide +kernel)
theorem tw812 : (Jvm.Cond.instanceMethod ({ cls := "LeaseLand$Reading", name := "takeSign", desc := "(I)V" } : Jvm.MethodName)) ∈ mj_tbl := mj_w 865 (by decide +kernel) (by decide +kernel)
theorem tw813 : (Jvm.Cond.selects "LeaseLand$Reading" ({ cls := "LeaseLand$Reading", name := "takeSign", desc := "(I)V" } : Jvm.MethodName) ({ cls := "LeaseLand$Reading", name := "takeSign", desc := "(I)V" } : Jvm.MethodName)) ∈ mj_tbl := mj_w 866 (by decide +kernel) (by decide +kernel)
theorem ty_X8_takeSign : mj_YV 8 yX8_takeSign cX8_takeSign 5 (none) 1 := ⟨⟨tw814, tw6, by decide +kernel, by decide +kernel, by decide +kernel⟩, tw812, tw813, _, rfl, rfl⟩
def rm_X8_isSo : Room := { frames := 9, cells := 0, slots := 0, locals := 270 }
theorem dX8_isSo_0 : decode cX8_isSo 0 = .ok (.aload_n 0, 1) := by decide +kernel
theorem dX8_isSo_1 : decode cX8_isSo 1 = .ok (.invokevirtual 7, 3) := by decide +kernel
theorem dX8_isSo_4 : decode cX8_isSo 4 = .ok (.iconst 0, 1) := by decide +kernel
theorem dX8_isSo_5 : decode cX8_isSo 5 = .ok (.istore 6, 2) := by decide +kernel
theorem dX8_isSo_7 : decode cX8_isSo 7 = .ok (.iload 6, 2) := by decide +kernel
theorem dX8_isSo_9 : decode cX8_isSo 9 = .ok (.aload_n 1, 1) := by decide +kernel
theorem dX8_isSo_10 : decode cX8_isSo 10 = .ok (.arraylength, 1) := by decide +kernel
theorem dX8_isSo_11 : decode cX8_isSo 11 = .ok (.if_icmp .ge 134, 3) := by decide +kernel
theorem dX8_isSo_14 : decode cX8_isSo 14 = .ok (.aload_n 1, 1) := by decide +kernel
theorem dX8_isSo_15 : decode cX8_isSo 15 = .ok (.iload 6, 2) := by decide +kernel
theorem dX8_isSo_17 : decode cX8_isSo 17 = .ok (.iaload, 1) := by decide +kernel
theorem dX8_isSo_18 : decode cX8_isSo 18 = .ok (.istore 7, 2) := by decide +kernel
theorem dX8_isSo_20 : decode cX8_isSo 20 = .ok (.iload 7, 2) := by decide +kernel
theorem dX8_isSo_22 : decode cX8_isSo 22 = .ok (.invokestatic 12, 3) := by decide +kernel
theorem dX8_isSo_25 : decode cX8_isSo 25 = .ok (.ifCond .eq 19, 3) := by decide +kernel
theorem dX8_isSo_28 : decode cX8_isSo 28 = .ok (.aload_n 0, 1) := by decide +kernel
theorem dX8_isSo_29 : decode cX8_isSo 29 = .ok (.aload_n 2, 1) := by decide +kernel
theorem dX8_isSo_30 : decode cX8_isSo 30 = .ok (.aload_n 3, 1) := by decide +kernel
theorem dX8_isSo_31 : decode cX8_isSo 31 = .ok (.iload 7, 2) := by decide +kernel
theorem dX8_isSo_33 : decode cX8_isSo 33 = .ok (.iload 4, 2) := by decide +kernel
theorem dX8_isSo_35 : decode cX8_isSo 35 = .ok (.invokevirtual 18, 3) := by decide +kernel
theorem dX8_isSo_38 : decode cX8_isSo 38 = .ok (.putfield 24, 3) := by decide +kernel
theorem dX8_isSo_41 : decode cX8_isSo 41 = .ok (.goto 98, 3) := by decide +kernel
theorem dX8_isSo_44 : decode cX8_isSo 44 = .ok (.iload 7, 2) := by decide +kernel
theorem dX8_isSo_46 : decode cX8_isSo 46 = .ok (.invokestatic 28, 3) := by decide +kernel
theorem dX8_isSo_49 : decode cX8_isSo 49 = .ok (.ifCond .eq 84, 3) := by decide +kernel
theorem dX8_isSo_52 : decode cX8_isSo 52 = .ok (.aload_n 0, 1) := by decide +kernel
theorem dX8_isSo_53 : decode cX8_isSo 53 = .ok (.aload_n 0, 1) := by decide +kernel
theorem dX8_isSo_54 : decode cX8_isSo 54 = .ok (.getfield 31, 3) := by decide +kernel
theorem dX8_isSo_57 : decode cX8_isSo 57 = .ok (.bipush 10, 2) := by decide +kernel
theorem dX8_isSo_59 : decode cX8_isSo 59 = .ok (.imul, 1) := by decide +kernel
theorem dX8_isSo_60 : decode cX8_isSo 60 = .ok (.iload 7, 2) := by decide +kernel
theorem dX8_isSo_62 : decode cX8_isSo 62 = .ok (.iadd, 1) := by decide +kernel
theorem dX8_isSo_63 : decode cX8_isSo 63 = .ok (.bipush 48, 2) := by decide +kernel
theorem dX8_isSo_65 : decode cX8_isSo 65 = .ok (.isub, 1) := by decide +kernel
theorem dX8_isSo_66 : decode cX8_isSo 66 = .ok (.putfield 31, 3) := by decide +kernel
theorem dX8_isSo_69 : decode cX8_isSo 69 = .ok (.iload 6, 2) := by decide +kernel
theorem dX8_isSo_71 : decode cX8_isSo 71 = .ok (.iconst 1, 1) := by decide +kernel
theorem dX8_isSo_72 : decode cX8_isSo 72 = .ok (.iadd, 1) := by decide +kernel
theorem dX8_isSo_73 : decode cX8_isSo 73 = .ok (.aload_n 1, 1) := by decide +kernel
theorem dX8_isSo_74 : decode cX8_isSo 74 = .ok (.arraylength, 1) := by decide +kernel
theorem dX8_isSo_75 : decode cX8_isSo 75 = .ok (.if_icmp .eq 15, 3) := by decide +kernel
theorem dX8_isSo_78 : decode cX8_isSo 78 = .ok (.aload_n 1, 1) := by decide +kernel
theorem dX8_isSo_79 : decode cX8_isSo 79 = .ok (.iload 6, 2) := by decide +kernel
theorem dX8_isSo_81 : decode cX8_isSo 81 = .ok (.iconst 1, 1) := by decide +kernel
theorem dX8_isSo_82 : decode cX8_isSo 82 = .ok (.iadd, 1) := by decide +kernel
theorem dX8_isSo_83 : decode cX8_isSo 83 = .ok (.iaload, 1) := by decide +kernel
theorem dX8_isSo_84 : decode cX8_isSo 84 = .ok (.invokestatic 28, 3) := by decide +kernel
theorem dX8_isSo_87 : decode cX8_isSo 87 = .ok (.ifCond .ne 52, 3) := by decide +kernel
theorem dX8_isSo_90 : decode cX8_isSo 90 = .ok (.aload_n 0, 1) := by decide +kernel
theorem dX8_isSo_91 : decode cX8_isSo 91 = .ok (.aload_n 0, 1) := by decide +kernel
theorem dX8_isSo_92 : decode cX8_isSo 92 = .ok (.invokevirtual 34, 3) := by decide +kernel
theorem dX8_isSo_95 : decode cX8_isSo 95 = .ok (.aload_n 0, 1) := by decide +kernel
theorem dX8_isSo_96 : decode cX8_isSo 96 = .ok (.getfield 38, 3) := by decide +kernel
theorem dX8_isSo_99 : decode cX8_isSo 99 = .ok (.iload 5, 2) := by decide +kernel
theorem dX8_isSo_101 : decode cX8_isSo 101 = .ok (.if_icmp .ne 7, 3) := by decide +kernel
theorem dX8_isSo_104 : decode cX8_isSo 104 = .ok (.iconst 1, 1) := by decide +kernel
theorem dX8_isSo_105 : decode cX8_isSo 105 = .ok (.goto 4, 3) := by decide +kernel
theorem dX8_isSo_108 : decode cX8_isSo 108 = .ok (.iconst 0, 1) := by decide +kernel
theorem dX8_isSo_109 : decode cX8_isSo 109 = .ok (.if_icmp .eq 7, 3) := by decide +kernel
theorem dX8_isSo_112 : decode cX8_isSo 112 = .ok (.iconst 1, 1) := by decide +kernel
theorem dX8_isSo_113 : decode cX8_isSo 113 = .ok (.goto 4, 3) := by decide +kernel
theorem dX8_isSo_116 : decode cX8_isSo 116 = .ok (.iconst 0, 1) := by decide +kernel
theorem dX8_isSo_117 : decode cX8_isSo 117 = .ok (.invokevirtual 41, 3) := by decide +kernel
theorem dX8_isSo_120 : decode cX8_isSo 120 = .ok (.aload_n 0, 1) := by decide +kernel
theorem dX8_isSo_121 : decode cX8_isSo 121 = .ok (.dup, 1) := by decide +kernel
theorem dX8_isSo_122 : decode cX8_isSo 122 = .ok (.getfield 38, 3) := by decide +kernel
theorem dX8_isSo_125 : decode cX8_isSo 125 = .ok (.iconst 1, 1) := by decide +kernel
theorem dX8_isSo_126 : decode cX8_isSo 126 = .ok (.iadd, 1) := by decide +kernel
theorem dX8_isSo_127 : decode cX8_isSo 127 = .ok (.putfield 38, 3) := by decide +kernel
theorem dX8_isSo_130 : decode cX8_isSo 130 = .ok (.goto 9, 3) := by decide +kernel
theorem dX8_isSo_133 : decode cX8_isSo 133 = .ok (.aload_n 0, 1) := by decide +kernel
theorem dX8_isSo_134 : decode cX8_isSo 134 = .ok (.iload 7, 2) := by decide +kernel
theorem dX8_isSo_136 : decode cX8_isSo 136 = .ok (.invokevirtual 45, 3) := by decide +kernel
theorem dX8_isSo_139 : decode cX8_isSo 139 = .ok (.iinc 6 1, 3) := by decide +kernel
theorem dX8_isSo_142 : decode cX8_isSo 142 = .ok (.goto (-135), 3) := by decide +kernel
theorem dX8_isSo_145 : decode cX8_isSo 145 = .ok (.aload_n 0, 1) := by decide +kernel
theorem dX8_isSo_146 : decode cX8_isSo 146 = .ok (.invokevirtual 49, 3) := by decide +kernel
theorem dX8_isSo_149 : decode cX8_isSo 149 = .ok (.ireturn, 1) := by decide +kernel
def vb_X8_isSo_117 (k7 : Nat → Nat → Nat → Nat → Int32 → Int32 → Int32 → mj_M → Prop) (post : Bool → mj_M → Prop) (l0 : Nat) (l1 : Nat) (l2 : Nat) (l3 : Nat) (l4 : Int32) (l5 : Int32) (l6 : Int32) (s0 : Nat) (s1 : Bool) (M : mj_M) : Prop := mj_tag M s0 = 9 ∧ vc_X8_takeFactor s0 s1 M (fun _ M2 => mj_tag M2 l0 = 9 ∧ k7 l0 l1 l2 l3 l4 l5 (l6 + 1) (mj_wi M2 l0 4 ((mj_i M2 l0 4) + 1)))
def vb_X8_isSo_109 (k7 : Nat → Nat → Nat → Nat → Int32 → Int32 → Int32 → mj_M → Prop) (post : Bool → mj_M → Prop) (l0 : Nat) (l1 : Nat) (l2 : Nat) (l3 : Nat) (l4 : Int32) (l5 : Int32) (l6 : Int32) (s0 : Nat) (s1 : Bool) (s2 : Bool) (M : mj_M) : Prop := if (mj_b s1) = (mj_b s2) then (vb_X8_isSo_117 k7 post l0 l1 l2 l3 l4 l5 l6 s0 false M) else (vb_X8_isSo_117 k7 post l0 l1 l2 l3 l4 l5 l6 s0 true M)
def vb_X8_isSo_90 (k7 : Nat → Nat → Nat → Nat → Int32 → Int32 → Int32 → mj_M → Prop) (post : Bool → mj_M → Prop) (l0 : Nat) (l1 : Nat) (l2 : Nat) (l3 : Nat) (l4 : Int32) (l5 : Int32) (l6 : Int32) (M : mj_M) : Prop := mj_tag M l0 = 9 ∧ vc_X8_compares l0 M (fun r6 M7 => mj_tag M7 l0 = 9 ∧ if (mj_i M7 l0 4) = l5 then (vb_X8_isSo_109 k7 post l0 l1 l2 l3 l4 l5 l6 l0 r6 true M7) else (vb_X8_isSo_109 k7 post l0 l1 l2 l3 l4 l5 l6 l0 r6 false M7))
def vb_X8_isSo_7 (post : Bool → mj_M → Prop) : Nat → Nat → Nat → Nat → Nat → Int32 → Int32 → Int32 → mj_M → Prop
  | 0 => fun _ _ _ _ _ _ _ _ => False
  | f + 1 => fun l0 l1 l2 l3 l4 l5 l6 M => mj_tag M l1 = 101 ∧ if (Int32.ofNat (mj_len M l1)) ≤ l6 then (mj_tag M l0 = 9 ∧ vc_X8_isSoHere l0 M (fun r13 M14 => post r13 M14)) else (vp_in l6 (mj_len M l1) ∧ vc_X11_isFact (mj_i M l1 (l6 : Int32).toNatClampNeg) M (fun r16 M17 => if r16 = true then (mj_tag M17 l2 = 5 ∧ vc_X4_measure l2 l3 (mj_i M l1 (l6 : Int32).toNatClampNeg) l4 M17 (fun r32 M33 => mj_tag M33 l0 = 9 ∧ vb_X8_isSo_7 post f l0 l1 l2 l3 l4 l5 (l6 + 1) (mj_wi M33 l0 5 r32))) else (vc_X11_isDigit (mj_i M l1 (l6 : Int32).toNatClampNeg) M17 (fun r19 M20 => if r19 = true then (mj_tag M20 l0 = 9 ∧ mj_tag M20 l1 = 101 ∧ if (l6 + 1) = (Int32.ofNat (mj_len M20 l1)) then (vb_X8_isSo_90 (vb_X8_isSo_7 post f) post l0 l1 l2 l3 l4 l5 l6 (mj_wi M20 l0 7 ((((mj_i M20 l0 7) * 10) + (mj_i M l1 (l6 : Int32).toNatClampNeg)) - 48))) else (vp_in (l6 + 1) (mj_len M20 l1) ∧ vc_X11_isDigit (mj_i (mj_wi M20 l0 7 ((((mj_i M20 l0 7) * 10) + (mj_i M l1 (l6 : Int32).toNatClampNeg)) - 48)) l1 (l6 + 1 : Int32).toNatClampNeg) (mj_wi M20 l0 7 ((((mj_i M20 l0 7) * 10) + (mj_i M l1 (l6 : Int32).toNatClampNeg)) - 48)) (fun r28 M29 => if r28 = true then (vb_X8_isSo_7 post f l0 l1 l2 l3 l4 l5 (l6 + 1) M29) else (vb_X8_isSo_90 (vb_X8_isSo_7 post f) post l0 l1 l2 l3 l4 l5 l6 M29)))) else (mj_tag M20 l0 = 9 ∧ vc_X8_takeSign l0 (mj_i M l1 (l6 : Int32).toNatClampNeg) M20 (fun _ M23 => vb_X8_isSo_7 post f l0 l1 l2 l3 l4 l5 (l6 + 1) M23))))))
def vc_X8_isSo (l0 : Nat) (l1 : Nat) (l2 : Nat) (l3 : Nat) (l4 : Int32) (l5 : Int32) (M : mj_M) (post : Bool → mj_M → Prop) : Prop := mj_tag M l0 = 9 ∧ vc_X8_restart l0 M (fun _ M36 => ∃ fe, vb_X8_isSo_7 post fe l0 l1 l2 l3 l4 l5 0 M36)
set_option maxHeartbeats 4000000 in
set_option maxRecDepth 100000 in
theorem xb_X8_isSo_117 {g : mj_G} {post : Bool → mj_M → Prop} (hC : mj_C g yX8_isSo cX8_isSo 8 (some .boolean) rm_X8_isSo) (hE : mj_E g mj_jB post 0 0) {k7 : Nat → Nat → Nat → Nat → Int32 → Int32 → Int32 → mj_M → Prop} (hk7 : ∀ (l0 : Nat) (l1 : Nat) (l2 : Nat) (l3 : Nat) (l4 : Int32) (l5 : Int32) (l6 : Int32) (M : mj_M), k7 l0 l1 l2 l3 l4 l5 l6 M → mj_X g 7 [(0, vR l0), (1, vR l1), (2, vR l2), (3, vR l3), (4, vI l4), (5, vI l5), (6, vI l6)] [] M 0 0) (l0 : Nat) (l1 : Nat) (l2 : Nat) (l3 : Nat) (l4 : Int32) (l5 : Int32) (l6 : Int32) (s0 : Nat) (s1 : Bool) (M : mj_M) (h : vb_X8_isSo_117 k7 post l0 l1 l2 l3 l4 l5 l6 s0 s1 M) : mj_X g 117 [(0, vR l0), (1, vR l1), (2, vR l2), (3, vR l3), (4, vI l4), (5, vI l5), (6, vI l6)] [vI (mj_b s1), vR s0] M 0 0 := by
  simp only [vb_X8_isSo_117] at h
  obtain ⟨ht1, h⟩ := h
  refine mx_callV (inj := mj_jV) (As := [vI (mj_b s1)]) (st := []) hC (ct_X8_takeFactor s0 s1 M _ h) ty_X8_takeFactor tw807 ht1 rfl (Nat.le_of_ble_eq_true rfl) ⟨rfl, rfl, ⟨by decide, by decide⟩, by decide, by decide⟩ dX8_isSo_117 (fun _ M2 h => ?_)
  show mj_X g 120 [(0, vR l0), (1, vR l1), (2, vR l2), (3, vR l3), (4, vI l4), (5, vI l5), (6, vI l6)] [] M2 0 0
  refine mx_aload_n (j := 0) hC dX8_isSo_120 rfl rfl ?_
  refine mx_dup hC dX8_isSo_121 rfl ?_
  obtain ⟨ht3, h⟩ := h
  refine mx_get (v := vI (mj_i M2 l0 4)) hC tf_X8_38 ht3 rfl dX8_isSo_122 ?_
  refine mx_iconst (v := 1) hC dX8_isSo_125 (by decide) ?_
  refine mx_iadd hC dX8_isSo_126 ?_
  refine mx_put (v := vI ((mj_i M2 l0 4) + 1)) (M1 := mj_wi M2 l0 4 ((mj_i M2 l0 4) + 1)) hC tf_X8_38 ht3 (Or.inl rfl) ⟨rfl, rfl⟩ (mj_off_wi _ _ _ _) mj_put_wi dX8_isSo_127 ?_
  refine mx_goto (tgt := 139) hC dX8_isSo_130 (by decide) ?_
  refine mx_iinc (j := 6) (v := l6 + 1) (L' := [(6, vI (l6 + 1)), (0, vR l0), (1, vR l1), (2, vR l2), (3, vR l3), (4, vI l4), (5, vI l5)]) hC dX8_isSo_139 rfl rfl (by decide) rfl ?_
  refine mx_goto (tgt := 7) hC dX8_isSo_142 (by decide) ?_
  refine mx_sub (L' := [(0, vR l0), (1, vR l1), (2, vR l2), (3, vR l3), (4, vI l4), (5, vI l5), (6, vI (l6 + 1))]) [1, 2, 3, 4, 5, 6, 0] rfl ?_
  exact show mj_X g 7 [(0, vR l0), (1, vR l1), (2, vR l2), (3, vR l3), (4, vI l4), (5, vI l5), (6, vI (l6 + 1))] [] (mj_wi M2 l0 4 ((mj_i M2 l0 4) + 1)) 0 0 from (hk7 l0 l1 l2 l3 l4 l5 (l6 + 1) (mj_wi M2 l0 4 ((mj_i M2 l0 4) + 1)) h)
set_option maxHeartbeats 4000000 in
set_option maxRecDepth 100000 in
theorem xb_X8_isSo_109 {g : mj_G} {post : Bool → mj_M → Prop} (hC : mj_C g yX8_isSo cX8_isSo 8 (some .boolean) rm_X8_isSo) (hE : mj_E g mj_jB post 0 0) {k7 : Nat → Nat → Nat → Nat → Int32 → Int32 → Int32 → mj_M → Prop} (hk7 : ∀ (l0 : Nat) (l1 : Nat) (l2 : Nat) (l3 : Nat) (l4 : Int32) (l5 : Int32) (l6 : Int32) (M : mj_M), k7 l0 l1 l2 l3 l4 l5 l6 M → mj_X g 7 [(0, vR l0), (1, vR l1), (2, vR l2), (3, vR l3), (4, vI l4), (5, vI l5), (6, vI l6)] [] M 0 0) (l0 : Nat) (l1 : Nat) (l2 : Nat) (l3 : Nat) (l4 : Int32) (l5 : Int32) (l6 : Int32) (s0 : Nat) (s1 : Bool) (s2 : Bool) (M : mj_M) (h : vb_X8_isSo_109 k7 post l0 l1 l2 l3 l4 l5 l6 s0 s1 s2 M) : mj_X g 109 [(0, vR l0), (1, vR l1), (2, vR l2), (3, vR l3), (4, vI l4), (5, vI l5), (6, vI l6)] [vI (mj_b s2), vI (mj_b s1), vR s0] M 0 0 := by
  simp only [vb_X8_isSo_109] at h
  refine mx_icmpeq (tgt := 116) hC dX8_isSo_109 (by decide) (fun hc4 => ?_) (fun hc4 => ?_)
  · replace h := mj_yy hc4 h
    refine mx_iconst (v := 0) hC dX8_isSo_116 (by decide) ?_
    refine mx_sub (L' := [(0, vR l0), (1, vR l1), (2, vR l2), (3, vR l3), (4, vI l4), (5, vI l5), (6, vI l6)]) [0, 1, 2, 3, 4, 5, 6] rfl ?_
    exact show mj_X g 117 [(0, vR l0), (1, vR l1), (2, vR l2), (3, vR l3), (4, vI l4), (5, vI l5), (6, vI l6)] [vI (mj_b false), vR s0] M 0 0 from (xb_X8_isSo_117 hC hE hk7 l0 l1 l2 l3 l4 l5 l6 s0 false M h)
  · replace h := mj_nn hc4 h
    refine mx_iconst (v := 1) hC dX8_isSo_112 (by decide) ?_
    refine mx_goto (tgt := 117) hC dX8_isSo_113 (by decide) ?_
    refine mx_sub (L' := [(0, vR l0), (1, vR l1), (2, vR l2), (3, vR l3), (4, vI l4), (5, vI l5), (6, vI l6)]) [0, 1, 2, 3, 4, 5, 6] rfl ?_
    exact show mj_X g 117 [(0, vR l0), (1, vR l1), (2, vR l2), (3, vR l3), (4, vI l4), (5, vI l5), (6, vI l6)] [vI (mj_b true), vR s0] M 0 0 from (xb_X8_isSo_117 hC hE hk7 l0 l1 l2 l3 l4 l5 l6 s0 true M h)
set_option maxHeartbeats 4000000 in
set_option maxRecDepth 100000 in
theorem xb_X8_isSo_90 {g : mj_G} {post : Bool → mj_M → Prop} (hC : mj_C g yX8_isSo cX8_isSo 8 (some .boolean) rm_X8_isSo) (hE : mj_E g mj_jB post 0 0) {k7 : Nat → Nat → Nat → Nat → Int32 → Int32 → Int32 → mj_M → Prop} (hk7 : ∀ (l0 : Nat) (l1 : Nat) (l2 : Nat) (l3 : Nat) (l4 : Int32) (l5 : Int32) (l6 : Int32) (M : mj_M), k7 l0 l1 l2 l3 l4 l5 l6 M → mj_X g 7 [(0, vR l0), (1, vR l1), (2, vR l2), (3, vR l3), (4, vI l4), (5, vI l5), (6, vI l6)] [] M 0 0) (l0 : Nat) (l1 : Nat) (l2 : Nat) (l3 : Nat) (l4 : Int32) (l5 : Int32) (l6 : Int32) (M : mj_M) (h : vb_X8_isSo_90 k7 post l0 l1 l2 l3 l4 l5 l6 M) : mj_X g 90 [(0, vR l0), (1, vR l1), (2, vR l2), (3, vR l3), (4, vI l4), (5, vI l5), (6, vI l6)] [] M 0 0 := by
  simp only [vb_X8_isSo_90] at h
  refine mx_aload_n (j := 0) hC dX8_isSo_90 rfl rfl ?_
  refine mx_aload_n (j := 0) hC dX8_isSo_91 rfl rfl ?_
  obtain ⟨ht5, h⟩ := h
  refine mx_callV (inj := mj_jB) (As := []) (st := [vR l0]) hC (ct_X8_compares l0 M _ h) ty_X8_compares tw803 ht5 rfl (Nat.le_of_ble_eq_true rfl) ⟨rfl, rfl, ⟨by decide, by decide⟩, by decide, by decide⟩ dX8_isSo_92 (fun r6 M7 h => ?_)
  show mj_X g 95 [(0, vR l0), (1, vR l1), (2, vR l2), (3, vR l3), (4, vI l4), (5, vI l5), (6, vI l6)] [vI (mj_b r6), vR l0] M7 0 0
  refine mx_aload_n (j := 0) hC dX8_isSo_95 rfl rfl ?_
  obtain ⟨ht8, h⟩ := h
  refine mx_get (v := vI (mj_i M7 l0 4)) hC tf_X8_38 ht8 rfl dX8_isSo_96 ?_
  refine mx_iload (j := 5) hC dX8_isSo_99 rfl ?_
  refine mx_icmpne (tgt := 108) hC dX8_isSo_101 (by decide) (fun hc9 => ?_) (fun hc9 => ?_)
  · replace h := mj_nn hc9 h
    refine mx_iconst (v := 0) hC dX8_isSo_108 (by decide) ?_
    refine mx_sub (L' := [(0, vR l0), (1, vR l1), (2, vR l2), (3, vR l3), (4, vI l4), (5, vI l5), (6, vI l6)]) [0, 1, 2, 3, 4, 5, 6] rfl ?_
    exact show mj_X g 109 [(0, vR l0), (1, vR l1), (2, vR l2), (3, vR l3), (4, vI l4), (5, vI l5), (6, vI l6)] [vI (mj_b false), vI (mj_b r6), vR l0] M7 0 0 from (xb_X8_isSo_109 hC hE hk7 l0 l1 l2 l3 l4 l5 l6 l0 r6 false M7 h)
  · replace h := mj_yy hc9 h
    refine mx_iconst (v := 1) hC dX8_isSo_104 (by decide) ?_
    refine mx_goto (tgt := 109) hC dX8_isSo_105 (by decide) ?_
    refine mx_sub (L' := [(0, vR l0), (1, vR l1), (2, vR l2), (3, vR l3), (4, vI l4), (5, vI l5), (6, vI l6)]) [0, 1, 2, 3, 4, 5, 6] rfl ?_
    exact show mj_X g 109 [(0, vR l0), (1, vR l1), (2, vR l2), (3, vR l3), (4, vI l4), (5, vI l5), (6, vI l6)] [vI (mj_b true), vI (mj_b r6), vR l0] M7 0 0 from (xb_X8_isSo_109 hC hE hk7 l0 l1 l2 l3 l4 l5 l6 l0 r6 true M7 h)
set_option maxHeartbeats 4000000 in
set_option maxRecDepth 100000 in
theorem xb_X8_isSo_7 {g : mj_G} {post : Bool → mj_M → Prop} (hC : mj_C g yX8_isSo cX8_isSo 8 (some .boolean) rm_X8_isSo) (hE : mj_E g mj_jB post 0 0) : ∀ (f : Nat) (l0 : Nat) (l1 : Nat) (l2 : Nat) (l3 : Nat) (l4 : Int32) (l5 : Int32) (l6 : Int32) (M : mj_M), vb_X8_isSo_7 post f l0 l1 l2 l3 l4 l5 l6 M → mj_X g 7 [(0, vR l0), (1, vR l1), (2, vR l2), (3, vR l3), (4, vI l4), (5, vI l5), (6, vI l6)] [] M 0 0 := by
  intro f
  induction f with
  | zero => exact fun _ _ _ _ _ _ _ _ h => absurd h (fun z => z)
  | succ f ih =>
    intro l0 l1 l2 l3 l4 l5 l6 M h
    simp only [vb_X8_isSo_7] at h
    refine mx_iload (j := 6) hC dX8_isSo_7 rfl ?_
    refine mx_aload_n (j := 1) hC dX8_isSo_9 rfl rfl ?_
    obtain ⟨ht10, h⟩ := h
    refine mx_alen hC ht10 dX8_isSo_10 ?_
    refine mx_icmpge (tgt := 145) hC dX8_isSo_11 (by decide) (fun hc11 => ?_) (fun hc11 => ?_)
    · replace h := mj_yy hc11 h
      refine mx_aload_n (j := 0) hC dX8_isSo_145 rfl rfl ?_
      obtain ⟨ht12, h⟩ := h
      refine mx_callV (inj := mj_jB) (As := []) (st := []) hC (ct_X8_isSoHere l0 M _ h) ty_X8_isSoHere tw816 ht12 rfl (Nat.le_of_ble_eq_true rfl) ⟨rfl, rfl, ⟨by decide, by decide⟩, by decide, by decide⟩ dX8_isSo_146 (fun r13 M14 h => ?_)
      show mj_X g 149 [(0, vR l0), (1, vR l1), (2, vR l2), (3, vR l3), (4, vI l4), (5, vI l5), (6, vI l6)] [vI (mj_b r13)] M14 0 0
      exact mx_zret (b := r13) hC hE rfl dX8_isSo_149 h
    · replace h := mj_nn hc11 h
      refine mx_aload_n (j := 1) hC dX8_isSo_14 rfl rfl ?_
      refine mx_iload (j := 6) hC dX8_isSo_15 rfl ?_
      obtain ⟨hi15, h⟩ := h
      refine mx_iaload hC ht10 hi15 dX8_isSo_17 ?_
      refine mx_istore (L' := [(7, vI (mj_i M l1 (l6 : Int32).toNatClampNeg)), (0, vR l0), (1, vR l1), (2, vR l2), (3, vR l3), (4, vI l4), (5, vI l5), (6, vI l6)]) hC dX8_isSo_18 (by decide) rfl ?_
      refine mx_iload (j := 0) hC dX8_isSo_20 rfl ?_
      refine mx_callSN (inj := mj_jB) (As := [vI (mj_i M l1 (l6 : Int32).toNatClampNeg)]) (st := []) hC (ct_X11_isFact (mj_i M l1 (l6 : Int32).toNatClampNeg) M _ h) ty_X11_isFact tn782 rfl (Nat.le_of_ble_eq_true rfl) ⟨rfl, rfl, ⟨by decide, by decide⟩, by decide, by decide⟩ dX8_isSo_22 (fun r16 M17 h => ?_)
      show mj_X g 25 [(7, vI (mj_i M l1 (l6 : Int32).toNatClampNeg)), (0, vR l0), (1, vR l1), (2, vR l2), (3, vR l3), (4, vI l4), (5, vI l5), (6, vI l6)] [vI (mj_b r16)] M17 0 0
      refine mx_ifeqB (tgt := 44) hC dX8_isSo_25 (by decide) (fun hc18 => ?_) (fun hc18 => ?_)
      · replace h := mj_nn hc18 h
        refine mx_iload (j := 0) hC dX8_isSo_44 rfl ?_
        refine mx_callSN (inj := mj_jB) (As := [vI (mj_i M l1 (l6 : Int32).toNatClampNeg)]) (st := []) hC (ct_X11_isDigit (mj_i M l1 (l6 : Int32).toNatClampNeg) M17 _ h) ty_X11_isDigit tn802 rfl (Nat.le_of_ble_eq_true rfl) ⟨rfl, rfl, ⟨by decide, by decide⟩, by decide, by decide⟩ dX8_isSo_46 (fun r19 M20 h => ?_)
        show mj_X g 49 [(7, vI (mj_i M l1 (l6 : Int32).toNatClampNeg)), (0, vR l0), (1, vR l1), (2, vR l2), (3, vR l3), (4, vI l4), (5, vI l5), (6, vI l6)] [vI (mj_b r19)] M20 0 0
        refine mx_ifeqB (tgt := 133) hC dX8_isSo_49 (by decide) (fun hc21 => ?_) (fun hc21 => ?_)
        · replace h := mj_nn hc21 h
          refine mx_aload_n (j := 1) hC dX8_isSo_133 rfl rfl ?_
          refine mx_iload (j := 0) hC dX8_isSo_134 rfl ?_
          obtain ⟨ht22, h⟩ := h
          refine mx_callV (inj := mj_jV) (As := [vI (mj_i M l1 (l6 : Int32).toNatClampNeg)]) (st := []) hC (ct_X8_takeSign l0 (mj_i M l1 (l6 : Int32).toNatClampNeg) M20 _ h) ty_X8_takeSign tw811 ht22 rfl (Nat.le_of_ble_eq_true rfl) ⟨rfl, rfl, ⟨by decide, by decide⟩, by decide, by decide⟩ dX8_isSo_136 (fun _ M23 h => ?_)
          show mj_X g 139 [(7, vI (mj_i M l1 (l6 : Int32).toNatClampNeg)), (0, vR l0), (1, vR l1), (2, vR l2), (3, vR l3), (4, vI l4), (5, vI l5), (6, vI l6)] [] M23 0 0
          refine mx_iinc (j := 7) (v := l6 + 1) (L' := [(6, vI (l6 + 1)), (7, vI (mj_i M l1 (l6 : Int32).toNatClampNeg)), (0, vR l0), (1, vR l1), (2, vR l2), (3, vR l3), (4, vI l4), (5, vI l5)]) hC dX8_isSo_139 rfl rfl (by decide) rfl ?_
          refine mx_goto (tgt := 7) hC dX8_isSo_142 (by decide) ?_
          refine mx_sub (L' := [(0, vR l0), (1, vR l1), (2, vR l2), (3, vR l3), (4, vI l4), (5, vI l5), (6, vI (l6 + 1))]) [2, 3, 4, 5, 6, 7, 0] rfl ?_
          exact show mj_X g 7 [(0, vR l0), (1, vR l1), (2, vR l2), (3, vR l3), (4, vI l4), (5, vI l5), (6, vI (l6 + 1))] [] M23 0 0 from (ih l0 l1 l2 l3 l4 l5 (l6 + 1) M23 h)
        · replace h := mj_yy hc21 h
          refine mx_aload_n (j := 1) hC dX8_isSo_52 rfl rfl ?_
          refine mx_aload_n (j := 1) hC dX8_isSo_53 rfl rfl ?_
          obtain ⟨ht24, h⟩ := h
          refine mx_get (v := vI (mj_i M20 l0 7)) hC tf_X8_31 ht24 rfl dX8_isSo_54 ?_
          refine mx_bipush (v := 10) hC dX8_isSo_57 (by decide) ?_
          refine mx_imul hC dX8_isSo_59 ?_
          refine mx_iload (j := 0) hC dX8_isSo_60 rfl ?_
          refine mx_iadd hC dX8_isSo_62 ?_
          refine mx_bipush (v := 48) hC dX8_isSo_63 (by decide) ?_
          refine mx_isub hC dX8_isSo_65 ?_
          refine mx_put (v := vI ((((mj_i M20 l0 7) * 10) + (mj_i M l1 (l6 : Int32).toNatClampNeg)) - 48)) (M1 := mj_wi M20 l0 7 ((((mj_i M20 l0 7) * 10) + (mj_i M l1 (l6 : Int32).toNatClampNeg)) - 48)) hC tf_X8_31 ht24 (Or.inl rfl) ⟨rfl, rfl⟩ (mj_off_wi _ _ _ _) mj_put_wi dX8_isSo_66 ?_
          refine mx_iload (j := 7) hC dX8_isSo_69 rfl ?_
          refine mx_iconst (v := 1) hC dX8_isSo_71 (by decide) ?_
          refine mx_iadd hC dX8_isSo_72 ?_
          refine mx_aload_n (j := 2) hC dX8_isSo_73 rfl rfl ?_
          obtain ⟨ht25, h⟩ := h
          refine mx_alen hC ht25 dX8_isSo_74 ?_
          refine mx_icmpeq (tgt := 90) hC dX8_isSo_75 (by decide) (fun hc26 => ?_) (fun hc26 => ?_)
          · replace h := mj_yy hc26 h
            refine mx_sub (L' := [(0, vR l0), (1, vR l1), (2, vR l2), (3, vR l3), (4, vI l4), (5, vI l5), (6, vI l6)]) [1, 2, 3, 4, 5, 6, 7] rfl ?_
            exact show mj_X g 90 [(0, vR l0), (1, vR l1), (2, vR l2), (3, vR l3), (4, vI l4), (5, vI l5), (6, vI l6)] [] (mj_wi M20 l0 7 ((((mj_i M20 l0 7) * 10) + (mj_i M l1 (l6 : Int32).toNatClampNeg)) - 48)) 0 0 from (xb_X8_isSo_90 hC hE ih l0 l1 l2 l3 l4 l5 l6 (mj_wi M20 l0 7 ((((mj_i M20 l0 7) * 10) + (mj_i M l1 (l6 : Int32).toNatClampNeg)) - 48)) h)
          · replace h := mj_nn hc26 h
            refine mx_aload_n (j := 2) hC dX8_isSo_78 rfl rfl ?_
            refine mx_iload (j := 7) hC dX8_isSo_79 rfl ?_
            refine mx_iconst (v := 1) hC dX8_isSo_81 (by decide) ?_
            refine mx_iadd hC dX8_isSo_82 ?_
            obtain ⟨hi27, h⟩ := h
            refine mx_iaload hC ht25 hi27 dX8_isSo_83 ?_
            refine mx_callSN (inj := mj_jB) (As := [vI (mj_i (mj_wi M20 l0 7 ((((mj_i M20 l0 7) * 10) + (mj_i M l1 (l6 : Int32).toNatClampNeg)) - 48)) l1 (l6 + 1 : Int32).toNatClampNeg)]) (st := []) hC (ct_X11_isDigit (mj_i (mj_wi M20 l0 7 ((((mj_i M20 l0 7) * 10) + (mj_i M l1 (l6 : Int32).toNatClampNeg)) - 48)) l1 (l6 + 1 : Int32).toNatClampNeg) (mj_wi M20 l0 7 ((((mj_i M20 l0 7) * 10) + (mj_i M l1 (l6 : Int32).toNatClampNeg)) - 48)) _ h) ty_X11_isDigit tn802 rfl (Nat.le_of_ble_eq_true rfl) ⟨rfl, rfl, ⟨by decide, by decide⟩, by decide, by decide⟩ dX8_isSo_84 (fun r28 M29 h => ?_)
            show mj_X g 87 [(7, vI (mj_i M l1 (l6 : Int32).toNatClampNeg)), (0, vR l0), (1, vR l1), (2, vR l2), (3, vR l3), (4, vI l4), (5, vI l5), (6, vI l6)] [vI (mj_b r28)] M29 0 0
            refine mx_ifneB (tgt := 139) hC dX8_isSo_87 (by decide) (fun hc30 => ?_) (fun hc30 => ?_)
            · replace h := mj_yy hc30 h
              refine mx_iinc (j := 7) (v := l6 + 1) (L' := [(6, vI (l6 + 1)), (7, vI (mj_i M l1 (l6 : Int32).toNatClampNeg)), (0, vR l0), (1, vR l1), (2, vR l2), (3, vR l3), (4, vI l4), (5, vI l5)]) hC dX8_isSo_139 rfl rfl (by decide) rfl ?_
              refine mx_goto (tgt := 7) hC dX8_isSo_142 (by decide) ?_
              refine mx_sub (L' := [(0, vR l0), (1, vR l1), (2, vR l2), (3, vR l3), (4, vI l4), (5, vI l5), (6, vI (l6 + 1))]) [2, 3, 4, 5, 6, 7, 0] rfl ?_
              exact show mj_X g 7 [(0, vR l0), (1, vR l1), (2, vR l2), (3, vR l3), (4, vI l4), (5, vI l5), (6, vI (l6 + 1))] [] M29 0 0 from (ih l0 l1 l2 l3 l4 l5 (l6 + 1) M29 h)
            · replace h := mj_nn hc30 h
              refine mx_sub (L' := [(0, vR l0), (1, vR l1), (2, vR l2), (3, vR l3), (4, vI l4), (5, vI l5), (6, vI l6)]) [1, 2, 3, 4, 5, 6, 7] rfl ?_
              exact show mj_X g 90 [(0, vR l0), (1, vR l1), (2, vR l2), (3, vR l3), (4, vI l4), (5, vI l5), (6, vI l6)] [] M29 0 0 from (xb_X8_isSo_90 hC hE ih l0 l1 l2 l3 l4 l5 l6 M29 h)
      · replace h := mj_yy hc18 h
        refine mx_aload_n (j := 1) hC dX8_isSo_28 rfl rfl ?_
        refine mx_aload_n (j := 3) hC dX8_isSo_29 rfl rfl ?_
        refine mx_aload_n (j := 4) hC dX8_isSo_30 rfl rfl ?_
        refine mx_iload (j := 0) hC dX8_isSo_31 rfl ?_
        refine mx_iload (j := 5) hC dX8_isSo_33 rfl ?_
        obtain ⟨ht31, h⟩ := h
        refine mx_callV (inj := mj_jI) (As := [vR l3, vI (mj_i M l1 (l6 : Int32).toNatClampNeg), vI l4]) (st := [vR l0]) hC (ct_X4_measure l2 l3 (mj_i M l1 (l6 : Int32).toNatClampNeg) l4 M17 _ h) ty_X4_measure tw783 ht31 rfl (Nat.le_of_ble_eq_true rfl) ⟨rfl, rfl, ⟨by decide, by decide⟩, by decide, by decide⟩ dX8_isSo_35 (fun r32 M33 h => ?_)
        show mj_X g 38 [(7, vI (mj_i M l1 (l6 : Int32).toNatClampNeg)), (0, vR l0), (1, vR l1), (2, vR l2), (3, vR l3), (4, vI l4), (5, vI l5), (6, vI l6)] [vI r32, vR l0] M33 0 0
        obtain ⟨ht34, h⟩ := h
        refine mx_put (v := vI r32) (M1 := mj_wi M33 l0 5 r32) hC tf_X8_24 ht34 (Or.inl rfl) ⟨rfl, rfl⟩ (mj_off_wi _ _ _ _) mj_put_wi dX8_isSo_38 ?_
        refine mx_goto (tgt := 139) hC dX8_isSo_41 (by decide) ?_
        refine mx_iinc (j := 7) (v := l6 + 1) (L' := [(6, vI (l6 + 1)), (7, vI (mj_i M l1 (l6 : Int32).toNatClampNeg)), (0, vR l0), (1, vR l1), (2, vR l2), (3, vR l3), (4, vI l4), (5, vI l5)]) hC dX8_isSo_139 rfl rfl (by decide) rfl ?_
        refine mx_goto (tgt := 7) hC dX8_isSo_142 (by decide) ?_
        refine mx_sub (L' := [(0, vR l0), (1, vR l1), (2, vR l2), (3, vR l3), (4, vI l4), (5, vI l5), (6, vI (l6 + 1))]) [2, 3, 4, 5, 6, 7, 0] rfl ?_
        exact show mj_X g 7 [(0, vR l0), (1, vR l1), (2, vR l2), (3, vR l3), (4, vI l4), (5, vI l5), (6, vI (l6 + 1))] [] (mj_wi M33 l0 5 r32) 0 0 from (ih l0 l1 l2 l3 l4 l5 (l6 + 1) (mj_wi M33 l0 5 r32) h)
set_option maxHeartbeats 4000000 in
set_option maxRecDepth 100000 in
theorem ct_X8_isSo {l : Launch} {base : Nat} {D : va_G} {A : ClassId × ClassId × ClassId} (l0 : Nat) (l1 : Nat) (l2 : Nat) (l3 : Nat) (l4 : Int32) (l5 : Int32) (M : mj_M) (post : Bool → mj_M → Prop) (h : vc_X8_isSo l0 l1 l2 l3 l4 l5 M post) : mj_Met l base D A mj_jB yX8_isSo cX8_isSo 8 (some .boolean) rm_X8_isSo 0 0 [vR l0, vR l1, vR l2, vR l3, vI l4, vI l5] M post := by
  refine mj_entry (by decide +kernel) (Nat.le_of_ble_eq_true rfl) (fun g hC hE h1 h2 h3 h4 => ?_)
  show mj_X g 0 [(0, vR l0), (1, vR l1), (2, vR l2), (3, vR l3), (4, vI l4), (5, vI l5)] [] M 0 0
  simp only [vc_X8_isSo] at h
  refine mx_aload_n (j := 0) hC dX8_isSo_0 rfl rfl ?_
  obtain ⟨ht35, h⟩ := h
  refine mx_callV (inj := mj_jV) (As := []) (st := []) hC (ct_X8_restart l0 M _ h) ty_X8_restart tw773 ht35 rfl (Nat.le_of_ble_eq_true rfl) ⟨rfl, rfl, ⟨by decide, by decide⟩, by decide, by decide⟩ dX8_isSo_1 (fun _ M36 h => ?_)
  show mj_X g 4 [(0, vR l0), (1, vR l1), (2, vR l2), (3, vR l3), (4, vI l4), (5, vI l5)] [] M36 0 0
  refine mx_iconst (v := 0) hC dX8_isSo_4 (by decide) ?_
  refine mx_istore (L' := [(6, vI 0), (0, vR l0), (1, vR l1), (2, vR l2), (3, vR l3), (4, vI l4), (5, vI l5)]) hC dX8_isSo_5 (by decide) rfl ?_
  refine mx_sub (L' := [(0, vR l0), (1, vR l1), (2, vR l2), (3, vR l3), (4, vI l4), (5, vI l5), (6, vI 0)]) [1, 2, 3, 4, 5, 6, 0] rfl ?_
  obtain ⟨fe, h⟩ := h
  exact show mj_X g 7 [(0, vR l0), (1, vR l1), (2, vR l2), (3, vR l3), (4, vI l4), (5, vI l5), (6, vI 0)] [] M36 0 0 from (xb_X8_isSo_7 hC hE fe l0 l1 l2 l3 l4 l5 0 M36 h)
theorem tw261 : (Jvm.Cond.fieldLink "LeaseLand" (10 : Nat) "LeaseLand" "land" "LLeaseLand$Land;") ∈ mj_tbl := mj_w 314 (by decide +kernel) (by decide +kernel)
theorem tk11 : mj_KC 11 (RX11, TX11, 8, tyX11) := ⟨rfl, fun w hw => List.mem_filter.mpr ⟨(goodIn_r (big := lw_tbl) (u_ws RX11 TX11 8) [322, 324, 326, 328, 330, 332, 334, 336] (by decide +kernel) (by decide +kernel) w hw).1, List.all_eq_true.mp (show (u_ws RX11 TX11 8).all goodWord = true by decide +kernel) w hw⟩, tyX11_ok, nmX11, by decide⟩
theorem tf_X11_10 : mj_F 11 0 (.object "LeaseLand$Land") true "LeaseLand" 10 := ⟨_, tk11, by decide, rfl, rfl, rfl, tw261⟩
theorem tw262 : (Jvm.Cond.fieldLink "LeaseLand" (19 : Nat) "LeaseLand" "acts" "LLeaseLand$Acts;") ∈ mj_tbl := mj_w 315 (by decide +kernel) (by decide +kernel)
theorem tf_X11_19 : mj_F 11 1 (.object "LeaseLand$Acts") true "LeaseLand" 19 := ⟨_, tk11, by decide, rfl, rfl, rfl, tw262⟩
theorem tw263 : (Jvm.Cond.fieldLink "LeaseLand" (26 : Nat) "LeaseLand" "reading" "LLeaseLand$Reading;") ∈ mj_tbl := mj_w 316 (by decide +kernel) (by decide +kernel)
theorem tf_X11_26 : mj_F 11 2 (.object "LeaseLand$Reading") true "LeaseLand" 26 := ⟨_, tk11, by decide, rfl, rfl, rfl, tw263⟩
theorem tw264 : (Jvm.Cond.fieldLink "LeaseLand" (33 : Nat) "LeaseLand" "notices" "LLeaseLand$Notices;") ∈ mj_tbl := mj_w 317 (by decide +kernel) (by decide +kernel)
theorem tf_X11_33 : mj_F 11 3 (.object "LeaseLand$Notices") true "LeaseLand" 33 := ⟨_, tk11, by decide, rfl, rfl, rfl, tw264⟩
theorem tw265 : (Jvm.Cond.fieldLink "LeaseLand" (40 : Nat) "LeaseLand" "market" "LLeaseLand$Market;") ∈ mj_tbl := mj_w 318 (by decide +kernel) (by decide +kernel)
theorem tf_X11_40 : mj_F 11 4 (.object "LeaseLand$Market") true "LeaseLand" 40 := ⟨_, tk11, by decide, rfl, rfl, rfl, tw265⟩
theorem tw266 : (Jvm.Cond.fieldLink "LeaseLand" (47 : Nat) "LeaseLand" "sales" "LLeaseLand$Sales;") ∈ mj_tbl := mj_w 319 (by decide +kernel) (by decide +kernel)
theorem tf_X11_47 : mj_F 11 5 (.object "LeaseLand$Sales") true "LeaseLand" 47 := ⟨_, tk11, by decide, rfl, rfl, rfl, tw266⟩
theorem tw267 : (Jvm.Cond.fieldLink "LeaseLand" (54 : Nat) "LeaseLand" "register" "LLeaseLand$Register;") ∈ mj_tbl := mj_w 320 (by decide +kernel) (by decide +kernel)
theorem tf_X11_54 : mj_F 11 6 (.object "LeaseLand$Register") true "LeaseLand" 54 := ⟨_, tk11, by decide, rfl, rfl, rfl, tw267⟩
theorem tw268 : (Jvm.Cond.fieldLink "LeaseLand" (58 : Nat) "LeaseLand" "joined" "[I") ∈ mj_tbl := mj_w 321 (by decide +kernel) (by decide +kernel)
theorem tf_X11_58 : mj_F 11 7 (.array .int) true "LeaseLand" 58 := ⟨_, tk11, by decide, rfl, rfl, rfl, tw268⟩
theorem tn106 : (Jvm.Cond.methodLinkNest "LeaseLand" (25 : Nat) ({ cls := "LeaseLand$Reading", name := "<init>", desc := "()V" } : Jvm.MethodName) "LeaseLand") ∈ mj_nest := List.mem_filter.mpr ⟨List.mem_of_getElem? (i := 106) (by decide +kernel), rfl⟩
theorem tn138 : (Jvm.Cond.methodLinkNest "LeaseLand" (32 : Nat) ({ cls := "LeaseLand$Notices", name := "<init>", desc := "()V" } : Jvm.MethodName) "LeaseLand") ∈ mj_nest := List.mem_filter.mpr ⟨List.mem_of_getElem? (i := 138) (by decide +kernel), rfl⟩
theorem tn155 : (Jvm.Cond.methodLinkNest "LeaseLand" (39 : Nat) ({ cls := "LeaseLand$Market", name := "<init>", desc := "()V" } : Jvm.MethodName) "LeaseLand") ∈ mj_nest := List.mem_filter.mpr ⟨List.mem_of_getElem? (i := 155) (by decide +kernel), rfl⟩
theorem tn199 : (Jvm.Cond.methodLinkNest "LeaseLand" (46 : Nat) ({ cls := "LeaseLand$Sales", name := "<init>", desc := "()V" } : Jvm.MethodName) "LeaseLand") ∈ mj_nest := List.mem_filter.mpr ⟨List.mem_of_getElem? (i := 199) (by decide +kernel), rfl⟩
theorem tn231 : (Jvm.Cond.methodLinkNest "LeaseLand" (53 : Nat) ({ cls := "LeaseLand$Register", name := "<init>", desc := "()V" } : Jvm.MethodName) "LeaseLand") ∈ mj_nest := List.mem_filter.mpr ⟨List.mem_of_getElem? (i := 231) (by decide +kernel), rfl⟩
theorem tn66 : (Jvm.Cond.methodLinkNest "LeaseLand" (18 : Nat) ({ cls := "LeaseLand$Acts", name := "<init>", desc := "()V" } : Jvm.MethodName) "LeaseLand") ∈ mj_nest := List.mem_filter.mpr ⟨List.mem_of_getElem? (i := 66) (by decide +kernel), rfl⟩
theorem tw104 : (Jvm.Cond.classLink "LeaseLand" (23 : Nat) "LeaseLand$Reading") ∈ mj_tbl := mj_w 157 (by decide +kernel) (by decide +kernel)
theorem tw105 : (Jvm.Cond.instantiable "LeaseLand$Reading" (8 : Nat)) ∈ mj_tbl := mj_w 158 (by decide +kernel) (by decide +kernel)
theorem tw136 : (Jvm.Cond.classLink "LeaseLand" (30 : Nat) "LeaseLand$Notices") ∈ mj_tbl := mj_w 189 (by decide +kernel) (by decide +kernel)
theorem tw137 : (Jvm.Cond.instantiable "LeaseLand$Notices" (3 : Nat)) ∈ mj_tbl := mj_w 190 (by decide +kernel) (by decide +kernel)
theorem tw153 : (Jvm.Cond.classLink "LeaseLand" (37 : Nat) "LeaseLand$Market") ∈ mj_tbl := mj_w 206 (by decide +kernel) (by decide +kernel)
theorem tw154 : (Jvm.Cond.instantiable "LeaseLand$Market" (10 : Nat)) ∈ mj_tbl := mj_w 207 (by decide +kernel) (by decide +kernel)
theorem tw197 : (Jvm.Cond.classLink "LeaseLand" (44 : Nat) "LeaseLand$Sales") ∈ mj_tbl := mj_w 250 (by decide +kernel) (by decide +kernel)
theorem tw198 : (Jvm.Cond.instantiable "LeaseLand$Sales" (8 : Nat)) ∈ mj_tbl := mj_w 251 (by decide +kernel) (by decide +kernel)
theorem tw229 : (Jvm.Cond.classLink "LeaseLand" (51 : Nat) "LeaseLand$Register") ∈ mj_tbl := mj_w 282 (by decide +kernel) (by decide +kernel)
theorem tw230 : (Jvm.Cond.instantiable "LeaseLand$Register" (8 : Nat)) ∈ mj_tbl := mj_w 283 (by decide +kernel) (by decide +kernel)
theorem tw28 : (Jvm.Cond.methodLink "LeaseLand" (1 : Nat) ({ cls := "java/lang/Object", name := "<init>", desc := "()V" } : Jvm.MethodName)) ∈ mj_tbl := mj_w 81 (by decide +kernel) (by decide +kernel)
theorem tw31 : (Jvm.Cond.classLink "LeaseLand" (7 : Nat) "LeaseLand$Land") ∈ mj_tbl := mj_w 84 (by decide +kernel) (by decide +kernel)
theorem tw32 : (Jvm.Cond.instantiable "LeaseLand$Land" (6 : Nat)) ∈ mj_tbl := mj_w 85 (by decide +kernel) (by decide +kernel)
theorem tw33 : (Jvm.Cond.methodLink "LeaseLand" (9 : Nat) ({ cls := "LeaseLand$Land", name := "<init>", desc := "()V" } : Jvm.MethodName)) ∈ mj_tbl := mj_w 86 (by decide +kernel) (by decide +kernel)
theorem tw4 : (Jvm.Cond.initialized "LeaseLand$Acts") ∈ mj_tbl := mj_w 57 (by decide +kernel) (by decide +kernel)
theorem tw64 : (Jvm.Cond.classLink "LeaseLand" (16 : Nat) "LeaseLand$Acts") ∈ mj_tbl := mj_w 117 (by decide +kernel) (by decide +kernel)
theorem tw65 : (Jvm.Cond.instantiable "LeaseLand$Acts" (5 : Nat)) ∈ mj_tbl := mj_w 118 (by decide +kernel) (by decide +kernel)
theorem tw7 : (Jvm.Cond.initialized "LeaseLand$Notices") ∈ mj_tbl := mj_w 60 (by decide +kernel) (by decide +kernel)
theorem tw201 : (Jvm.Cond.code ({ cls := "LeaseLand$Sales", name := "<init>", desc := "()V" } : Jvm.MethodName) prog_12_method_1_code (1 : Nat) (Option.none : Option Jvm.ClassFile.FieldType)) ∈ mj_tbl := mj_w 254 (by decide +kernel) (by decide +kernel)
theorem tw200 : (Jvm.Cond.instanceMethod ({ cls := "LeaseLand$Sales", name := "<init>", desc := "()V" } : Jvm.MethodName)) ∈ mj_tbl := mj_w 253 (by decide +kernel) (by decide +kernel)
theorem ty_X10_init : mj_YI yX10_init cX10_init 1 0 := ⟨⟨tw201, tw9, by decide +kernel, by decide +kernel, by decide +kernel⟩, tw200, rfl⟩
theorem tw68 : (Jvm.Cond.code ({ cls := "LeaseLand$Acts", name := "<init>", desc := "()V" } : Jvm.MethodName) prog_3_method_1_code (1 : Nat) (Option.none : Option Jvm.ClassFile.FieldType)) ∈ mj_tbl := mj_w 121 (by decide +kernel) (by decide +kernel)
theorem tw67 : (Jvm.Cond.instanceMethod ({ cls := "LeaseLand$Acts", name := "<init>", desc := "()V" } : Jvm.MethodName)) ∈ mj_tbl := mj_w 120 (by decide +kernel) (by decide +kernel)
theorem ty_X1_init : mj_YI yX1_init cX1_init 1 0 := ⟨⟨tw68, tw4, by decide +kernel, by decide +kernel, by decide +kernel⟩, tw67, rfl⟩
theorem tw35 : (Jvm.Cond.code ({ cls := "LeaseLand$Land", name := "<init>", desc := "()V" } : Jvm.MethodName) prog_6_method_1_code (1 : Nat) (Option.none : Option Jvm.ClassFile.FieldType)) ∈ mj_tbl := mj_w 88 (by decide +kernel) (by decide +kernel)
theorem tw34 : (Jvm.Cond.instanceMethod ({ cls := "LeaseLand$Land", name := "<init>", desc := "()V" } : Jvm.MethodName)) ∈ mj_tbl := mj_w 87 (by decide +kernel) (by decide +kernel)
theorem ty_X4_init : mj_YI yX4_init cX4_init 1 0 := ⟨⟨tw35, tw2, by decide +kernel, by decide +kernel, by decide +kernel⟩, tw34, rfl⟩
theorem tw157 : (Jvm.Cond.code ({ cls := "LeaseLand$Market", name := "<init>", desc := "()V" } : Jvm.MethodName) prog_7_method_1_code (1 : Nat) (Option.none : Option Jvm.ClassFile.FieldType)) ∈ mj_tbl := mj_w 210 (by decide +kernel) (by decide +kernel)
theorem tw156 : (Jvm.Cond.instanceMethod ({ cls := "LeaseLand$Market", name := "<init>", desc := "()V" } : Jvm.MethodName)) ∈ mj_tbl := mj_w 209 (by decide +kernel) (by decide +kernel)
theorem ty_X5_init : mj_YI yX5_init cX5_init 1 0 := ⟨⟨tw157, tw8, by decide +kernel, by decide +kernel, by decide +kernel⟩, tw156, rfl⟩
theorem tw140 : (Jvm.Cond.code ({ cls := "LeaseLand$Notices", name := "<init>", desc := "()V" } : Jvm.MethodName) prog_9_method_1_code (1 : Nat) (Option.none : Option Jvm.ClassFile.FieldType)) ∈ mj_tbl := mj_w 193 (by decide +kernel) (by decide +kernel)
theorem tw139 : (Jvm.Cond.instanceMethod ({ cls := "LeaseLand$Notices", name := "<init>", desc := "()V" } : Jvm.MethodName)) ∈ mj_tbl := mj_w 192 (by decide +kernel) (by decide +kernel)
theorem ty_X7_init : mj_YI yX7_init cX7_init 1 0 := ⟨⟨tw140, tw7, by decide +kernel, by decide +kernel, by decide +kernel⟩, tw139, rfl⟩
theorem tw108 : (Jvm.Cond.code ({ cls := "LeaseLand$Reading", name := "<init>", desc := "()V" } : Jvm.MethodName) prog_10_method_1_code (1 : Nat) (Option.none : Option Jvm.ClassFile.FieldType)) ∈ mj_tbl := mj_w 161 (by decide +kernel) (by decide +kernel)
theorem tw107 : (Jvm.Cond.instanceMethod ({ cls := "LeaseLand$Reading", name := "<init>", desc := "()V" } : Jvm.MethodName)) ∈ mj_tbl := mj_w 160 (by decide +kernel) (by decide +kernel)
theorem ty_X8_init : mj_YI yX8_init cX8_init 1 0 := ⟨⟨tw108, tw6, by decide +kernel, by decide +kernel, by decide +kernel⟩, tw107, rfl⟩
theorem tw233 : (Jvm.Cond.code ({ cls := "LeaseLand$Register", name := "<init>", desc := "()V" } : Jvm.MethodName) prog_11_method_1_code (1 : Nat) (Option.none : Option Jvm.ClassFile.FieldType)) ∈ mj_tbl := mj_w 286 (by decide +kernel) (by decide +kernel)
theorem tw232 : (Jvm.Cond.instanceMethod ({ cls := "LeaseLand$Register", name := "<init>", desc := "()V" } : Jvm.MethodName)) ∈ mj_tbl := mj_w 285 (by decide +kernel) (by decide +kernel)
theorem ty_X9_init : mj_YI yX9_init cX9_init 1 0 := ⟨⟨tw233, tw10, by decide +kernel, by decide +kernel, by decide +kernel⟩, tw232, rfl⟩
def rm_X11_init : Room := { frames := 3, cells := 23, slots := 275, locals := 60 }
theorem dX11_init_0 : decode cX11_init 0 = .ok (.aload_n 0, 1) := by decide +kernel
theorem dX11_init_1 : decode cX11_init 1 = .ok (.invokespecial 1, 3) := by decide +kernel
theorem dX11_init_4 : decode cX11_init 4 = .ok (.aload_n 0, 1) := by decide +kernel
theorem dX11_init_5 : decode cX11_init 5 = .ok (.new 7, 3) := by decide +kernel
theorem dX11_init_8 : decode cX11_init 8 = .ok (.dup, 1) := by decide +kernel
theorem dX11_init_9 : decode cX11_init 9 = .ok (.invokespecial 9, 3) := by decide +kernel
theorem dX11_init_12 : decode cX11_init 12 = .ok (.putfield 10, 3) := by decide +kernel
theorem dX11_init_15 : decode cX11_init 15 = .ok (.aload_n 0, 1) := by decide +kernel
theorem dX11_init_16 : decode cX11_init 16 = .ok (.new 16, 3) := by decide +kernel
theorem dX11_init_19 : decode cX11_init 19 = .ok (.dup, 1) := by decide +kernel
theorem dX11_init_20 : decode cX11_init 20 = .ok (.invokespecial 18, 3) := by decide +kernel
theorem dX11_init_23 : decode cX11_init 23 = .ok (.putfield 19, 3) := by decide +kernel
theorem dX11_init_26 : decode cX11_init 26 = .ok (.aload_n 0, 1) := by decide +kernel
theorem dX11_init_27 : decode cX11_init 27 = .ok (.new 23, 3) := by decide +kernel
theorem dX11_init_30 : decode cX11_init 30 = .ok (.dup, 1) := by decide +kernel
theorem dX11_init_31 : decode cX11_init 31 = .ok (.invokespecial 25, 3) := by decide +kernel
theorem dX11_init_34 : decode cX11_init 34 = .ok (.putfield 26, 3) := by decide +kernel
theorem dX11_init_37 : decode cX11_init 37 = .ok (.aload_n 0, 1) := by decide +kernel
theorem dX11_init_38 : decode cX11_init 38 = .ok (.new 30, 3) := by decide +kernel
theorem dX11_init_41 : decode cX11_init 41 = .ok (.dup, 1) := by decide +kernel
theorem dX11_init_42 : decode cX11_init 42 = .ok (.invokespecial 32, 3) := by decide +kernel
theorem dX11_init_45 : decode cX11_init 45 = .ok (.putfield 33, 3) := by decide +kernel
theorem dX11_init_48 : decode cX11_init 48 = .ok (.aload_n 0, 1) := by decide +kernel
theorem dX11_init_49 : decode cX11_init 49 = .ok (.new 37, 3) := by decide +kernel
theorem dX11_init_52 : decode cX11_init 52 = .ok (.dup, 1) := by decide +kernel
theorem dX11_init_53 : decode cX11_init 53 = .ok (.invokespecial 39, 3) := by decide +kernel
theorem dX11_init_56 : decode cX11_init 56 = .ok (.putfield 40, 3) := by decide +kernel
theorem dX11_init_59 : decode cX11_init 59 = .ok (.aload_n 0, 1) := by decide +kernel
theorem dX11_init_60 : decode cX11_init 60 = .ok (.new 44, 3) := by decide +kernel
theorem dX11_init_63 : decode cX11_init 63 = .ok (.dup, 1) := by decide +kernel
theorem dX11_init_64 : decode cX11_init 64 = .ok (.invokespecial 46, 3) := by decide +kernel
theorem dX11_init_67 : decode cX11_init 67 = .ok (.putfield 47, 3) := by decide +kernel
theorem dX11_init_70 : decode cX11_init 70 = .ok (.aload_n 0, 1) := by decide +kernel
theorem dX11_init_71 : decode cX11_init 71 = .ok (.new 51, 3) := by decide +kernel
theorem dX11_init_74 : decode cX11_init 74 = .ok (.dup, 1) := by decide +kernel
theorem dX11_init_75 : decode cX11_init 75 = .ok (.invokespecial 53, 3) := by decide +kernel
theorem dX11_init_78 : decode cX11_init 78 = .ok (.putfield 54, 3) := by decide +kernel
theorem dX11_init_81 : decode cX11_init 81 = .ok (.aload_n 0, 1) := by decide +kernel
theorem dX11_init_82 : decode cX11_init 82 = .ok (.bipush 10, 2) := by decide +kernel
theorem dX11_init_84 : decode cX11_init 84 = .ok (.newarray .int, 2) := by decide +kernel
theorem dX11_init_86 : decode cX11_init 86 = .ok (.putfield 58, 3) := by decide +kernel
theorem dX11_init_89 : decode cX11_init 89 = .ok (.return_, 1) := by decide +kernel
def vc_X11_init (l0 : Nat) (M : mj_M) (post : Unit → mj_M → Prop) : Prop := (¬ l0 = 0) ∧ ∀ M2 : mj_M, M2 = mj_new M 4 → (¬ (mj_nx M) = 0) ∧ vc_X4_init (mj_nx M) M2 (fun _ M5 => mj_tag M5 l0 = 12 ∧ ∀ M7 : mj_M, M7 = mj_new (mj_wr M5 l0 0 (mj_nx M)) 1 → (¬ (mj_nx M5) = 0) ∧ vc_X1_init (mj_nx M5) M7 (fun _ M10 => mj_tag M10 l0 = 12 ∧ ∀ M12 : mj_M, M12 = mj_new (mj_wr M10 l0 1 (mj_nx M5)) 8 → (¬ (mj_nx M10) = 0) ∧ vc_X8_init (mj_nx M10) M12 (fun _ M15 => mj_tag M15 l0 = 12 ∧ ∀ M17 : mj_M, M17 = mj_new (mj_wr M15 l0 2 (mj_nx M10)) 7 → (¬ (mj_nx M15) = 0) ∧ vc_X7_init (mj_nx M15) M17 (fun _ M20 => mj_tag M20 l0 = 12 ∧ ∀ M22 : mj_M, M22 = mj_new (mj_wr M20 l0 3 (mj_nx M15)) 5 → (¬ (mj_nx M20) = 0) ∧ vc_X5_init (mj_nx M20) M22 (fun _ M25 => mj_tag M25 l0 = 12 ∧ ∀ M27 : mj_M, M27 = mj_new (mj_wr M25 l0 4 (mj_nx M20)) 10 → (¬ (mj_nx M25) = 0) ∧ vc_X10_init (mj_nx M25) M27 (fun _ M30 => mj_tag M30 l0 = 12 ∧ ∀ M32 : mj_M, M32 = mj_new (mj_wr M30 l0 5 (mj_nx M25)) 9 → (¬ (mj_nx M30) = 0) ∧ vc_X9_init (mj_nx M30) M32 (fun _ M35 => mj_tag M35 l0 = 12 ∧ ∀ M37 : mj_M, M37 = mj_newa (mj_wr M35 l0 6 (mj_nx M30)) 101 10 → mj_tag M37 l0 = 12 ∧ post () (mj_wr M37 l0 7 (mj_nx M35)))))))))
set_option maxHeartbeats 4000000 in
set_option maxRecDepth 100000 in
theorem ct_X11_init {l : Launch} {base : Nat} {D : va_G} {A : ClassId × ClassId × ClassId} (l0 : Nat) (M : mj_M) (post : Unit → mj_M → Prop) (h : vc_X11_init l0 M post) : mj_Met l base D A mj_jV yX11_init cX11_init 1 (none) rm_X11_init 23 275 [vR l0] M post := by
  refine mj_entry (by decide +kernel) (Nat.le_of_ble_eq_true rfl) (fun g hC hE h1 h2 h3 h4 => ?_)
  show mj_X g 0 [(0, vR l0)] [] M 0 0
  simp only [vc_X11_init] at h
  refine mx_aload_n (j := 0) hC dX11_init_0 rfl rfl ?_
  obtain ⟨hn1, h⟩ := h
  refine mx_oinit hC tw28 tw_oi tw_oc hn1 (Nat.le_of_ble_eq_true rfl) ⟨by decide, by decide⟩ dX11_init_1 ?_
  refine mx_aload_n (j := 0) hC dX11_init_4 rfl rfl ?_
  refine mx_new (k' := 1) (n' := 6) hC tk4 tw31 tw32 tw2 ⟨rfl, rfl, by decide, by decide⟩ dX11_init_5 ?_
  obtain ⟨M2, eM2⟩ : ∃ z : mj_M, z = mj_new M 4 := ⟨_, rfl⟩
  replace h := h M2 eM2
  have ht3 : mj_tag M2 (mj_nx M) = 5 := by rw [eM2]; exact mj_u1_at _
  refine mx_setM eM2.symm ?_
  refine mx_dup hC dX11_init_8 rfl ?_
  obtain ⟨hn4, h⟩ := h
  refine mx_callI (As := []) (st := [vR (mj_nx M), vR l0]) hC (ct_X4_init (mj_nx M) M2 _ h) ty_X4_init tw33 hn4 rfl (Nat.le_of_ble_eq_true rfl) ⟨rfl, rfl, ⟨by decide, by decide⟩, by decide, by decide⟩ dX11_init_9 (fun _ M5 h => ?_)
  show mj_X g 12 [(0, vR l0)] [vR (mj_nx M), vR l0] M5 3 28
  obtain ⟨ht6, h⟩ := h
  refine mx_put (v := vR (mj_nx M)) (M1 := mj_wr M5 l0 0 (mj_nx M)) hC tf_X11_10 ht6 (Or.inr ⟨rfl, rfl⟩) (mj_fitR (mj_nx M) _) (mj_off_wr _ _ _ _) mj_put_wr dX11_init_12 ?_
  refine mx_aload_n (j := 0) hC dX11_init_15 rfl rfl ?_
  refine mx_new (k' := 4) (n' := 33) hC tk1 tw64 tw65 tw4 ⟨rfl, rfl, by decide, by decide⟩ dX11_init_16 ?_
  obtain ⟨M7, eM7⟩ : ∃ z : mj_M, z = mj_new (mj_wr M5 l0 0 (mj_nx M)) 1 := ⟨_, rfl⟩
  replace h := h M7 eM7
  have ht8 : mj_tag M7 (mj_nx M5) = 2 := by rw [eM7]; exact mj_u1_at _
  refine mx_setM eM7.symm ?_
  refine mx_dup hC dX11_init_19 rfl ?_
  obtain ⟨hn9, h⟩ := h
  refine mx_callIN (As := []) (st := [vR (mj_nx M5), vR l0]) hC (ct_X1_init (mj_nx M5) M7 _ h) ty_X1_init tn66 hn9 rfl (Nat.le_of_ble_eq_true rfl) ⟨rfl, rfl, ⟨by decide, by decide⟩, by decide, by decide⟩ dX11_init_20 (fun _ M10 h => ?_)
  show mj_X g 23 [(0, vR l0)] [vR (mj_nx M5), vR l0] M10 6 84
  obtain ⟨ht11, h⟩ := h
  refine mx_put (v := vR (mj_nx M5)) (M1 := mj_wr M10 l0 1 (mj_nx M5)) hC tf_X11_19 ht11 (Or.inr ⟨rfl, rfl⟩) (mj_fitR (mj_nx M5) _) (mj_off_wr _ _ _ _) mj_put_wr dX11_init_23 ?_
  refine mx_aload_n (j := 0) hC dX11_init_26 rfl rfl ?_
  refine mx_new (k' := 7) (n' := 92) hC tk8 tw104 tw105 tw6 ⟨rfl, rfl, by decide, by decide⟩ dX11_init_27 ?_
  obtain ⟨M12, eM12⟩ : ∃ z : mj_M, z = mj_new (mj_wr M10 l0 1 (mj_nx M5)) 8 := ⟨_, rfl⟩
  replace h := h M12 eM12
  have ht13 : mj_tag M12 (mj_nx M10) = 9 := by rw [eM12]; exact mj_u1_at _
  refine mx_setM eM12.symm ?_
  refine mx_dup hC dX11_init_30 rfl ?_
  obtain ⟨hn14, h⟩ := h
  refine mx_callIN (As := []) (st := [vR (mj_nx M10), vR l0]) hC (ct_X8_init (mj_nx M10) M12 _ h) ty_X8_init tn106 hn14 rfl (Nat.le_of_ble_eq_true rfl) ⟨rfl, rfl, ⟨by decide, by decide⟩, by decide, by decide⟩ dX11_init_31 (fun _ M15 h => ?_)
  show mj_X g 34 [(0, vR l0)] [vR (mj_nx M10), vR l0] M15 7 92
  obtain ⟨ht16, h⟩ := h
  refine mx_put (v := vR (mj_nx M10)) (M1 := mj_wr M15 l0 2 (mj_nx M10)) hC tf_X11_26 ht16 (Or.inr ⟨rfl, rfl⟩) (mj_fitR (mj_nx M10) _) (mj_off_wr _ _ _ _) mj_put_wr dX11_init_34 ?_
  refine mx_aload_n (j := 0) hC dX11_init_37 rfl rfl ?_
  refine mx_new (k' := 8) (n' := 95) hC tk7 tw136 tw137 tw7 ⟨rfl, rfl, by decide, by decide⟩ dX11_init_38 ?_
  obtain ⟨M17, eM17⟩ : ∃ z : mj_M, z = mj_new (mj_wr M15 l0 2 (mj_nx M10)) 7 := ⟨_, rfl⟩
  replace h := h M17 eM17
  have ht18 : mj_tag M17 (mj_nx M15) = 8 := by rw [eM17]; exact mj_u1_at _
  refine mx_setM eM17.symm ?_
  refine mx_dup hC dX11_init_41 rfl ?_
  obtain ⟨hn19, h⟩ := h
  refine mx_callIN (As := []) (st := [vR (mj_nx M15), vR l0]) hC (ct_X7_init (mj_nx M15) M17 _ h) ty_X7_init tn138 hn19 rfl (Nat.le_of_ble_eq_true rfl) ⟨rfl, rfl, ⟨by decide, by decide⟩, by decide, by decide⟩ dX11_init_42 (fun _ M20 h => ?_)
  show mj_X g 45 [(0, vR l0)] [vR (mj_nx M15), vR l0] M20 8 95
  obtain ⟨ht21, h⟩ := h
  refine mx_put (v := vR (mj_nx M15)) (M1 := mj_wr M20 l0 3 (mj_nx M15)) hC tf_X11_33 ht21 (Or.inr ⟨rfl, rfl⟩) (mj_fitR (mj_nx M15) _) (mj_off_wr _ _ _ _) mj_put_wr dX11_init_45 ?_
  refine mx_aload_n (j := 0) hC dX11_init_48 rfl rfl ?_
  refine mx_new (k' := 9) (n' := 105) hC tk5 tw153 tw154 tw8 ⟨rfl, rfl, by decide, by decide⟩ dX11_init_49 ?_
  obtain ⟨M22, eM22⟩ : ∃ z : mj_M, z = mj_new (mj_wr M20 l0 3 (mj_nx M15)) 5 := ⟨_, rfl⟩
  replace h := h M22 eM22
  have ht23 : mj_tag M22 (mj_nx M20) = 6 := by rw [eM22]; exact mj_u1_at _
  refine mx_setM eM22.symm ?_
  refine mx_dup hC dX11_init_52 rfl ?_
  obtain ⟨hn24, h⟩ := h
  refine mx_callIN (As := []) (st := [vR (mj_nx M20), vR l0]) hC (ct_X5_init (mj_nx M20) M22 _ h) ty_X5_init tn155 hn24 rfl (Nat.le_of_ble_eq_true rfl) ⟨rfl, rfl, ⟨by decide, by decide⟩, by decide, by decide⟩ dX11_init_53 (fun _ M25 h => ?_)
  show mj_X g 56 [(0, vR l0)] [vR (mj_nx M20), vR l0] M25 12 137
  obtain ⟨ht26, h⟩ := h
  refine mx_put (v := vR (mj_nx M20)) (M1 := mj_wr M25 l0 4 (mj_nx M20)) hC tf_X11_40 ht26 (Or.inr ⟨rfl, rfl⟩) (mj_fitR (mj_nx M20) _) (mj_off_wr _ _ _ _) mj_put_wr dX11_init_56 ?_
  refine mx_aload_n (j := 0) hC dX11_init_59 rfl rfl ?_
  refine mx_new (k' := 13) (n' := 145) hC tk10 tw197 tw198 tw9 ⟨rfl, rfl, by decide, by decide⟩ dX11_init_60 ?_
  obtain ⟨M27, eM27⟩ : ∃ z : mj_M, z = mj_new (mj_wr M25 l0 4 (mj_nx M20)) 10 := ⟨_, rfl⟩
  replace h := h M27 eM27
  have ht28 : mj_tag M27 (mj_nx M25) = 11 := by rw [eM27]; exact mj_u1_at _
  refine mx_setM eM27.symm ?_
  refine mx_dup hC dX11_init_63 rfl ?_
  obtain ⟨hn29, h⟩ := h
  refine mx_callIN (As := []) (st := [vR (mj_nx M25), vR l0]) hC (ct_X10_init (mj_nx M25) M27 _ h) ty_X10_init tn199 hn29 rfl (Nat.le_of_ble_eq_true rfl) ⟨rfl, rfl, ⟨by decide, by decide⟩, by decide, by decide⟩ dX11_init_64 (fun _ M30 h => ?_)
  show mj_X g 67 [(0, vR l0)] [vR (mj_nx M25), vR l0] M30 15 185
  obtain ⟨ht31, h⟩ := h
  refine mx_put (v := vR (mj_nx M25)) (M1 := mj_wr M30 l0 5 (mj_nx M25)) hC tf_X11_47 ht31 (Or.inr ⟨rfl, rfl⟩) (mj_fitR (mj_nx M25) _) (mj_off_wr _ _ _ _) mj_put_wr dX11_init_67 ?_
  refine mx_aload_n (j := 0) hC dX11_init_70 rfl rfl ?_
  refine mx_new (k' := 16) (n' := 193) hC tk9 tw229 tw230 tw10 ⟨rfl, rfl, by decide, by decide⟩ dX11_init_71 ?_
  obtain ⟨M32, eM32⟩ : ∃ z : mj_M, z = mj_new (mj_wr M30 l0 5 (mj_nx M25)) 9 := ⟨_, rfl⟩
  replace h := h M32 eM32
  have ht33 : mj_tag M32 (mj_nx M30) = 10 := by rw [eM32]; exact mj_u1_at _
  refine mx_setM eM32.symm ?_
  refine mx_dup hC dX11_init_74 rfl ?_
  obtain ⟨hn34, h⟩ := h
  refine mx_callIN (As := []) (st := [vR (mj_nx M30), vR l0]) hC (ct_X9_init (mj_nx M30) M32 _ h) ty_X9_init tn231 hn34 rfl (Nat.le_of_ble_eq_true rfl) ⟨rfl, rfl, ⟨by decide, by decide⟩, by decide, by decide⟩ dX11_init_75 (fun _ M35 h => ?_)
  show mj_X g 78 [(0, vR l0)] [vR (mj_nx M30), vR l0] M35 22 265
  obtain ⟨ht36, h⟩ := h
  refine mx_put (v := vR (mj_nx M30)) (M1 := mj_wr M35 l0 6 (mj_nx M30)) hC tf_X11_54 ht36 (Or.inr ⟨rfl, rfl⟩) (mj_fitR (mj_nx M30) _) (mj_off_wr _ _ _ _) mj_put_wr dX11_init_78 ?_
  refine mx_aload_n (j := 0) hC dX11_init_81 rfl rfl ?_
  refine mx_bipush (v := 10) hC dX11_init_82 (by decide) ?_
  refine mx_newi (N := 10) (k' := 23) (n' := 275) hC tw63 (by decide) (by decide) (by decide) ⟨rfl, by decide, by decide, by decide⟩ dX11_init_84 ?_
  obtain ⟨M37, eM37⟩ : ∃ z : mj_M, z = mj_newa (mj_wr M35 l0 6 (mj_nx M30)) 101 10 := ⟨_, rfl⟩
  replace h := h M37 eM37
  have ht38 : mj_tag M37 (mj_nx M35) = 101 := by rw [eM37]; exact mj_u1_at _
  refine mx_setM eM37.symm ?_
  obtain ⟨ht39, h⟩ := h
  refine mx_put (v := vR (mj_nx M35)) (M1 := mj_wr M37 l0 7 (mj_nx M35)) hC tf_X11_58 ht39 (Or.inr ⟨rfl, rfl⟩) (mj_fitA (mj_nx M35) _) (mj_off_wr _ _ _ _) mj_put_wa dX11_init_86 ?_
  exact mx_vret hC hE rfl dX11_init_89 h
theorem tw293 : (Jvm.Cond.constant "LeaseLand" (85 : Nat) (73000 : Int32)) ∈ mj_tbl := mj_w 346 (by decide +kernel) (by decide +kernel)
def rm_X11_isDay : Room := { frames := 0, cells := 0, slots := 0, locals := 0 }
theorem dX11_isDay_0 : decode cX11_isDay 0 = .ok (.iload_n 0, 1) := by decide +kernel
theorem dX11_isDay_1 : decode cX11_isDay 1 = .ok (.ifCond .lt 13, 3) := by decide +kernel
theorem dX11_isDay_4 : decode cX11_isDay 4 = .ok (.iload_n 0, 1) := by decide +kernel
theorem dX11_isDay_5 : decode cX11_isDay 5 = .ok (.ldc 85, 2) := by decide +kernel
theorem dX11_isDay_7 : decode cX11_isDay 7 = .ok (.if_icmp .gt 7, 3) := by decide +kernel
theorem dX11_isDay_10 : decode cX11_isDay 10 = .ok (.iconst 1, 1) := by decide +kernel
theorem dX11_isDay_11 : decode cX11_isDay 11 = .ok (.goto 4, 3) := by decide +kernel
theorem dX11_isDay_14 : decode cX11_isDay 14 = .ok (.iconst 0, 1) := by decide +kernel
theorem dX11_isDay_15 : decode cX11_isDay 15 = .ok (.ireturn, 1) := by decide +kernel
def vc_X11_isDay (l0 : Int32) (M : mj_M) (post : Bool → mj_M → Prop) : Prop := if l0 < 0 then (post false M) else (if 73000 < l0 then (post false M) else (post true M))
set_option maxHeartbeats 4000000 in
set_option maxRecDepth 100000 in
theorem ct_X11_isDay {l : Launch} {base : Nat} {D : va_G} {A : ClassId × ClassId × ClassId} (l0 : Int32) (M : mj_M) (post : Bool → mj_M → Prop) (h : vc_X11_isDay l0 M post) : mj_Met l base D A mj_jB yX11_isDay cX11_isDay 1 (some .boolean) rm_X11_isDay 0 0 [vI l0] M post := by
  refine mj_entry (by decide +kernel) (Nat.le_of_ble_eq_true rfl) (fun g hC hE h1 h2 h3 h4 => ?_)
  show mj_X g 0 [(0, vI l0)] [] M 0 0
  simp only [vc_X11_isDay] at h
  refine mx_iload_n (j := 0) hC dX11_isDay_0 rfl rfl ?_
  refine mx_iflt (tgt := 14) hC dX11_isDay_1 (by decide) (fun hc1 => ?_) (fun hc1 => ?_)
  · replace h := mj_yy hc1 h
    refine mx_iconst (v := 0) hC dX11_isDay_14 (by decide) ?_
    exact mx_zret (b := false) hC hE rfl dX11_isDay_15 h
  · replace h := mj_nn hc1 h
    refine mx_iload_n (j := 0) hC dX11_isDay_4 rfl rfl ?_
    refine mx_ldc (v := 73000) hC dX11_isDay_5 tw293 ?_
    refine mx_icmpgt (tgt := 14) hC dX11_isDay_7 (by decide) (fun hc2 => ?_) (fun hc2 => ?_)
    · replace h := mj_yy hc2 h
      refine mx_iconst (v := 0) hC dX11_isDay_14 (by decide) ?_
      exact mx_zret (b := false) hC hE rfl dX11_isDay_15 h
    · replace h := mj_nn hc2 h
      refine mx_iconst (v := 1) hC dX11_isDay_10 (by decide) ?_
      refine mx_goto (tgt := 15) hC dX11_isDay_11 (by decide) ?_
      exact mx_zret (b := true) hC hE rfl dX11_isDay_15 h
theorem tw40 : (Jvm.Cond.fieldLink "LeaseLand" (66 : Nat) "LeaseLand$Land" "today" "I") ∈ mj_tbl := mj_w 93 (by decide +kernel) (by decide +kernel)
theorem tf_X11_66 : mj_F 4 0 .int false "LeaseLand" 66 := ⟨_, tk4, by decide, rfl, rfl, rfl, tw40⟩
theorem tw290 : (Jvm.Cond.methodLink "LeaseLand" (62 : Nat) ({ cls := "LeaseLand", name := "isDay", desc := "(I)Z" } : Jvm.MethodName)) ∈ mj_tbl := mj_w 343 (by decide +kernel) (by decide +kernel)
theorem tw292 : (Jvm.Cond.code ({ cls := "LeaseLand", name := "isDay", desc := "(I)Z" } : Jvm.MethodName) prog_1_method_57_code (1 : Nat) (Option.some Jvm.ClassFile.FieldType.boolean)) ∈ mj_tbl := mj_w 345 (by decide +kernel) (by decide +kernel)
theorem tw291 : (Jvm.Cond.static ({ cls := "LeaseLand", name := "isDay", desc := "(I)Z" } : Jvm.MethodName)) ∈ mj_tbl := mj_w 344 (by decide +kernel) (by decide +kernel)
theorem ty_X11_isDay : mj_YS yX11_isDay cX11_isDay 1 (some .boolean) 1 := ⟨⟨tw292, tw1, by decide +kernel, by decide +kernel, by decide +kernel⟩, tw291⟩
def rm_X11_today : Room := { frames := 1, cells := 0, slots := 0, locals := 20 }
theorem dX11_today_0 : decode cX11_today 0 = .ok (.iload_n 1, 1) := by decide +kernel
theorem dX11_today_1 : decode cX11_today 1 = .ok (.invokestatic 62, 3) := by decide +kernel
theorem dX11_today_4 : decode cX11_today 4 = .ok (.ifCond .eq 14, 3) := by decide +kernel
theorem dX11_today_7 : decode cX11_today 7 = .ok (.iload_n 1, 1) := by decide +kernel
theorem dX11_today_8 : decode cX11_today 8 = .ok (.aload_n 0, 1) := by decide +kernel
theorem dX11_today_9 : decode cX11_today 9 = .ok (.getfield 10, 3) := by decide +kernel
theorem dX11_today_12 : decode cX11_today 12 = .ok (.getfield 66, 3) := by decide +kernel
theorem dX11_today_15 : decode cX11_today 15 = .ok (.if_icmp .ge 6, 3) := by decide +kernel
theorem dX11_today_18 : decode cX11_today 18 = .ok (.bipush (-2), 2) := by decide +kernel
theorem dX11_today_20 : decode cX11_today 20 = .ok (.ireturn, 1) := by decide +kernel
theorem dX11_today_21 : decode cX11_today 21 = .ok (.aload_n 0, 1) := by decide +kernel
theorem dX11_today_22 : decode cX11_today 22 = .ok (.getfield 10, 3) := by decide +kernel
theorem dX11_today_25 : decode cX11_today 25 = .ok (.getfield 66, 3) := by decide +kernel
theorem dX11_today_28 : decode cX11_today 28 = .ok (.istore_n 2, 1) := by decide +kernel
theorem dX11_today_29 : decode cX11_today 29 = .ok (.aload_n 0, 1) := by decide +kernel
theorem dX11_today_30 : decode cX11_today 30 = .ok (.getfield 10, 3) := by decide +kernel
theorem dX11_today_33 : decode cX11_today 33 = .ok (.iload_n 1, 1) := by decide +kernel
theorem dX11_today_34 : decode cX11_today 34 = .ok (.putfield 66, 3) := by decide +kernel
theorem dX11_today_37 : decode cX11_today 37 = .ok (.iload_n 2, 1) := by decide +kernel
theorem dX11_today_38 : decode cX11_today 38 = .ok (.ireturn, 1) := by decide +kernel
def vc_X11_today (l0 : Nat) (l1 : Int32) (M : mj_M) (post : Int32 → mj_M → Prop) : Prop := vc_X11_isDay l1 M (fun r1 M2 => if r1 = true then (mj_tag M2 l0 = 12 ∧ mj_tag M2 (mj_r M2 l0 0) = 5 ∧ if (mj_i M2 (mj_r M2 l0 0) 0) ≤ l1 then (post (mj_i M2 (mj_r M2 l0 0) 0) (mj_wi M2 (mj_r M2 l0 0) 0 l1)) else (post ((-2)) M2)) else (post ((-2)) M2))
set_option maxHeartbeats 4000000 in
set_option maxRecDepth 100000 in
theorem ct_X11_today {l : Launch} {base : Nat} {D : va_G} {A : ClassId × ClassId × ClassId} (l0 : Nat) (l1 : Int32) (M : mj_M) (post : Int32 → mj_M → Prop) (h : vc_X11_today l0 l1 M post) : mj_Met l base D A mj_jI yX11_today cX11_today 3 (some .int) rm_X11_today 0 0 [vR l0, vI l1] M post := by
  refine mj_entry (by decide +kernel) (Nat.le_of_ble_eq_true rfl) (fun g hC hE h1 h2 h3 h4 => ?_)
  show mj_X g 0 [(0, vR l0), (1, vI l1)] [] M 0 0
  simp only [vc_X11_today] at h
  refine mx_iload_n (j := 1) hC dX11_today_0 rfl rfl ?_
  refine mx_callS (inj := mj_jB) (As := [vI l1]) (st := []) hC (ct_X11_isDay l1 M _ h) ty_X11_isDay tw290 rfl (Nat.le_of_ble_eq_true rfl) ⟨rfl, rfl, ⟨by decide, by decide⟩, by decide, by decide⟩ dX11_today_1 (fun r1 M2 h => ?_)
  show mj_X g 4 [(0, vR l0), (1, vI l1)] [vI (mj_b r1)] M2 0 0
  refine mx_ifeqB (tgt := 18) hC dX11_today_4 (by decide) (fun hc3 => ?_) (fun hc3 => ?_)
  · replace h := mj_nn hc3 h
    refine mx_bipush (v := (-2)) hC dX11_today_18 (by decide) ?_
    exact mx_iret hC hE rfl dX11_today_20 h
  · replace h := mj_yy hc3 h
    refine mx_iload_n (j := 1) hC dX11_today_7 rfl rfl ?_
    refine mx_aload_n (j := 0) hC dX11_today_8 rfl rfl ?_
    obtain ⟨ht4, h⟩ := h
    refine mx_get (v := vR (mj_r M2 l0 0)) hC tf_X11_10 ht4 rfl dX11_today_9 ?_
    obtain ⟨ht5, h⟩ := h
    refine mx_get (v := vI (mj_i M2 (mj_r M2 l0 0) 0)) hC tf_X11_66 ht5 rfl dX11_today_12 ?_
    refine mx_icmpge (tgt := 21) hC dX11_today_15 (by decide) (fun hc6 => ?_) (fun hc6 => ?_)
    · replace h := mj_yy hc6 h
      refine mx_aload_n (j := 0) hC dX11_today_21 rfl rfl ?_
      refine mx_get (v := vR (mj_r M2 l0 0)) hC tf_X11_10 ht4 rfl dX11_today_22 ?_
      refine mx_get (v := vI (mj_i M2 (mj_r M2 l0 0) 0)) hC tf_X11_66 ht5 rfl dX11_today_25 ?_
      refine mx_istore_n (L' := [(2, vI (mj_i M2 (mj_r M2 l0 0) 0)), (0, vR l0), (1, vI l1)]) hC dX11_today_28 rfl (by decide) rfl ?_
      refine mx_aload_n (j := 1) hC dX11_today_29 rfl rfl ?_
      refine mx_get (v := vR (mj_r M2 l0 0)) hC tf_X11_10 ht4 rfl dX11_today_30 ?_
      refine mx_iload_n (j := 2) hC dX11_today_33 rfl rfl ?_
      refine mx_put (v := vI l1) (M1 := mj_wi M2 (mj_r M2 l0 0) 0 l1) hC tf_X11_66 ht5 (Or.inl rfl) ⟨rfl, rfl⟩ (mj_off_wi _ _ _ _) mj_put_wi dX11_today_34 ?_
      refine mx_iload_n (j := 0) hC dX11_today_37 rfl rfl ?_
      exact mx_iret hC hE rfl dX11_today_38 h
    · replace h := mj_nn hc6 h
      refine mx_bipush (v := (-2)) hC dX11_today_18 (by decide) ?_
      exact mx_iret hC hE rfl dX11_today_20 h
def rm_X11_isPerson : Room := { frames := 0, cells := 0, slots := 0, locals := 0 }
theorem dX11_isPerson_0 : decode cX11_isPerson 0 = .ok (.iload_n 0, 1) := by decide +kernel
theorem dX11_isPerson_1 : decode cX11_isPerson 1 = .ok (.ifCond .lt 13, 3) := by decide +kernel
theorem dX11_isPerson_4 : decode cX11_isPerson 4 = .ok (.iload_n 0, 1) := by decide +kernel
theorem dX11_isPerson_5 : decode cX11_isPerson 5 = .ok (.bipush 10, 2) := by decide +kernel
theorem dX11_isPerson_7 : decode cX11_isPerson 7 = .ok (.if_icmp .ge 7, 3) := by decide +kernel
theorem dX11_isPerson_10 : decode cX11_isPerson 10 = .ok (.iconst 1, 1) := by decide +kernel
theorem dX11_isPerson_11 : decode cX11_isPerson 11 = .ok (.goto 4, 3) := by decide +kernel
theorem dX11_isPerson_14 : decode cX11_isPerson 14 = .ok (.iconst 0, 1) := by decide +kernel
theorem dX11_isPerson_15 : decode cX11_isPerson 15 = .ok (.ireturn, 1) := by decide +kernel
def vc_X11_isPerson (l0 : Int32) (M : mj_M) (post : Bool → mj_M → Prop) : Prop := if l0 < 0 then (post false M) else (if 10 ≤ l0 then (post false M) else (post true M))
set_option maxHeartbeats 4000000 in
set_option maxRecDepth 100000 in
theorem ct_X11_isPerson {l : Launch} {base : Nat} {D : va_G} {A : ClassId × ClassId × ClassId} (l0 : Int32) (M : mj_M) (post : Bool → mj_M → Prop) (h : vc_X11_isPerson l0 M post) : mj_Met l base D A mj_jB yX11_isPerson cX11_isPerson 1 (some .boolean) rm_X11_isPerson 0 0 [vI l0] M post := by
  refine mj_entry (by decide +kernel) (Nat.le_of_ble_eq_true rfl) (fun g hC hE h1 h2 h3 h4 => ?_)
  show mj_X g 0 [(0, vI l0)] [] M 0 0
  simp only [vc_X11_isPerson] at h
  refine mx_iload_n (j := 0) hC dX11_isPerson_0 rfl rfl ?_
  refine mx_iflt (tgt := 14) hC dX11_isPerson_1 (by decide) (fun hc1 => ?_) (fun hc1 => ?_)
  · replace h := mj_yy hc1 h
    refine mx_iconst (v := 0) hC dX11_isPerson_14 (by decide) ?_
    exact mx_zret (b := false) hC hE rfl dX11_isPerson_15 h
  · replace h := mj_nn hc1 h
    refine mx_iload_n (j := 0) hC dX11_isPerson_4 rfl rfl ?_
    refine mx_bipush (v := 10) hC dX11_isPerson_5 (by decide) ?_
    refine mx_icmpge (tgt := 14) hC dX11_isPerson_7 (by decide) (fun hc2 => ?_) (fun hc2 => ?_)
    · replace h := mj_yy hc2 h
      refine mx_iconst (v := 0) hC dX11_isPerson_14 (by decide) ?_
      exact mx_zret (b := false) hC hE rfl dX11_isPerson_15 h
    · replace h := mj_nn hc2 h
      refine mx_iconst (v := 1) hC dX11_isPerson_10 (by decide) ?_
      refine mx_goto (tgt := 15) hC dX11_isPerson_11 (by decide) ?_
      exact mx_zret (b := true) hC hE rfl dX11_isPerson_15 h
def rm_X11_isFloors : Room := { frames := 0, cells := 0, slots := 0, locals := 0 }
theorem dX11_isFloors_0 : decode cX11_isFloors 0 = .ok (.iload_n 0, 1) := by decide +kernel
theorem dX11_isFloors_1 : decode cX11_isFloors 1 = .ok (.ifCond .le 14, 3) := by decide +kernel
theorem dX11_isFloors_4 : decode cX11_isFloors 4 = .ok (.iload_n 0, 1) := by decide +kernel
theorem dX11_isFloors_5 : decode cX11_isFloors 5 = .ok (.sipush 4096, 3) := by decide +kernel
theorem dX11_isFloors_8 : decode cX11_isFloors 8 = .ok (.if_icmp .ge 7, 3) := by decide +kernel
theorem dX11_isFloors_11 : decode cX11_isFloors 11 = .ok (.iconst 1, 1) := by decide +kernel
theorem dX11_isFloors_12 : decode cX11_isFloors 12 = .ok (.goto 4, 3) := by decide +kernel
theorem dX11_isFloors_15 : decode cX11_isFloors 15 = .ok (.iconst 0, 1) := by decide +kernel
theorem dX11_isFloors_16 : decode cX11_isFloors 16 = .ok (.ireturn, 1) := by decide +kernel
def vc_X11_isFloors (l0 : Int32) (M : mj_M) (post : Bool → mj_M → Prop) : Prop := if l0 ≤ 0 then (post false M) else (if 4096 ≤ l0 then (post false M) else (post true M))
set_option maxHeartbeats 4000000 in
set_option maxRecDepth 100000 in
theorem ct_X11_isFloors {l : Launch} {base : Nat} {D : va_G} {A : ClassId × ClassId × ClassId} (l0 : Int32) (M : mj_M) (post : Bool → mj_M → Prop) (h : vc_X11_isFloors l0 M post) : mj_Met l base D A mj_jB yX11_isFloors cX11_isFloors 1 (some .boolean) rm_X11_isFloors 0 0 [vI l0] M post := by
  refine mj_entry (by decide +kernel) (Nat.le_of_ble_eq_true rfl) (fun g hC hE h1 h2 h3 h4 => ?_)
  show mj_X g 0 [(0, vI l0)] [] M 0 0
  simp only [vc_X11_isFloors] at h
  refine mx_iload_n (j := 0) hC dX11_isFloors_0 rfl rfl ?_
  refine mx_ifle (tgt := 15) hC dX11_isFloors_1 (by decide) (fun hc1 => ?_) (fun hc1 => ?_)
  · replace h := mj_yy hc1 h
    refine mx_iconst (v := 0) hC dX11_isFloors_15 (by decide) ?_
    exact mx_zret (b := false) hC hE rfl dX11_isFloors_16 h
  · replace h := mj_nn hc1 h
    refine mx_iload_n (j := 0) hC dX11_isFloors_4 rfl rfl ?_
    refine mx_sipush (v := 4096) hC dX11_isFloors_5 (by decide) ?_
    refine mx_icmpge (tgt := 15) hC dX11_isFloors_8 (by decide) (fun hc2 => ?_) (fun hc2 => ?_)
    · replace h := mj_yy hc2 h
      refine mx_iconst (v := 0) hC dX11_isFloors_15 (by decide) ?_
      exact mx_zret (b := false) hC hE rfl dX11_isFloors_16 h
    · replace h := mj_nn hc2 h
      refine mx_iconst (v := 1) hC dX11_isFloors_11 (by decide) ?_
      refine mx_goto (tgt := 16) hC dX11_isFloors_12 (by decide) ?_
      exact mx_zret (b := true) hC hE rfl dX11_isFloors_16 h
theorem tw298 : (Jvm.Cond.methodLink "LeaseLand" (70 : Nat) ({ cls := "LeaseLand", name := "isPerson", desc := "(I)Z" } : Jvm.MethodName)) ∈ mj_tbl := mj_w 351 (by decide +kernel) (by decide +kernel)
theorem tw301 : (Jvm.Cond.methodLink "LeaseLand" (73 : Nat) ({ cls := "LeaseLand", name := "isFloors", desc := "(I)Z" } : Jvm.MethodName)) ∈ mj_tbl := mj_w 354 (by decide +kernel) (by decide +kernel)
theorem tw304 : (Jvm.Cond.methodLink "LeaseLand" (76 : Nat) ({ cls := "LeaseLand$Land", name := "isFull", desc := "()Z" } : Jvm.MethodName)) ∈ mj_tbl := mj_w 357 (by decide +kernel) (by decide +kernel)
theorem tw308 : (Jvm.Cond.methodLink "LeaseLand" (80 : Nat) ({ cls := "LeaseLand$Land", name := "isOwned", desc := "(I)Z" } : Jvm.MethodName)) ∈ mj_tbl := mj_w 361 (by decide +kernel) (by decide +kernel)
theorem tw312 : (Jvm.Cond.classLink "LeaseLand" (83 : Nat) "LeaseLand$Holding") ∈ mj_tbl := mj_w 365 (by decide +kernel) (by decide +kernel)
theorem tw314 : (Jvm.Cond.methodLink "LeaseLand" (86 : Nat) ({ cls := "LeaseLand$Holding", name := "<init>", desc := "(LLeaseLand$Holding;IIIII)V" } : Jvm.MethodName)) ∈ mj_tbl := mj_w 367 (by decide +kernel) (by decide +kernel)
theorem tw389 : (Jvm.Cond.methodLink "LeaseLand" (89 : Nat) ({ cls := "LeaseLand$Land", name := "add", desc := "(LLeaseLand$Holding;)I" } : Jvm.MethodName)) ∈ mj_tbl := mj_w 442 (by decide +kernel) (by decide +kernel)
theorem tw303 : (Jvm.Cond.code ({ cls := "LeaseLand", name := "isFloors", desc := "(I)Z" } : Jvm.MethodName) prog_1_method_61_code (1 : Nat) (Option.some Jvm.ClassFile.FieldType.boolean)) ∈ mj_tbl := mj_w 356 (by decide +kernel) (by decide +kernel)
theorem tw302 : (Jvm.Cond.static ({ cls := "LeaseLand", name := "isFloors", desc := "(I)Z" } : Jvm.MethodName)) ∈ mj_tbl := mj_w 355 (by decide +kernel) (by decide +kernel)
theorem ty_X11_isFloors : mj_YS yX11_isFloors cX11_isFloors 1 (some .boolean) 1 := ⟨⟨tw303, tw1, by decide +kernel, by decide +kernel, by decide +kernel⟩, tw302⟩
theorem tw300 : (Jvm.Cond.code ({ cls := "LeaseLand", name := "isPerson", desc := "(I)Z" } : Jvm.MethodName) prog_1_method_62_code (1 : Nat) (Option.some Jvm.ClassFile.FieldType.boolean)) ∈ mj_tbl := mj_w 353 (by decide +kernel) (by decide +kernel)
theorem tw299 : (Jvm.Cond.static ({ cls := "LeaseLand", name := "isPerson", desc := "(I)Z" } : Jvm.MethodName)) ∈ mj_tbl := mj_w 352 (by decide +kernel) (by decide +kernel)
theorem ty_X11_isPerson : mj_YS yX11_isPerson cX11_isPerson 1 (some .boolean) 1 := ⟨⟨tw300, tw1, by decide +kernel, by decide +kernel, by decide +kernel⟩, tw299⟩
theorem tw307 : (Jvm.Cond.code ({ cls := "LeaseLand$Land", name := "isFull", desc := "()Z" } : Jvm.MethodName) prog_6_method_2_code (1 : Nat) (Option.some Jvm.ClassFile.FieldType.boolean)) ∈ mj_tbl := mj_w 360 (by decide +kernel) (by decide +kernel)
theorem tw305 : (Jvm.Cond.instanceMethod ({ cls := "LeaseLand$Land", name := "isFull", desc := "()Z" } : Jvm.MethodName)) ∈ mj_tbl := mj_w 358 (by decide +kernel) (by decide +kernel)
theorem tw306 : (Jvm.Cond.selects "LeaseLand$Land" ({ cls := "LeaseLand$Land", name := "isFull", desc := "()Z" } : Jvm.MethodName) ({ cls := "LeaseLand$Land", name := "isFull", desc := "()Z" } : Jvm.MethodName)) ∈ mj_tbl := mj_w 359 (by decide +kernel) (by decide +kernel)
theorem ty_X4_isFull : mj_YV 4 yX4_isFull cX4_isFull 1 (some .boolean) 0 := ⟨⟨tw307, tw2, by decide +kernel, by decide +kernel, by decide +kernel⟩, tw305, tw306, _, rfl, rfl⟩
theorem tw311 : (Jvm.Cond.code ({ cls := "LeaseLand$Land", name := "isOwned", desc := "(I)Z" } : Jvm.MethodName) prog_6_method_8_code (3 : Nat) (Option.some Jvm.ClassFile.FieldType.boolean)) ∈ mj_tbl := mj_w 364 (by decide +kernel) (by decide +kernel)
theorem tw309 : (Jvm.Cond.instanceMethod ({ cls := "LeaseLand$Land", name := "isOwned", desc := "(I)Z" } : Jvm.MethodName)) ∈ mj_tbl := mj_w 362 (by decide +kernel) (by decide +kernel)
theorem tw310 : (Jvm.Cond.selects "LeaseLand$Land" ({ cls := "LeaseLand$Land", name := "isOwned", desc := "(I)Z" } : Jvm.MethodName) ({ cls := "LeaseLand$Land", name := "isOwned", desc := "(I)Z" } : Jvm.MethodName)) ∈ mj_tbl := mj_w 363 (by decide +kernel) (by decide +kernel)
theorem ty_X4_isOwned : mj_YV 4 yX4_isOwned cX4_isOwned 3 (some .boolean) 1 := ⟨⟨tw311, tw2, by decide +kernel, by decide +kernel, by decide +kernel⟩, tw309, tw310, _, rfl, rfl⟩
def rm_X11_whole : Room := { frames := 2, cells := 1, slots := 15, locals := 46 }
theorem dX11_whole_0 : decode cX11_whole 0 = .ok (.iload_n 2, 1) := by decide +kernel
theorem dX11_whole_1 : decode cX11_whole 1 = .ok (.invokestatic 70, 3) := by decide +kernel
theorem dX11_whole_4 : decode cX11_whole 4 = .ok (.ifCond .ne 5, 3) := by decide +kernel
theorem dX11_whole_7 : decode cX11_whole 7 = .ok (.iconst (-1), 1) := by decide +kernel
theorem dX11_whole_8 : decode cX11_whole 8 = .ok (.ireturn, 1) := by decide +kernel
theorem dX11_whole_9 : decode cX11_whole 9 = .ok (.iload_n 1, 1) := by decide +kernel
theorem dX11_whole_10 : decode cX11_whole 10 = .ok (.invokestatic 73, 3) := by decide +kernel
theorem dX11_whole_13 : decode cX11_whole 13 = .ok (.ifCond .ne 6, 3) := by decide +kernel
theorem dX11_whole_16 : decode cX11_whole 16 = .ok (.bipush (-2), 2) := by decide +kernel
theorem dX11_whole_18 : decode cX11_whole 18 = .ok (.ireturn, 1) := by decide +kernel
theorem dX11_whole_19 : decode cX11_whole 19 = .ok (.aload_n 0, 1) := by decide +kernel
theorem dX11_whole_20 : decode cX11_whole 20 = .ok (.getfield 10, 3) := by decide +kernel
theorem dX11_whole_23 : decode cX11_whole 23 = .ok (.invokevirtual 76, 3) := by decide +kernel
theorem dX11_whole_26 : decode cX11_whole 26 = .ok (.ifCond .eq 6, 3) := by decide +kernel
theorem dX11_whole_29 : decode cX11_whole 29 = .ok (.bipush (-4), 2) := by decide +kernel
theorem dX11_whole_31 : decode cX11_whole 31 = .ok (.ireturn, 1) := by decide +kernel
theorem dX11_whole_32 : decode cX11_whole 32 = .ok (.aload_n 0, 1) := by decide +kernel
theorem dX11_whole_33 : decode cX11_whole 33 = .ok (.getfield 10, 3) := by decide +kernel
theorem dX11_whole_36 : decode cX11_whole 36 = .ok (.iload_n 1, 1) := by decide +kernel
theorem dX11_whole_37 : decode cX11_whole 37 = .ok (.invokevirtual 80, 3) := by decide +kernel
theorem dX11_whole_40 : decode cX11_whole 40 = .ok (.ifCond .eq 6, 3) := by decide +kernel
theorem dX11_whole_43 : decode cX11_whole 43 = .ok (.bipush (-5), 2) := by decide +kernel
theorem dX11_whole_45 : decode cX11_whole 45 = .ok (.ireturn, 1) := by decide +kernel
theorem dX11_whole_46 : decode cX11_whole 46 = .ok (.aload_n 0, 1) := by decide +kernel
theorem dX11_whole_47 : decode cX11_whole 47 = .ok (.getfield 10, 3) := by decide +kernel
theorem dX11_whole_50 : decode cX11_whole 50 = .ok (.new 83, 3) := by decide +kernel
theorem dX11_whole_53 : decode cX11_whole 53 = .ok (.dup, 1) := by decide +kernel
theorem dX11_whole_54 : decode cX11_whole 54 = .ok (.aconst_null, 1) := by decide +kernel
theorem dX11_whole_55 : decode cX11_whole 55 = .ok (.iload_n 1, 1) := by decide +kernel
theorem dX11_whole_56 : decode cX11_whole 56 = .ok (.iconst 0, 1) := by decide +kernel
theorem dX11_whole_57 : decode cX11_whole 57 = .ok (.ldc 85, 2) := by decide +kernel
theorem dX11_whole_59 : decode cX11_whole 59 = .ok (.iload_n 2, 1) := by decide +kernel
theorem dX11_whole_60 : decode cX11_whole 60 = .ok (.aload_n 0, 1) := by decide +kernel
theorem dX11_whole_61 : decode cX11_whole 61 = .ok (.getfield 10, 3) := by decide +kernel
theorem dX11_whole_64 : decode cX11_whole 64 = .ok (.getfield 66, 3) := by decide +kernel
theorem dX11_whole_67 : decode cX11_whole 67 = .ok (.invokespecial 86, 3) := by decide +kernel
theorem dX11_whole_70 : decode cX11_whole 70 = .ok (.invokevirtual 89, 3) := by decide +kernel
theorem dX11_whole_73 : decode cX11_whole 73 = .ok (.ireturn, 1) := by decide +kernel
def vc_X11_whole (l0 : Nat) (l1 : Int32) (l2 : Int32) (M : mj_M) (post : Int32 → mj_M → Prop) : Prop := vc_X11_isPerson l2 M (fun r1 M2 => if r1 = true then (vc_X11_isFloors l1 M2 (fun r4 M5 => if r4 = true then (mj_tag M5 l0 = 12 ∧ mj_tag M5 (mj_r M5 l0 0) = 5 ∧ vc_X4_isFull (mj_r M5 l0 0) M5 (fun r9 M10 => if r9 = true then (post ((-4)) M10) else (mj_tag M10 l0 = 12 ∧ mj_tag M10 (mj_r M10 l0 0) = 5 ∧ vc_X4_isOwned (mj_r M10 l0 0) l1 M10 (fun r14 M15 => if r14 = true then (post ((-5)) M15) else (mj_tag M15 l0 = 12 ∧ ∀ M18 : mj_M, M18 = mj_new M15 3 → mj_tag M18 l0 = 12 ∧ mj_tag M18 (mj_r M18 l0 0) = 5 ∧ (¬ (mj_nx M15) = 0) ∧ vc_X3_init (mj_nx M15) 0 l1 0 73000 l2 (mj_i M18 (mj_r M18 l0 0) 0) M18 (fun _ M23 => mj_tag M23 (mj_r M15 l0 0) = 5 ∧ vc_X4_add (mj_r M15 l0 0) (mj_nx M15) M23 (fun r25 M26 => post r25 M26))))))) else (post ((-2)) M5))) else (post ((-1)) M2))
set_option maxHeartbeats 4000000 in
set_option maxRecDepth 100000 in
theorem ct_X11_whole {l : Launch} {base : Nat} {D : va_G} {A : ClassId × ClassId × ClassId} (l0 : Nat) (l1 : Int32) (l2 : Int32) (M : mj_M) (post : Int32 → mj_M → Prop) (h : vc_X11_whole l0 l1 l2 M post) : mj_Met l base D A mj_jI yX11_whole cX11_whole 3 (some .int) rm_X11_whole 1 15 [vR l0, vI l1, vI l2] M post := by
  refine mj_entry (by decide +kernel) (Nat.le_of_ble_eq_true rfl) (fun g hC hE h1 h2 h3 h4 => ?_)
  show mj_X g 0 [(0, vR l0), (1, vI l1), (2, vI l2)] [] M 0 0
  simp only [vc_X11_whole] at h
  refine mx_iload_n (j := 2) hC dX11_whole_0 rfl rfl ?_
  refine mx_callS (inj := mj_jB) (As := [vI l2]) (st := []) hC (ct_X11_isPerson l2 M _ h) ty_X11_isPerson tw298 rfl (Nat.le_of_ble_eq_true rfl) ⟨rfl, rfl, ⟨by decide, by decide⟩, by decide, by decide⟩ dX11_whole_1 (fun r1 M2 h => ?_)
  show mj_X g 4 [(0, vR l0), (1, vI l1), (2, vI l2)] [vI (mj_b r1)] M2 0 0
  refine mx_ifneB (tgt := 9) hC dX11_whole_4 (by decide) (fun hc3 => ?_) (fun hc3 => ?_)
  · replace h := mj_yy hc3 h
    refine mx_iload_n (j := 1) hC dX11_whole_9 rfl rfl ?_
    refine mx_callS (inj := mj_jB) (As := [vI l1]) (st := []) hC (ct_X11_isFloors l1 M2 _ h) ty_X11_isFloors tw301 rfl (Nat.le_of_ble_eq_true rfl) ⟨rfl, rfl, ⟨by decide, by decide⟩, by decide, by decide⟩ dX11_whole_10 (fun r4 M5 h => ?_)
    show mj_X g 13 [(0, vR l0), (1, vI l1), (2, vI l2)] [vI (mj_b r4)] M5 0 0
    refine mx_ifneB (tgt := 19) hC dX11_whole_13 (by decide) (fun hc6 => ?_) (fun hc6 => ?_)
    · replace h := mj_yy hc6 h
      refine mx_aload_n (j := 0) hC dX11_whole_19 rfl rfl ?_
      obtain ⟨ht7, h⟩ := h
      refine mx_get (v := vR (mj_r M5 l0 0)) hC tf_X11_10 ht7 rfl dX11_whole_20 ?_
      obtain ⟨ht8, h⟩ := h
      refine mx_callV (inj := mj_jB) (As := []) (st := []) hC (ct_X4_isFull (mj_r M5 l0 0) M5 _ h) ty_X4_isFull tw304 ht8 rfl (Nat.le_of_ble_eq_true rfl) ⟨rfl, rfl, ⟨by decide, by decide⟩, by decide, by decide⟩ dX11_whole_23 (fun r9 M10 h => ?_)
      show mj_X g 26 [(0, vR l0), (1, vI l1), (2, vI l2)] [vI (mj_b r9)] M10 0 0
      refine mx_ifeqB (tgt := 32) hC dX11_whole_26 (by decide) (fun hc11 => ?_) (fun hc11 => ?_)
      · replace h := mj_nn hc11 h
        refine mx_aload_n (j := 0) hC dX11_whole_32 rfl rfl ?_
        obtain ⟨ht12, h⟩ := h
        refine mx_get (v := vR (mj_r M10 l0 0)) hC tf_X11_10 ht12 rfl dX11_whole_33 ?_
        refine mx_iload_n (j := 1) hC dX11_whole_36 rfl rfl ?_
        obtain ⟨ht13, h⟩ := h
        refine mx_callV (inj := mj_jB) (As := [vI l1]) (st := []) hC (ct_X4_isOwned (mj_r M10 l0 0) l1 M10 _ h) ty_X4_isOwned tw308 ht13 rfl (Nat.le_of_ble_eq_true rfl) ⟨rfl, rfl, ⟨by decide, by decide⟩, by decide, by decide⟩ dX11_whole_37 (fun r14 M15 h => ?_)
        show mj_X g 40 [(0, vR l0), (1, vI l1), (2, vI l2)] [vI (mj_b r14)] M15 0 0
        refine mx_ifeqB (tgt := 46) hC dX11_whole_40 (by decide) (fun hc16 => ?_) (fun hc16 => ?_)
        · replace h := mj_nn hc16 h
          refine mx_aload_n (j := 0) hC dX11_whole_46 rfl rfl ?_
          obtain ⟨ht17, h⟩ := h
          refine mx_get (v := vR (mj_r M15 l0 0)) hC tf_X11_10 ht17 rfl dX11_whole_47 ?_
          refine mx_new (k' := 1) (n' := 15) hC tk3 tw312 tw313 tw12 ⟨rfl, rfl, by decide, by decide⟩ dX11_whole_50 ?_
          obtain ⟨M18, eM18⟩ : ∃ z : mj_M, z = mj_new M15 3 := ⟨_, rfl⟩
          replace h := h M18 eM18
          have ht19 : mj_tag M18 (mj_nx M15) = 4 := by rw [eM18]; exact mj_u1_at _
          refine mx_setM eM18.symm ?_
          refine mx_dup hC dX11_whole_53 rfl ?_
          refine mx_null hC dX11_whole_54 ?_
          refine mx_iload_n (j := 1) hC dX11_whole_55 rfl rfl ?_
          refine mx_iconst (v := 0) hC dX11_whole_56 (by decide) ?_
          refine mx_ldc (v := 73000) hC dX11_whole_57 tw293 ?_
          refine mx_iload_n (j := 2) hC dX11_whole_59 rfl rfl ?_
          refine mx_aload_n (j := 0) hC dX11_whole_60 rfl rfl ?_
          obtain ⟨ht20, h⟩ := h
          refine mx_get (v := vR (mj_r M18 l0 0)) hC tf_X11_10 ht20 rfl dX11_whole_61 ?_
          obtain ⟨ht21, h⟩ := h
          refine mx_get (v := vI (mj_i M18 (mj_r M18 l0 0) 0)) hC tf_X11_66 ht21 rfl dX11_whole_64 ?_
          obtain ⟨hn22, h⟩ := h
          refine mx_callI (As := [vR 0, vI l1, vI 0, vI 73000, vI l2, vI (mj_i M18 (mj_r M18 l0 0) 0)]) (st := [vR (mj_nx M15), vR (mj_r M15 l0 0)]) hC (ct_X3_init (mj_nx M15) 0 l1 0 73000 l2 (mj_i M18 (mj_r M18 l0 0) 0) M18 _ h) ty_X3_init tw314 hn22 rfl (Nat.le_of_ble_eq_true rfl) ⟨rfl, rfl, ⟨by decide, by decide⟩, by decide, by decide⟩ dX11_whole_67 (fun _ M23 h => ?_)
          show mj_X g 70 [(0, vR l0), (1, vI l1), (2, vI l2)] [vR (mj_nx M15), vR (mj_r M15 l0 0)] M23 1 15
          obtain ⟨ht24, h⟩ := h
          refine mx_callV (inj := mj_jI) (As := [vR (mj_nx M15)]) (st := []) hC (ct_X4_add (mj_r M15 l0 0) (mj_nx M15) M23 _ h) ty_X4_add tw389 ht24 rfl (Nat.le_of_ble_eq_true rfl) ⟨rfl, rfl, ⟨by decide, by decide⟩, by decide, by decide⟩ dX11_whole_70 (fun r25 M26 h => ?_)
          show mj_X g 73 [(0, vR l0), (1, vI l1), (2, vI l2)] [vI r25] M26 1 15
          exact mx_iret hC hE rfl dX11_whole_73 h
        · replace h := mj_yy hc16 h
          refine mx_bipush (v := (-5)) hC dX11_whole_43 (by decide) ?_
          refine mx_widen (k' := 1) (n' := 15) (by decide) (by decide) ?_
          exact mx_iret hC hE rfl dX11_whole_45 h
      · replace h := mj_yy hc11 h
        refine mx_bipush (v := (-4)) hC dX11_whole_29 (by decide) ?_
        refine mx_widen (k' := 1) (n' := 15) (by decide) (by decide) ?_
        exact mx_iret hC hE rfl dX11_whole_31 h
    · replace h := mj_nn hc6 h
      refine mx_bipush (v := (-2)) hC dX11_whole_16 (by decide) ?_
      refine mx_widen (k' := 1) (n' := 15) (by decide) (by decide) ?_
      exact mx_iret hC hE rfl dX11_whole_18 h
  · replace h := mj_nn hc3 h
    refine mx_iconst (v := (-1)) hC dX11_whole_7 (by decide) ?_
    refine mx_widen (k' := 1) (n' := 15) (by decide) (by decide) ?_
    exact mx_iret hC hE rfl dX11_whole_8 h
def rm_X11_refusalOfGrant : Room := { frames := 1, cells := 0, slots := 0, locals := 20 }
theorem dX11_refusalOfGrant_0 : decode cX11_refusalOfGrant 0 = .ok (.aload_n 1, 1) := by decide +kernel
theorem dX11_refusalOfGrant_1 : decode cX11_refusalOfGrant 1 = .ok (.ifnull 11, 3) := by decide +kernel
theorem dX11_refusalOfGrant_4 : decode cX11_refusalOfGrant 4 = .ok (.iload 5, 2) := by decide +kernel
theorem dX11_refusalOfGrant_6 : decode cX11_refusalOfGrant 6 = .ok (.invokestatic 70, 3) := by decide +kernel
theorem dX11_refusalOfGrant_9 : decode cX11_refusalOfGrant 9 = .ok (.ifCond .ne 5, 3) := by decide +kernel
theorem dX11_refusalOfGrant_12 : decode cX11_refusalOfGrant 12 = .ok (.iconst (-1), 1) := by decide +kernel
theorem dX11_refusalOfGrant_13 : decode cX11_refusalOfGrant 13 = .ok (.ireturn, 1) := by decide +kernel
theorem dX11_refusalOfGrant_14 : decode cX11_refusalOfGrant 14 = .ok (.iload_n 2, 1) := by decide +kernel
theorem dX11_refusalOfGrant_15 : decode cX11_refusalOfGrant 15 = .ok (.invokestatic 73, 3) := by decide +kernel
theorem dX11_refusalOfGrant_18 : decode cX11_refusalOfGrant 18 = .ok (.ifCond .eq 27, 3) := by decide +kernel
theorem dX11_refusalOfGrant_21 : decode cX11_refusalOfGrant 21 = .ok (.iload_n 3, 1) := by decide +kernel
theorem dX11_refusalOfGrant_22 : decode cX11_refusalOfGrant 22 = .ok (.aload_n 0, 1) := by decide +kernel
theorem dX11_refusalOfGrant_23 : decode cX11_refusalOfGrant 23 = .ok (.getfield 10, 3) := by decide +kernel
theorem dX11_refusalOfGrant_26 : decode cX11_refusalOfGrant 26 = .ok (.getfield 66, 3) := by decide +kernel
theorem dX11_refusalOfGrant_29 : decode cX11_refusalOfGrant 29 = .ok (.if_icmp .lt 16, 3) := by decide +kernel
theorem dX11_refusalOfGrant_32 : decode cX11_refusalOfGrant 32 = .ok (.iload_n 3, 1) := by decide +kernel
theorem dX11_refusalOfGrant_33 : decode cX11_refusalOfGrant 33 = .ok (.iload 4, 2) := by decide +kernel
theorem dX11_refusalOfGrant_35 : decode cX11_refusalOfGrant 35 = .ok (.if_icmp .ge 10, 3) := by decide +kernel
theorem dX11_refusalOfGrant_38 : decode cX11_refusalOfGrant 38 = .ok (.iload 4, 2) := by decide +kernel
theorem dX11_refusalOfGrant_40 : decode cX11_refusalOfGrant 40 = .ok (.ldc 85, 2) := by decide +kernel
theorem dX11_refusalOfGrant_42 : decode cX11_refusalOfGrant 42 = .ok (.if_icmp .le 6, 3) := by decide +kernel
theorem dX11_refusalOfGrant_45 : decode cX11_refusalOfGrant 45 = .ok (.bipush (-2), 2) := by decide +kernel
theorem dX11_refusalOfGrant_47 : decode cX11_refusalOfGrant 47 = .ok (.ireturn, 1) := by decide +kernel
theorem dX11_refusalOfGrant_48 : decode cX11_refusalOfGrant 48 = .ok (.aload_n 0, 1) := by decide +kernel
theorem dX11_refusalOfGrant_49 : decode cX11_refusalOfGrant 49 = .ok (.getfield 10, 3) := by decide +kernel
theorem dX11_refusalOfGrant_52 : decode cX11_refusalOfGrant 52 = .ok (.invokevirtual 76, 3) := by decide +kernel
theorem dX11_refusalOfGrant_55 : decode cX11_refusalOfGrant 55 = .ok (.ifCond .eq 8, 3) := by decide +kernel
theorem dX11_refusalOfGrant_58 : decode cX11_refusalOfGrant 58 = .ok (.bipush (-4), 2) := by decide +kernel
theorem dX11_refusalOfGrant_60 : decode cX11_refusalOfGrant 60 = .ok (.goto 4, 3) := by decide +kernel
theorem dX11_refusalOfGrant_63 : decode cX11_refusalOfGrant 63 = .ok (.iconst 0, 1) := by decide +kernel
theorem dX11_refusalOfGrant_64 : decode cX11_refusalOfGrant 64 = .ok (.ireturn, 1) := by decide +kernel
def vc_X11_refusalOfGrant (l0 : Nat) (l1 : Nat) (l2 : Int32) (l3 : Int32) (l4 : Int32) (l5 : Int32) (M : mj_M) (post : Int32 → mj_M → Prop) : Prop := if l1 = 0 then (post ((-1)) M) else (vc_X11_isPerson l5 M (fun r2 M3 => if r2 = true then (vc_X11_isFloors l2 M3 (fun r5 M6 => if r5 = true then (mj_tag M6 l0 = 12 ∧ mj_tag M6 (mj_r M6 l0 0) = 5 ∧ if l3 < (mj_i M6 (mj_r M6 l0 0) 0) then (post ((-2)) M6) else (if l4 ≤ l3 then (post ((-2)) M6) else (if l4 ≤ 73000 then (vc_X4_isFull (mj_r M6 l0 0) M6 (fun r13 M14 => if r13 = true then (post ((-4)) M14) else (post 0 M14))) else (post ((-2)) M6)))) else (post ((-2)) M6))) else (post ((-1)) M3)))
set_option maxHeartbeats 4000000 in
set_option maxRecDepth 100000 in
theorem ct_X11_refusalOfGrant {l : Launch} {base : Nat} {D : va_G} {A : ClassId × ClassId × ClassId} (l0 : Nat) (l1 : Nat) (l2 : Int32) (l3 : Int32) (l4 : Int32) (l5 : Int32) (M : mj_M) (post : Int32 → mj_M → Prop) (h : vc_X11_refusalOfGrant l0 l1 l2 l3 l4 l5 M post) : mj_Met l base D A mj_jI yX11_refusalOfGrant cX11_refusalOfGrant 6 (some .int) rm_X11_refusalOfGrant 0 0 [vR l0, vR l1, vI l2, vI l3, vI l4, vI l5] M post := by
  refine mj_entry (by decide +kernel) (Nat.le_of_ble_eq_true rfl) (fun g hC hE h1 h2 h3 h4 => ?_)
  show mj_X g 0 [(0, vR l0), (1, vR l1), (2, vI l2), (3, vI l3), (4, vI l4), (5, vI l5)] [] M 0 0
  simp only [vc_X11_refusalOfGrant] at h
  refine mx_aload_n (j := 1) hC dX11_refusalOfGrant_0 rfl rfl ?_
  refine mx_ifnull (tgt := 12) hC dX11_refusalOfGrant_1 (by decide) (fun hc1 => ?_) (fun hc1 => ?_)
  · replace h := mj_yy hc1 h
    refine mx_iconst (v := (-1)) hC dX11_refusalOfGrant_12 (by decide) ?_
    exact mx_iret hC hE rfl dX11_refusalOfGrant_13 h
  · replace h := mj_nn hc1 h
    refine mx_iload (j := 5) hC dX11_refusalOfGrant_4 rfl ?_
    refine mx_callS (inj := mj_jB) (As := [vI l5]) (st := []) hC (ct_X11_isPerson l5 M _ h) ty_X11_isPerson tw298 rfl (Nat.le_of_ble_eq_true rfl) ⟨rfl, rfl, ⟨by decide, by decide⟩, by decide, by decide⟩ dX11_refusalOfGrant_6 (fun r2 M3 h => ?_)
    show mj_X g 9 [(0, vR l0), (1, vR l1), (2, vI l2), (3, vI l3), (4, vI l4), (5, vI l5)] [vI (mj_b r2)] M3 0 0
    refine mx_ifneB (tgt := 14) hC dX11_refusalOfGrant_9 (by decide) (fun hc4 => ?_) (fun hc4 => ?_)
    · replace h := mj_yy hc4 h
      refine mx_iload_n (j := 2) hC dX11_refusalOfGrant_14 rfl rfl ?_
      refine mx_callS (inj := mj_jB) (As := [vI l2]) (st := []) hC (ct_X11_isFloors l2 M3 _ h) ty_X11_isFloors tw301 rfl (Nat.le_of_ble_eq_true rfl) ⟨rfl, rfl, ⟨by decide, by decide⟩, by decide, by decide⟩ dX11_refusalOfGrant_15 (fun r5 M6 h => ?_)
      show mj_X g 18 [(0, vR l0), (1, vR l1), (2, vI l2), (3, vI l3), (4, vI l4), (5, vI l5)] [vI (mj_b r5)] M6 0 0
      refine mx_ifeqB (tgt := 45) hC dX11_refusalOfGrant_18 (by decide) (fun hc7 => ?_) (fun hc7 => ?_)
      · replace h := mj_nn hc7 h
        refine mx_bipush (v := (-2)) hC dX11_refusalOfGrant_45 (by decide) ?_
        exact mx_iret hC hE rfl dX11_refusalOfGrant_47 h
      · replace h := mj_yy hc7 h
        refine mx_iload_n (j := 3) hC dX11_refusalOfGrant_21 rfl rfl ?_
        refine mx_aload_n (j := 0) hC dX11_refusalOfGrant_22 rfl rfl ?_
        obtain ⟨ht8, h⟩ := h
        refine mx_get (v := vR (mj_r M6 l0 0)) hC tf_X11_10 ht8 rfl dX11_refusalOfGrant_23 ?_
        obtain ⟨ht9, h⟩ := h
        refine mx_get (v := vI (mj_i M6 (mj_r M6 l0 0) 0)) hC tf_X11_66 ht9 rfl dX11_refusalOfGrant_26 ?_
        refine mx_icmplt (tgt := 45) hC dX11_refusalOfGrant_29 (by decide) (fun hc10 => ?_) (fun hc10 => ?_)
        · replace h := mj_yy hc10 h
          refine mx_bipush (v := (-2)) hC dX11_refusalOfGrant_45 (by decide) ?_
          exact mx_iret hC hE rfl dX11_refusalOfGrant_47 h
        · replace h := mj_nn hc10 h
          refine mx_iload_n (j := 3) hC dX11_refusalOfGrant_32 rfl rfl ?_
          refine mx_iload (j := 4) hC dX11_refusalOfGrant_33 rfl ?_
          refine mx_icmpge (tgt := 45) hC dX11_refusalOfGrant_35 (by decide) (fun hc11 => ?_) (fun hc11 => ?_)
          · replace h := mj_yy hc11 h
            refine mx_bipush (v := (-2)) hC dX11_refusalOfGrant_45 (by decide) ?_
            exact mx_iret hC hE rfl dX11_refusalOfGrant_47 h
          · replace h := mj_nn hc11 h
            refine mx_iload (j := 4) hC dX11_refusalOfGrant_38 rfl ?_
            refine mx_ldc (v := 73000) hC dX11_refusalOfGrant_40 tw293 ?_
            refine mx_icmple (tgt := 48) hC dX11_refusalOfGrant_42 (by decide) (fun hc12 => ?_) (fun hc12 => ?_)
            · replace h := mj_yy hc12 h
              refine mx_aload_n (j := 0) hC dX11_refusalOfGrant_48 rfl rfl ?_
              refine mx_get (v := vR (mj_r M6 l0 0)) hC tf_X11_10 ht8 rfl dX11_refusalOfGrant_49 ?_
              refine mx_callV (inj := mj_jB) (As := []) (st := []) hC (ct_X4_isFull (mj_r M6 l0 0) M6 _ h) ty_X4_isFull tw304 ht9 rfl (Nat.le_of_ble_eq_true rfl) ⟨rfl, rfl, ⟨by decide, by decide⟩, by decide, by decide⟩ dX11_refusalOfGrant_52 (fun r13 M14 h => ?_)
              show mj_X g 55 [(0, vR l0), (1, vR l1), (2, vI l2), (3, vI l3), (4, vI l4), (5, vI l5)] [vI (mj_b r13)] M14 0 0
              refine mx_ifeqB (tgt := 63) hC dX11_refusalOfGrant_55 (by decide) (fun hc15 => ?_) (fun hc15 => ?_)
              · replace h := mj_nn hc15 h
                refine mx_iconst (v := 0) hC dX11_refusalOfGrant_63 (by decide) ?_
                exact mx_iret hC hE rfl dX11_refusalOfGrant_64 h
              · replace h := mj_yy hc15 h
                refine mx_bipush (v := (-4)) hC dX11_refusalOfGrant_58 (by decide) ?_
                refine mx_goto (tgt := 64) hC dX11_refusalOfGrant_60 (by decide) ?_
                exact mx_iret hC hE rfl dX11_refusalOfGrant_64 h
            · replace h := mj_nn hc12 h
              refine mx_bipush (v := (-2)) hC dX11_refusalOfGrant_45 (by decide) ?_
              exact mx_iret hC hE rfl dX11_refusalOfGrant_47 h
    · replace h := mj_nn hc4 h
      refine mx_iconst (v := (-1)) hC dX11_refusalOfGrant_12 (by decide) ?_
      exact mx_iret hC hE rfl dX11_refusalOfGrant_13 h
theorem tw397 : (Jvm.Cond.methodLink "LeaseLand" (93 : Nat) ({ cls := "LeaseLand$Land", name := "find", desc := "(I)LLeaseLand$Holding;" } : Jvm.MethodName)) ∈ mj_tbl := mj_w 450 (by decide +kernel) (by decide +kernel)
theorem tw401 : (Jvm.Cond.methodLink "LeaseLand" (97 : Nat) ({ cls := "LeaseLand", name := "refusalOfGrant", desc := "(LLeaseLand$Holding;IIII)I" } : Jvm.MethodName)) ∈ mj_tbl := mj_w 454 (by decide +kernel) (by decide +kernel)
theorem tw405 : (Jvm.Cond.methodLink "LeaseLand" (101 : Nat) ({ cls := "LeaseLand$Land", name := "canGrant", desc := "(LLeaseLand$Holding;III)Z" } : Jvm.MethodName)) ∈ mj_tbl := mj_w 458 (by decide +kernel) (by decide +kernel)
theorem tw404 : (Jvm.Cond.code ({ cls := "LeaseLand", name := "refusalOfGrant", desc := "(LLeaseLand$Holding;IIII)I" } : Jvm.MethodName) prog_1_method_6_code (6 : Nat) (Option.some Jvm.ClassFile.FieldType.int)) ∈ mj_tbl := mj_w 457 (by decide +kernel) (by decide +kernel)
theorem tw403 : (Jvm.Cond.instanceMethod ({ cls := "LeaseLand", name := "refusalOfGrant", desc := "(LLeaseLand$Holding;IIII)I" } : Jvm.MethodName)) ∈ mj_tbl := mj_w 456 (by decide +kernel) (by decide +kernel)
theorem ty_X11_refusalOfGrant : mj_YV 11 yX11_refusalOfGrant cX11_refusalOfGrant 6 (some .int) 5 := ⟨⟨tw404, tw1, by decide +kernel, by decide +kernel, by decide +kernel⟩, tw403, mj_w 0 (by decide +kernel) (by decide +kernel), _, rfl, rfl⟩
theorem tw408 : (Jvm.Cond.code ({ cls := "LeaseLand$Land", name := "canGrant", desc := "(LLeaseLand$Holding;III)Z" } : Jvm.MethodName) prog_6_method_11_code (5 : Nat) (Option.some Jvm.ClassFile.FieldType.boolean)) ∈ mj_tbl := mj_w 461 (by decide +kernel) (by decide +kernel)
theorem tw406 : (Jvm.Cond.instanceMethod ({ cls := "LeaseLand$Land", name := "canGrant", desc := "(LLeaseLand$Holding;III)Z" } : Jvm.MethodName)) ∈ mj_tbl := mj_w 459 (by decide +kernel) (by decide +kernel)
theorem tw407 : (Jvm.Cond.selects "LeaseLand$Land" ({ cls := "LeaseLand$Land", name := "canGrant", desc := "(LLeaseLand$Holding;III)Z" } : Jvm.MethodName) ({ cls := "LeaseLand$Land", name := "canGrant", desc := "(LLeaseLand$Holding;III)Z" } : Jvm.MethodName)) ∈ mj_tbl := mj_w 460 (by decide +kernel) (by decide +kernel)
theorem ty_X4_canGrant : mj_YV 4 yX4_canGrant cX4_canGrant 5 (some .boolean) 4 := ⟨⟨tw408, tw2, by decide +kernel, by decide +kernel, by decide +kernel⟩, tw406, tw407, _, rfl, rfl⟩
def rm_X11_lease : Room := { frames := 4, cells := 1, slots := 15, locals := 94 }
theorem dX11_lease_0 : decode cX11_lease 0 = .ok (.aload_n 0, 1) := by decide +kernel
theorem dX11_lease_1 : decode cX11_lease 1 = .ok (.getfield 10, 3) := by decide +kernel
theorem dX11_lease_4 : decode cX11_lease 4 = .ok (.iload_n 1, 1) := by decide +kernel
theorem dX11_lease_5 : decode cX11_lease 5 = .ok (.invokevirtual 93, 3) := by decide +kernel
theorem dX11_lease_8 : decode cX11_lease 8 = .ok (.astore 6, 2) := by decide +kernel
theorem dX11_lease_10 : decode cX11_lease 10 = .ok (.aload_n 0, 1) := by decide +kernel
theorem dX11_lease_11 : decode cX11_lease 11 = .ok (.aload 6, 2) := by decide +kernel
theorem dX11_lease_13 : decode cX11_lease 13 = .ok (.iload_n 2, 1) := by decide +kernel
theorem dX11_lease_14 : decode cX11_lease 14 = .ok (.iload_n 3, 1) := by decide +kernel
theorem dX11_lease_15 : decode cX11_lease 15 = .ok (.iload 4, 2) := by decide +kernel
theorem dX11_lease_17 : decode cX11_lease 17 = .ok (.iload 5, 2) := by decide +kernel
theorem dX11_lease_19 : decode cX11_lease 19 = .ok (.invokevirtual 97, 3) := by decide +kernel
theorem dX11_lease_22 : decode cX11_lease 22 = .ok (.istore 7, 2) := by decide +kernel
theorem dX11_lease_24 : decode cX11_lease 24 = .ok (.iload 7, 2) := by decide +kernel
theorem dX11_lease_26 : decode cX11_lease 26 = .ok (.ifCond .eq 6, 3) := by decide +kernel
theorem dX11_lease_29 : decode cX11_lease 29 = .ok (.iload 7, 2) := by decide +kernel
theorem dX11_lease_31 : decode cX11_lease 31 = .ok (.ireturn, 1) := by decide +kernel
theorem dX11_lease_32 : decode cX11_lease 32 = .ok (.aload_n 0, 1) := by decide +kernel
theorem dX11_lease_33 : decode cX11_lease 33 = .ok (.getfield 10, 3) := by decide +kernel
theorem dX11_lease_36 : decode cX11_lease 36 = .ok (.aload 6, 2) := by decide +kernel
theorem dX11_lease_38 : decode cX11_lease 38 = .ok (.iload_n 2, 1) := by decide +kernel
theorem dX11_lease_39 : decode cX11_lease 39 = .ok (.iload_n 3, 1) := by decide +kernel
theorem dX11_lease_40 : decode cX11_lease 40 = .ok (.iload 4, 2) := by decide +kernel
theorem dX11_lease_42 : decode cX11_lease 42 = .ok (.invokevirtual 101, 3) := by decide +kernel
theorem dX11_lease_45 : decode cX11_lease 45 = .ok (.ifCond .ne 6, 3) := by decide +kernel
theorem dX11_lease_48 : decode cX11_lease 48 = .ok (.bipush (-5), 2) := by decide +kernel
theorem dX11_lease_50 : decode cX11_lease 50 = .ok (.ireturn, 1) := by decide +kernel
theorem dX11_lease_51 : decode cX11_lease 51 = .ok (.aload_n 0, 1) := by decide +kernel
theorem dX11_lease_52 : decode cX11_lease 52 = .ok (.getfield 10, 3) := by decide +kernel
theorem dX11_lease_55 : decode cX11_lease 55 = .ok (.new 83, 3) := by decide +kernel
theorem dX11_lease_58 : decode cX11_lease 58 = .ok (.dup, 1) := by decide +kernel
theorem dX11_lease_59 : decode cX11_lease 59 = .ok (.aload 6, 2) := by decide +kernel
theorem dX11_lease_61 : decode cX11_lease 61 = .ok (.iload_n 2, 1) := by decide +kernel
theorem dX11_lease_62 : decode cX11_lease 62 = .ok (.iload_n 3, 1) := by decide +kernel
theorem dX11_lease_63 : decode cX11_lease 63 = .ok (.iload 4, 2) := by decide +kernel
theorem dX11_lease_65 : decode cX11_lease 65 = .ok (.iload 5, 2) := by decide +kernel
theorem dX11_lease_67 : decode cX11_lease 67 = .ok (.iload_n 3, 1) := by decide +kernel
theorem dX11_lease_68 : decode cX11_lease 68 = .ok (.invokespecial 86, 3) := by decide +kernel
theorem dX11_lease_71 : decode cX11_lease 71 = .ok (.invokevirtual 89, 3) := by decide +kernel
theorem dX11_lease_74 : decode cX11_lease 74 = .ok (.ireturn, 1) := by decide +kernel
def vc_X11_lease (l0 : Nat) (l1 : Int32) (l2 : Int32) (l3 : Int32) (l4 : Int32) (l5 : Int32) (M : mj_M) (post : Int32 → mj_M → Prop) : Prop := mj_tag M l0 = 12 ∧ mj_tag M (mj_r M l0 0) = 5 ∧ vc_X4_find (mj_r M l0 0) l1 M (fun r3 M4 => mj_tag M4 l0 = 12 ∧ vc_X11_refusalOfGrant l0 r3 l2 l3 l4 l5 M4 (fun r6 M7 => if r6 = 0 then (mj_tag M7 l0 = 12 ∧ mj_tag M7 (mj_r M7 l0 0) = 5 ∧ vc_X4_canGrant (mj_r M7 l0 0) r3 l2 l3 l4 M7 (fun r11 M12 => if r11 = true then (mj_tag M12 l0 = 12 ∧ ∀ M15 : mj_M, M15 = mj_new M12 3 → (¬ (mj_nx M12) = 0) ∧ vc_X3_init (mj_nx M12) r3 l2 l3 l4 l5 l3 M15 (fun _ M18 => mj_tag M18 (mj_r M12 l0 0) = 5 ∧ vc_X4_add (mj_r M12 l0 0) (mj_nx M12) M18 (fun r20 M21 => post r20 M21))) else (post ((-5)) M12))) else (post r6 M7)))
set_option maxHeartbeats 4000000 in
set_option maxRecDepth 100000 in
theorem ct_X11_lease {l : Launch} {base : Nat} {D : va_G} {A : ClassId × ClassId × ClassId} (l0 : Nat) (l1 : Int32) (l2 : Int32) (l3 : Int32) (l4 : Int32) (l5 : Int32) (M : mj_M) (post : Int32 → mj_M → Prop) (h : vc_X11_lease l0 l1 l2 l3 l4 l5 M post) : mj_Met l base D A mj_jI yX11_lease cX11_lease 8 (some .int) rm_X11_lease 1 15 [vR l0, vI l1, vI l2, vI l3, vI l4, vI l5] M post := by
  refine mj_entry (by decide +kernel) (Nat.le_of_ble_eq_true rfl) (fun g hC hE h1 h2 h3 h4 => ?_)
  show mj_X g 0 [(0, vR l0), (1, vI l1), (2, vI l2), (3, vI l3), (4, vI l4), (5, vI l5)] [] M 0 0
  simp only [vc_X11_lease] at h
  refine mx_aload_n (j := 0) hC dX11_lease_0 rfl rfl ?_
  obtain ⟨ht1, h⟩ := h
  refine mx_get (v := vR (mj_r M l0 0)) hC tf_X11_10 ht1 rfl dX11_lease_1 ?_
  refine mx_iload_n (j := 1) hC dX11_lease_4 rfl rfl ?_
  obtain ⟨ht2, h⟩ := h
  refine mx_callV (inj := mj_jR) (As := [vI l1]) (st := []) hC (ct_X4_find (mj_r M l0 0) l1 M _ h) ty_X4_find tw397 ht2 rfl (Nat.le_of_ble_eq_true rfl) ⟨rfl, rfl, ⟨by decide, by decide⟩, by decide, by decide⟩ dX11_lease_5 (fun r3 M4 h => ?_)
  show mj_X g 8 [(0, vR l0), (1, vI l1), (2, vI l2), (3, vI l3), (4, vI l4), (5, vI l5)] [vR r3] M4 0 0
  refine mx_astore (L' := [(6, vR r3), (0, vR l0), (1, vI l1), (2, vI l2), (3, vI l3), (4, vI l4), (5, vI l5)]) hC dX11_lease_8 (by decide) rfl ?_
  refine mx_aload_n (j := 1) hC dX11_lease_10 rfl rfl ?_
  refine mx_aload (j := 0) hC dX11_lease_11 rfl ?_
  refine mx_iload_n (j := 3) hC dX11_lease_13 rfl rfl ?_
  refine mx_iload_n (j := 4) hC dX11_lease_14 rfl rfl ?_
  refine mx_iload (j := 5) hC dX11_lease_15 rfl ?_
  refine mx_iload (j := 6) hC dX11_lease_17 rfl ?_
  obtain ⟨ht5, h⟩ := h
  refine mx_callV (inj := mj_jI) (As := [vR r3, vI l2, vI l3, vI l4, vI l5]) (st := []) hC (ct_X11_refusalOfGrant l0 r3 l2 l3 l4 l5 M4 _ h) ty_X11_refusalOfGrant tw401 ht5 rfl (Nat.le_of_ble_eq_true rfl) ⟨rfl, rfl, ⟨by decide, by decide⟩, by decide, by decide⟩ dX11_lease_19 (fun r6 M7 h => ?_)
  show mj_X g 22 [(6, vR r3), (0, vR l0), (1, vI l1), (2, vI l2), (3, vI l3), (4, vI l4), (5, vI l5)] [vI r6] M7 0 0
  refine mx_istore (L' := [(7, vI r6), (6, vR r3), (0, vR l0), (1, vI l1), (2, vI l2), (3, vI l3), (4, vI l4), (5, vI l5)]) hC dX11_lease_22 (by decide) rfl ?_
  refine mx_iload (j := 0) hC dX11_lease_24 rfl ?_
  refine mx_ifeq (tgt := 32) hC dX11_lease_26 (by decide) (fun hc8 => ?_) (fun hc8 => ?_)
  · replace h := mj_yy hc8 h
    refine mx_aload_n (j := 2) hC dX11_lease_32 rfl rfl ?_
    obtain ⟨ht9, h⟩ := h
    refine mx_get (v := vR (mj_r M7 l0 0)) hC tf_X11_10 ht9 rfl dX11_lease_33 ?_
    refine mx_aload (j := 1) hC dX11_lease_36 rfl ?_
    refine mx_iload_n (j := 4) hC dX11_lease_38 rfl rfl ?_
    refine mx_iload_n (j := 5) hC dX11_lease_39 rfl rfl ?_
    refine mx_iload (j := 6) hC dX11_lease_40 rfl ?_
    obtain ⟨ht10, h⟩ := h
    refine mx_callV (inj := mj_jB) (As := [vR r3, vI l2, vI l3, vI l4]) (st := []) hC (ct_X4_canGrant (mj_r M7 l0 0) r3 l2 l3 l4 M7 _ h) ty_X4_canGrant tw405 ht10 rfl (Nat.le_of_ble_eq_true rfl) ⟨rfl, rfl, ⟨by decide, by decide⟩, by decide, by decide⟩ dX11_lease_42 (fun r11 M12 h => ?_)
    show mj_X g 45 [(7, vI r6), (6, vR r3), (0, vR l0), (1, vI l1), (2, vI l2), (3, vI l3), (4, vI l4), (5, vI l5)] [vI (mj_b r11)] M12 0 0
    refine mx_ifneB (tgt := 51) hC dX11_lease_45 (by decide) (fun hc13 => ?_) (fun hc13 => ?_)
    · replace h := mj_yy hc13 h
      refine mx_aload_n (j := 2) hC dX11_lease_51 rfl rfl ?_
      obtain ⟨ht14, h⟩ := h
      refine mx_get (v := vR (mj_r M12 l0 0)) hC tf_X11_10 ht14 rfl dX11_lease_52 ?_
      refine mx_new (k' := 1) (n' := 15) hC tk3 tw312 tw313 tw12 ⟨rfl, rfl, by decide, by decide⟩ dX11_lease_55 ?_
      obtain ⟨M15, eM15⟩ : ∃ z : mj_M, z = mj_new M12 3 := ⟨_, rfl⟩
      replace h := h M15 eM15
      have ht16 : mj_tag M15 (mj_nx M12) = 4 := by rw [eM15]; exact mj_u1_at _
      refine mx_setM eM15.symm ?_
      refine mx_dup hC dX11_lease_58 rfl ?_
      refine mx_aload (j := 1) hC dX11_lease_59 rfl ?_
      refine mx_iload_n (j := 4) hC dX11_lease_61 rfl rfl ?_
      refine mx_iload_n (j := 5) hC dX11_lease_62 rfl rfl ?_
      refine mx_iload (j := 6) hC dX11_lease_63 rfl ?_
      refine mx_iload (j := 7) hC dX11_lease_65 rfl ?_
      refine mx_iload_n (j := 5) hC dX11_lease_67 rfl rfl ?_
      obtain ⟨hn17, h⟩ := h
      refine mx_callI (As := [vR r3, vI l2, vI l3, vI l4, vI l5, vI l3]) (st := [vR (mj_nx M12), vR (mj_r M12 l0 0)]) hC (ct_X3_init (mj_nx M12) r3 l2 l3 l4 l5 l3 M15 _ h) ty_X3_init tw314 hn17 rfl (Nat.le_of_ble_eq_true rfl) ⟨rfl, rfl, ⟨by decide, by decide⟩, by decide, by decide⟩ dX11_lease_68 (fun _ M18 h => ?_)
      show mj_X g 71 [(7, vI r6), (6, vR r3), (0, vR l0), (1, vI l1), (2, vI l2), (3, vI l3), (4, vI l4), (5, vI l5)] [vR (mj_nx M12), vR (mj_r M12 l0 0)] M18 1 15
      obtain ⟨ht19, h⟩ := h
      refine mx_callV (inj := mj_jI) (As := [vR (mj_nx M12)]) (st := []) hC (ct_X4_add (mj_r M12 l0 0) (mj_nx M12) M18 _ h) ty_X4_add tw389 ht19 rfl (Nat.le_of_ble_eq_true rfl) ⟨rfl, rfl, ⟨by decide, by decide⟩, by decide, by decide⟩ dX11_lease_71 (fun r20 M21 h => ?_)
      show mj_X g 74 [(7, vI r6), (6, vR r3), (0, vR l0), (1, vI l1), (2, vI l2), (3, vI l3), (4, vI l4), (5, vI l5)] [vI r20] M21 1 15
      exact mx_iret hC hE rfl dX11_lease_74 h
    · replace h := mj_nn hc13 h
      refine mx_bipush (v := (-5)) hC dX11_lease_48 (by decide) ?_
      refine mx_widen (k' := 1) (n' := 15) (by decide) (by decide) ?_
      exact mx_iret hC hE rfl dX11_lease_50 h
  · replace h := mj_nn hc8 h
    refine mx_iload (j := 0) hC dX11_lease_29 rfl ?_
    refine mx_widen (k' := 1) (n' := 15) (by decide) (by decide) ?_
    exact mx_iret hC hE rfl dX11_lease_31 h
theorem tw439 : (Jvm.Cond.methodLink "LeaseLand" (105 : Nat) ({ cls := "LeaseLand$Land", name := "canPutBetween", desc := "(LLeaseLand$Holding;III)Z" } : Jvm.MethodName)) ∈ mj_tbl := mj_w 492 (by decide +kernel) (by decide +kernel)
theorem tw449 : (Jvm.Cond.methodLink "LeaseLand" (108 : Nat) ({ cls := "LeaseLand$Land", name := "putBetween", desc := "(LLeaseLand$Holding;)I" } : Jvm.MethodName)) ∈ mj_tbl := mj_w 502 (by decide +kernel) (by decide +kernel)
theorem tw442 : (Jvm.Cond.code ({ cls := "LeaseLand$Land", name := "canPutBetween", desc := "(LLeaseLand$Holding;III)Z" } : Jvm.MethodName) prog_6_method_12_code (6 : Nat) (Option.some Jvm.ClassFile.FieldType.boolean)) ∈ mj_tbl := mj_w 495 (by decide +kernel) (by decide +kernel)
theorem tw440 : (Jvm.Cond.instanceMethod ({ cls := "LeaseLand$Land", name := "canPutBetween", desc := "(LLeaseLand$Holding;III)Z" } : Jvm.MethodName)) ∈ mj_tbl := mj_w 493 (by decide +kernel) (by decide +kernel)
theorem tw441 : (Jvm.Cond.selects "LeaseLand$Land" ({ cls := "LeaseLand$Land", name := "canPutBetween", desc := "(LLeaseLand$Holding;III)Z" } : Jvm.MethodName) ({ cls := "LeaseLand$Land", name := "canPutBetween", desc := "(LLeaseLand$Holding;III)Z" } : Jvm.MethodName)) ∈ mj_tbl := mj_w 494 (by decide +kernel) (by decide +kernel)
theorem ty_X4_canPutBetween : mj_YV 4 yX4_canPutBetween cX4_canPutBetween 6 (some .boolean) 4 := ⟨⟨tw442, tw2, by decide +kernel, by decide +kernel, by decide +kernel⟩, tw440, tw441, _, rfl, rfl⟩
theorem tw452 : (Jvm.Cond.code ({ cls := "LeaseLand$Land", name := "putBetween", desc := "(LLeaseLand$Holding;)I" } : Jvm.MethodName) prog_6_method_14_code (3 : Nat) (Option.some Jvm.ClassFile.FieldType.int)) ∈ mj_tbl := mj_w 505 (by decide +kernel) (by decide +kernel)
theorem tw450 : (Jvm.Cond.instanceMethod ({ cls := "LeaseLand$Land", name := "putBetween", desc := "(LLeaseLand$Holding;)I" } : Jvm.MethodName)) ∈ mj_tbl := mj_w 503 (by decide +kernel) (by decide +kernel)
theorem tw451 : (Jvm.Cond.selects "LeaseLand$Land" ({ cls := "LeaseLand$Land", name := "putBetween", desc := "(LLeaseLand$Holding;)I" } : Jvm.MethodName) ({ cls := "LeaseLand$Land", name := "putBetween", desc := "(LLeaseLand$Holding;)I" } : Jvm.MethodName)) ∈ mj_tbl := mj_w 504 (by decide +kernel) (by decide +kernel)
theorem ty_X4_putBetween : mj_YV 4 yX4_putBetween cX4_putBetween 3 (some .int) 1 := ⟨⟨tw452, tw2, by decide +kernel, by decide +kernel, by decide +kernel⟩, tw450, tw451, _, rfl, rfl⟩
def rm_X11_between : Room := { frames := 3, cells := 1, slots := 15, locals := 70 }
theorem dX11_between_0 : decode cX11_between 0 = .ok (.aload_n 0, 1) := by decide +kernel
theorem dX11_between_1 : decode cX11_between 1 = .ok (.getfield 10, 3) := by decide +kernel
theorem dX11_between_4 : decode cX11_between 4 = .ok (.iload_n 1, 1) := by decide +kernel
theorem dX11_between_5 : decode cX11_between 5 = .ok (.invokevirtual 93, 3) := by decide +kernel
theorem dX11_between_8 : decode cX11_between 8 = .ok (.astore 6, 2) := by decide +kernel
theorem dX11_between_10 : decode cX11_between 10 = .ok (.aload_n 0, 1) := by decide +kernel
theorem dX11_between_11 : decode cX11_between 11 = .ok (.aload 6, 2) := by decide +kernel
theorem dX11_between_13 : decode cX11_between 13 = .ok (.iload_n 2, 1) := by decide +kernel
theorem dX11_between_14 : decode cX11_between 14 = .ok (.iload_n 3, 1) := by decide +kernel
theorem dX11_between_15 : decode cX11_between 15 = .ok (.iload 4, 2) := by decide +kernel
theorem dX11_between_17 : decode cX11_between 17 = .ok (.iload 5, 2) := by decide +kernel
theorem dX11_between_19 : decode cX11_between 19 = .ok (.invokevirtual 97, 3) := by decide +kernel
theorem dX11_between_22 : decode cX11_between 22 = .ok (.istore 7, 2) := by decide +kernel
theorem dX11_between_24 : decode cX11_between 24 = .ok (.iload 7, 2) := by decide +kernel
theorem dX11_between_26 : decode cX11_between 26 = .ok (.ifCond .eq 6, 3) := by decide +kernel
theorem dX11_between_29 : decode cX11_between 29 = .ok (.iload 7, 2) := by decide +kernel
theorem dX11_between_31 : decode cX11_between 31 = .ok (.ireturn, 1) := by decide +kernel
theorem dX11_between_32 : decode cX11_between 32 = .ok (.aload_n 0, 1) := by decide +kernel
theorem dX11_between_33 : decode cX11_between 33 = .ok (.getfield 10, 3) := by decide +kernel
theorem dX11_between_36 : decode cX11_between 36 = .ok (.aload 6, 2) := by decide +kernel
theorem dX11_between_38 : decode cX11_between 38 = .ok (.iload_n 2, 1) := by decide +kernel
theorem dX11_between_39 : decode cX11_between 39 = .ok (.iload_n 3, 1) := by decide +kernel
theorem dX11_between_40 : decode cX11_between 40 = .ok (.iload 4, 2) := by decide +kernel
theorem dX11_between_42 : decode cX11_between 42 = .ok (.invokevirtual 105, 3) := by decide +kernel
theorem dX11_between_45 : decode cX11_between 45 = .ok (.ifCond .ne 6, 3) := by decide +kernel
theorem dX11_between_48 : decode cX11_between 48 = .ok (.bipush (-5), 2) := by decide +kernel
theorem dX11_between_50 : decode cX11_between 50 = .ok (.ireturn, 1) := by decide +kernel
theorem dX11_between_51 : decode cX11_between 51 = .ok (.aload_n 0, 1) := by decide +kernel
theorem dX11_between_52 : decode cX11_between 52 = .ok (.getfield 10, 3) := by decide +kernel
theorem dX11_between_55 : decode cX11_between 55 = .ok (.new 83, 3) := by decide +kernel
theorem dX11_between_58 : decode cX11_between 58 = .ok (.dup, 1) := by decide +kernel
theorem dX11_between_59 : decode cX11_between 59 = .ok (.aload 6, 2) := by decide +kernel
theorem dX11_between_61 : decode cX11_between 61 = .ok (.iload_n 2, 1) := by decide +kernel
theorem dX11_between_62 : decode cX11_between 62 = .ok (.iload_n 3, 1) := by decide +kernel
theorem dX11_between_63 : decode cX11_between 63 = .ok (.iload 4, 2) := by decide +kernel
theorem dX11_between_65 : decode cX11_between 65 = .ok (.iload 5, 2) := by decide +kernel
theorem dX11_between_67 : decode cX11_between 67 = .ok (.iload_n 3, 1) := by decide +kernel
theorem dX11_between_68 : decode cX11_between 68 = .ok (.invokespecial 86, 3) := by decide +kernel
theorem dX11_between_71 : decode cX11_between 71 = .ok (.invokevirtual 108, 3) := by decide +kernel
theorem dX11_between_74 : decode cX11_between 74 = .ok (.ireturn, 1) := by decide +kernel
def vc_X11_between (l0 : Nat) (l1 : Int32) (l2 : Int32) (l3 : Int32) (l4 : Int32) (l5 : Int32) (M : mj_M) (post : Int32 → mj_M → Prop) : Prop := mj_tag M l0 = 12 ∧ mj_tag M (mj_r M l0 0) = 5 ∧ vc_X4_find (mj_r M l0 0) l1 M (fun r3 M4 => mj_tag M4 l0 = 12 ∧ vc_X11_refusalOfGrant l0 r3 l2 l3 l4 l5 M4 (fun r6 M7 => if r6 = 0 then (mj_tag M7 l0 = 12 ∧ mj_tag M7 (mj_r M7 l0 0) = 5 ∧ vc_X4_canPutBetween (mj_r M7 l0 0) r3 l2 l3 l4 M7 (fun r11 M12 => if r11 = true then (mj_tag M12 l0 = 12 ∧ ∀ M15 : mj_M, M15 = mj_new M12 3 → (¬ (mj_nx M12) = 0) ∧ vc_X3_init (mj_nx M12) r3 l2 l3 l4 l5 l3 M15 (fun _ M18 => mj_tag M18 (mj_r M12 l0 0) = 5 ∧ vc_X4_putBetween (mj_r M12 l0 0) (mj_nx M12) M18 (fun r20 M21 => post r20 M21))) else (post ((-5)) M12))) else (post r6 M7)))
set_option maxHeartbeats 4000000 in
set_option maxRecDepth 100000 in
theorem ct_X11_between {l : Launch} {base : Nat} {D : va_G} {A : ClassId × ClassId × ClassId} (l0 : Nat) (l1 : Int32) (l2 : Int32) (l3 : Int32) (l4 : Int32) (l5 : Int32) (M : mj_M) (post : Int32 → mj_M → Prop) (h : vc_X11_between l0 l1 l2 l3 l4 l5 M post) : mj_Met l base D A mj_jI yX11_between cX11_between 8 (some .int) rm_X11_between 1 15 [vR l0, vI l1, vI l2, vI l3, vI l4, vI l5] M post := by
  refine mj_entry (by decide +kernel) (Nat.le_of_ble_eq_true rfl) (fun g hC hE h1 h2 h3 h4 => ?_)
  show mj_X g 0 [(0, vR l0), (1, vI l1), (2, vI l2), (3, vI l3), (4, vI l4), (5, vI l5)] [] M 0 0
  simp only [vc_X11_between] at h
  refine mx_aload_n (j := 0) hC dX11_between_0 rfl rfl ?_
  obtain ⟨ht1, h⟩ := h
  refine mx_get (v := vR (mj_r M l0 0)) hC tf_X11_10 ht1 rfl dX11_between_1 ?_
  refine mx_iload_n (j := 1) hC dX11_between_4 rfl rfl ?_
  obtain ⟨ht2, h⟩ := h
  refine mx_callV (inj := mj_jR) (As := [vI l1]) (st := []) hC (ct_X4_find (mj_r M l0 0) l1 M _ h) ty_X4_find tw397 ht2 rfl (Nat.le_of_ble_eq_true rfl) ⟨rfl, rfl, ⟨by decide, by decide⟩, by decide, by decide⟩ dX11_between_5 (fun r3 M4 h => ?_)
  show mj_X g 8 [(0, vR l0), (1, vI l1), (2, vI l2), (3, vI l3), (4, vI l4), (5, vI l5)] [vR r3] M4 0 0
  refine mx_astore (L' := [(6, vR r3), (0, vR l0), (1, vI l1), (2, vI l2), (3, vI l3), (4, vI l4), (5, vI l5)]) hC dX11_between_8 (by decide) rfl ?_
  refine mx_aload_n (j := 1) hC dX11_between_10 rfl rfl ?_
  refine mx_aload (j := 0) hC dX11_between_11 rfl ?_
  refine mx_iload_n (j := 3) hC dX11_between_13 rfl rfl ?_
  refine mx_iload_n (j := 4) hC dX11_between_14 rfl rfl ?_
  refine mx_iload (j := 5) hC dX11_between_15 rfl ?_
  refine mx_iload (j := 6) hC dX11_between_17 rfl ?_
  obtain ⟨ht5, h⟩ := h
  refine mx_callV (inj := mj_jI) (As := [vR r3, vI l2, vI l3, vI l4, vI l5]) (st := []) hC (ct_X11_refusalOfGrant l0 r3 l2 l3 l4 l5 M4 _ h) ty_X11_refusalOfGrant tw401 ht5 rfl (Nat.le_of_ble_eq_true rfl) ⟨rfl, rfl, ⟨by decide, by decide⟩, by decide, by decide⟩ dX11_between_19 (fun r6 M7 h => ?_)
  show mj_X g 22 [(6, vR r3), (0, vR l0), (1, vI l1), (2, vI l2), (3, vI l3), (4, vI l4), (5, vI l5)] [vI r6] M7 0 0
  refine mx_istore (L' := [(7, vI r6), (6, vR r3), (0, vR l0), (1, vI l1), (2, vI l2), (3, vI l3), (4, vI l4), (5, vI l5)]) hC dX11_between_22 (by decide) rfl ?_
  refine mx_iload (j := 0) hC dX11_between_24 rfl ?_
  refine mx_ifeq (tgt := 32) hC dX11_between_26 (by decide) (fun hc8 => ?_) (fun hc8 => ?_)
  · replace h := mj_yy hc8 h
    refine mx_aload_n (j := 2) hC dX11_between_32 rfl rfl ?_
    obtain ⟨ht9, h⟩ := h
    refine mx_get (v := vR (mj_r M7 l0 0)) hC tf_X11_10 ht9 rfl dX11_between_33 ?_
    refine mx_aload (j := 1) hC dX11_between_36 rfl ?_
    refine mx_iload_n (j := 4) hC dX11_between_38 rfl rfl ?_
    refine mx_iload_n (j := 5) hC dX11_between_39 rfl rfl ?_
    refine mx_iload (j := 6) hC dX11_between_40 rfl ?_
    obtain ⟨ht10, h⟩ := h
    refine mx_callV (inj := mj_jB) (As := [vR r3, vI l2, vI l3, vI l4]) (st := []) hC (ct_X4_canPutBetween (mj_r M7 l0 0) r3 l2 l3 l4 M7 _ h) ty_X4_canPutBetween tw439 ht10 rfl (Nat.le_of_ble_eq_true rfl) ⟨rfl, rfl, ⟨by decide, by decide⟩, by decide, by decide⟩ dX11_between_42 (fun r11 M12 h => ?_)
    show mj_X g 45 [(7, vI r6), (6, vR r3), (0, vR l0), (1, vI l1), (2, vI l2), (3, vI l3), (4, vI l4), (5, vI l5)] [vI (mj_b r11)] M12 0 0
    refine mx_ifneB (tgt := 51) hC dX11_between_45 (by decide) (fun hc13 => ?_) (fun hc13 => ?_)
    · replace h := mj_yy hc13 h
      refine mx_aload_n (j := 2) hC dX11_between_51 rfl rfl ?_
      obtain ⟨ht14, h⟩ := h
      refine mx_get (v := vR (mj_r M12 l0 0)) hC tf_X11_10 ht14 rfl dX11_between_52 ?_
      refine mx_new (k' := 1) (n' := 15) hC tk3 tw312 tw313 tw12 ⟨rfl, rfl, by decide, by decide⟩ dX11_between_55 ?_
      obtain ⟨M15, eM15⟩ : ∃ z : mj_M, z = mj_new M12 3 := ⟨_, rfl⟩
      replace h := h M15 eM15
      have ht16 : mj_tag M15 (mj_nx M12) = 4 := by rw [eM15]; exact mj_u1_at _
      refine mx_setM eM15.symm ?_
      refine mx_dup hC dX11_between_58 rfl ?_
      refine mx_aload (j := 1) hC dX11_between_59 rfl ?_
      refine mx_iload_n (j := 4) hC dX11_between_61 rfl rfl ?_
      refine mx_iload_n (j := 5) hC dX11_between_62 rfl rfl ?_
      refine mx_iload (j := 6) hC dX11_between_63 rfl ?_
      refine mx_iload (j := 7) hC dX11_between_65 rfl ?_
      refine mx_iload_n (j := 5) hC dX11_between_67 rfl rfl ?_
      obtain ⟨hn17, h⟩ := h
      refine mx_callI (As := [vR r3, vI l2, vI l3, vI l4, vI l5, vI l3]) (st := [vR (mj_nx M12), vR (mj_r M12 l0 0)]) hC (ct_X3_init (mj_nx M12) r3 l2 l3 l4 l5 l3 M15 _ h) ty_X3_init tw314 hn17 rfl (Nat.le_of_ble_eq_true rfl) ⟨rfl, rfl, ⟨by decide, by decide⟩, by decide, by decide⟩ dX11_between_68 (fun _ M18 h => ?_)
      show mj_X g 71 [(7, vI r6), (6, vR r3), (0, vR l0), (1, vI l1), (2, vI l2), (3, vI l3), (4, vI l4), (5, vI l5)] [vR (mj_nx M12), vR (mj_r M12 l0 0)] M18 1 15
      obtain ⟨ht19, h⟩ := h
      refine mx_callV (inj := mj_jI) (As := [vR (mj_nx M12)]) (st := []) hC (ct_X4_putBetween (mj_r M12 l0 0) (mj_nx M12) M18 _ h) ty_X4_putBetween tw449 ht19 rfl (Nat.le_of_ble_eq_true rfl) ⟨rfl, rfl, ⟨by decide, by decide⟩, by decide, by decide⟩ dX11_between_71 (fun r20 M21 h => ?_)
      show mj_X g 74 [(7, vI r6), (6, vR r3), (0, vR l0), (1, vI l1), (2, vI l2), (3, vI l3), (4, vI l4), (5, vI l5)] [vI r20] M21 1 15
      exact mx_iret hC hE rfl dX11_between_74 h
    · replace h := mj_nn hc13 h
      refine mx_bipush (v := (-5)) hC dX11_between_48 (by decide) ?_
      refine mx_widen (k' := 1) (n' := 15) (by decide) (by decide) ?_
      exact mx_iret hC hE rfl dX11_between_50 h
  · replace h := mj_nn hc8 h
    refine mx_iload (j := 0) hC dX11_between_29 rfl ?_
    refine mx_widen (k' := 1) (n' := 15) (by decide) (by decide) ?_
    exact mx_iret hC hE rfl dX11_between_31 h
theorem tw342 : (Jvm.Cond.fieldLink "LeaseLand" (115 : Nat) "LeaseLand$Holding" "person" "I") ∈ mj_tbl := mj_w 395 (by decide +kernel) (by decide +kernel)
theorem tf_X11_115 : mj_F 3 8 .int false "LeaseLand" 115 := ⟨_, tk3, by decide, rfl, rfl, rfl, tw342⟩
theorem tw345 : (Jvm.Cond.fieldLink "LeaseLand" (118 : Nat) "LeaseLand$Holding" "since" "I") ∈ mj_tbl := mj_w 398 (by decide +kernel) (by decide +kernel)
theorem tf_X11_118 : mj_F 3 9 .int false "LeaseLand" 118 := ⟨_, tk3, by decide, rfl, rfl, rfl, tw345⟩
theorem tw458 : (Jvm.Cond.methodLink "LeaseLand" (111 : Nat) ({ cls := "LeaseLand$Land", name := "isInForce", desc := "(LLeaseLand$Holding;)Z" } : Jvm.MethodName)) ∈ mj_tbl := mj_w 511 (by decide +kernel) (by decide +kernel)
def rm_X11_sell : Room := { frames := 3, cells := 0, slots := 0, locals := 62 }
theorem dX11_sell_0 : decode cX11_sell 0 = .ok (.aload_n 0, 1) := by decide +kernel
theorem dX11_sell_1 : decode cX11_sell 1 = .ok (.getfield 10, 3) := by decide +kernel
theorem dX11_sell_4 : decode cX11_sell 4 = .ok (.iload_n 1, 1) := by decide +kernel
theorem dX11_sell_5 : decode cX11_sell 5 = .ok (.invokevirtual 93, 3) := by decide +kernel
theorem dX11_sell_8 : decode cX11_sell 8 = .ok (.astore_n 3, 1) := by decide +kernel
theorem dX11_sell_9 : decode cX11_sell 9 = .ok (.aload_n 3, 1) := by decide +kernel
theorem dX11_sell_10 : decode cX11_sell 10 = .ok (.ifnull 10, 3) := by decide +kernel
theorem dX11_sell_13 : decode cX11_sell 13 = .ok (.iload_n 2, 1) := by decide +kernel
theorem dX11_sell_14 : decode cX11_sell 14 = .ok (.invokestatic 70, 3) := by decide +kernel
theorem dX11_sell_17 : decode cX11_sell 17 = .ok (.ifCond .ne 5, 3) := by decide +kernel
theorem dX11_sell_20 : decode cX11_sell 20 = .ok (.iconst (-1), 1) := by decide +kernel
theorem dX11_sell_21 : decode cX11_sell 21 = .ok (.ireturn, 1) := by decide +kernel
theorem dX11_sell_22 : decode cX11_sell 22 = .ok (.aload_n 0, 1) := by decide +kernel
theorem dX11_sell_23 : decode cX11_sell 23 = .ok (.getfield 10, 3) := by decide +kernel
theorem dX11_sell_26 : decode cX11_sell 26 = .ok (.aload_n 3, 1) := by decide +kernel
theorem dX11_sell_27 : decode cX11_sell 27 = .ok (.invokevirtual 111, 3) := by decide +kernel
theorem dX11_sell_30 : decode cX11_sell 30 = .ok (.ifCond .ne 6, 3) := by decide +kernel
theorem dX11_sell_33 : decode cX11_sell 33 = .ok (.bipush (-3), 2) := by decide +kernel
theorem dX11_sell_35 : decode cX11_sell 35 = .ok (.ireturn, 1) := by decide +kernel
theorem dX11_sell_36 : decode cX11_sell 36 = .ok (.aload_n 3, 1) := by decide +kernel
theorem dX11_sell_37 : decode cX11_sell 37 = .ok (.getfield 115, 3) := by decide +kernel
theorem dX11_sell_40 : decode cX11_sell 40 = .ok (.istore 4, 2) := by decide +kernel
theorem dX11_sell_42 : decode cX11_sell 42 = .ok (.aload_n 3, 1) := by decide +kernel
theorem dX11_sell_43 : decode cX11_sell 43 = .ok (.iload_n 2, 1) := by decide +kernel
theorem dX11_sell_44 : decode cX11_sell 44 = .ok (.putfield 115, 3) := by decide +kernel
theorem dX11_sell_47 : decode cX11_sell 47 = .ok (.aload_n 3, 1) := by decide +kernel
theorem dX11_sell_48 : decode cX11_sell 48 = .ok (.aload_n 0, 1) := by decide +kernel
theorem dX11_sell_49 : decode cX11_sell 49 = .ok (.getfield 10, 3) := by decide +kernel
theorem dX11_sell_52 : decode cX11_sell 52 = .ok (.getfield 66, 3) := by decide +kernel
theorem dX11_sell_55 : decode cX11_sell 55 = .ok (.putfield 118, 3) := by decide +kernel
theorem dX11_sell_58 : decode cX11_sell 58 = .ok (.iload 4, 2) := by decide +kernel
theorem dX11_sell_60 : decode cX11_sell 60 = .ok (.ireturn, 1) := by decide +kernel
def vc_X11_sell (l0 : Nat) (l1 : Int32) (l2 : Int32) (M : mj_M) (post : Int32 → mj_M → Prop) : Prop := mj_tag M l0 = 12 ∧ mj_tag M (mj_r M l0 0) = 5 ∧ vc_X4_find (mj_r M l0 0) l1 M (fun r3 M4 => if r3 = 0 then (post ((-1)) M4) else (vc_X11_isPerson l2 M4 (fun r6 M7 => if r6 = true then (mj_tag M7 l0 = 12 ∧ mj_tag M7 (mj_r M7 l0 0) = 5 ∧ vc_X4_isInForce (mj_r M7 l0 0) r3 M7 (fun r11 M12 => if r11 = true then (mj_tag M12 r3 = 4 ∧ mj_tag M12 l0 = 12 ∧ mj_tag M12 (mj_r M12 l0 0) = 5 ∧ post (mj_i M12 r3 8) (mj_wi (mj_wi M12 r3 8 l2) r3 9 (mj_i (mj_wi M12 r3 8 l2) (mj_r M12 l0 0) 0))) else (post ((-3)) M12))) else (post ((-1)) M7))))
set_option maxHeartbeats 4000000 in
set_option maxRecDepth 100000 in
theorem ct_X11_sell {l : Launch} {base : Nat} {D : va_G} {A : ClassId × ClassId × ClassId} (l0 : Nat) (l1 : Int32) (l2 : Int32) (M : mj_M) (post : Int32 → mj_M → Prop) (h : vc_X11_sell l0 l1 l2 M post) : mj_Met l base D A mj_jI yX11_sell cX11_sell 5 (some .int) rm_X11_sell 0 0 [vR l0, vI l1, vI l2] M post := by
  refine mj_entry (by decide +kernel) (Nat.le_of_ble_eq_true rfl) (fun g hC hE h1 h2 h3 h4 => ?_)
  show mj_X g 0 [(0, vR l0), (1, vI l1), (2, vI l2)] [] M 0 0
  simp only [vc_X11_sell] at h
  refine mx_aload_n (j := 0) hC dX11_sell_0 rfl rfl ?_
  obtain ⟨ht1, h⟩ := h
  refine mx_get (v := vR (mj_r M l0 0)) hC tf_X11_10 ht1 rfl dX11_sell_1 ?_
  refine mx_iload_n (j := 1) hC dX11_sell_4 rfl rfl ?_
  obtain ⟨ht2, h⟩ := h
  refine mx_callV (inj := mj_jR) (As := [vI l1]) (st := []) hC (ct_X4_find (mj_r M l0 0) l1 M _ h) ty_X4_find tw397 ht2 rfl (Nat.le_of_ble_eq_true rfl) ⟨rfl, rfl, ⟨by decide, by decide⟩, by decide, by decide⟩ dX11_sell_5 (fun r3 M4 h => ?_)
  show mj_X g 8 [(0, vR l0), (1, vI l1), (2, vI l2)] [vR r3] M4 0 0
  refine mx_astore_n (L' := [(3, vR r3), (0, vR l0), (1, vI l1), (2, vI l2)]) hC dX11_sell_8 rfl (by decide) rfl ?_
  refine mx_aload_n (j := 0) hC dX11_sell_9 rfl rfl ?_
  refine mx_ifnull (tgt := 20) hC dX11_sell_10 (by decide) (fun hc5 => ?_) (fun hc5 => ?_)
  · replace h := mj_yy hc5 h
    refine mx_iconst (v := (-1)) hC dX11_sell_20 (by decide) ?_
    exact mx_iret hC hE rfl dX11_sell_21 h
  · replace h := mj_nn hc5 h
    refine mx_iload_n (j := 3) hC dX11_sell_13 rfl rfl ?_
    refine mx_callS (inj := mj_jB) (As := [vI l2]) (st := []) hC (ct_X11_isPerson l2 M4 _ h) ty_X11_isPerson tw298 rfl (Nat.le_of_ble_eq_true rfl) ⟨rfl, rfl, ⟨by decide, by decide⟩, by decide, by decide⟩ dX11_sell_14 (fun r6 M7 h => ?_)
    show mj_X g 17 [(3, vR r3), (0, vR l0), (1, vI l1), (2, vI l2)] [vI (mj_b r6)] M7 0 0
    refine mx_ifneB (tgt := 22) hC dX11_sell_17 (by decide) (fun hc8 => ?_) (fun hc8 => ?_)
    · replace h := mj_yy hc8 h
      refine mx_aload_n (j := 1) hC dX11_sell_22 rfl rfl ?_
      obtain ⟨ht9, h⟩ := h
      refine mx_get (v := vR (mj_r M7 l0 0)) hC tf_X11_10 ht9 rfl dX11_sell_23 ?_
      refine mx_aload_n (j := 0) hC dX11_sell_26 rfl rfl ?_
      obtain ⟨ht10, h⟩ := h
      refine mx_callV (inj := mj_jB) (As := [vR r3]) (st := []) hC (ct_X4_isInForce (mj_r M7 l0 0) r3 M7 _ h) ty_X4_isInForce tw458 ht10 rfl (Nat.le_of_ble_eq_true rfl) ⟨rfl, rfl, ⟨by decide, by decide⟩, by decide, by decide⟩ dX11_sell_27 (fun r11 M12 h => ?_)
      show mj_X g 30 [(3, vR r3), (0, vR l0), (1, vI l1), (2, vI l2)] [vI (mj_b r11)] M12 0 0
      refine mx_ifneB (tgt := 36) hC dX11_sell_30 (by decide) (fun hc13 => ?_) (fun hc13 => ?_)
      · replace h := mj_yy hc13 h
        refine mx_aload_n (j := 0) hC dX11_sell_36 rfl rfl ?_
        obtain ⟨ht14, h⟩ := h
        refine mx_get (v := vI (mj_i M12 r3 8)) hC tf_X11_115 ht14 rfl dX11_sell_37 ?_
        refine mx_istore (L' := [(4, vI (mj_i M12 r3 8)), (3, vR r3), (0, vR l0), (1, vI l1), (2, vI l2)]) hC dX11_sell_40 (by decide) rfl ?_
        refine mx_aload_n (j := 1) hC dX11_sell_42 rfl rfl ?_
        refine mx_iload_n (j := 4) hC dX11_sell_43 rfl rfl ?_
        refine mx_put (v := vI l2) (M1 := mj_wi M12 r3 8 l2) hC tf_X11_115 ht14 (Or.inl rfl) ⟨rfl, rfl⟩ (mj_off_wi _ _ _ _) mj_put_wi dX11_sell_44 ?_
        refine mx_aload_n (j := 1) hC dX11_sell_47 rfl rfl ?_
        refine mx_aload_n (j := 2) hC dX11_sell_48 rfl rfl ?_
        obtain ⟨ht15, h⟩ := h
        refine mx_get (v := vR (mj_r M12 l0 0)) hC tf_X11_10 ht15 rfl dX11_sell_49 ?_
        obtain ⟨ht16, h⟩ := h
        refine mx_get (v := vI (mj_i (mj_wi M12 r3 8 l2) (mj_r M12 l0 0) 0)) hC tf_X11_66 ht16 rfl dX11_sell_52 ?_
        refine mx_put (v := vI (mj_i (mj_wi M12 r3 8 l2) (mj_r M12 l0 0) 0)) (M1 := mj_wi (mj_wi M12 r3 8 l2) r3 9 (mj_i (mj_wi M12 r3 8 l2) (mj_r M12 l0 0) 0)) hC tf_X11_118 ht14 (Or.inl rfl) ⟨rfl, rfl⟩ (mj_off_wi _ _ _ _) mj_put_wi dX11_sell_55 ?_
        refine mx_iload (j := 0) hC dX11_sell_58 rfl ?_
        exact mx_iret hC hE rfl dX11_sell_60 h
      · replace h := mj_nn hc13 h
        refine mx_bipush (v := (-3)) hC dX11_sell_33 (by decide) ?_
        exact mx_iret hC hE rfl dX11_sell_35 h
    · replace h := mj_nn hc8 h
      refine mx_iconst (v := (-1)) hC dX11_sell_20 (by decide) ?_
      exact mx_iret hC hE rfl dX11_sell_21 h
theorem tw470 : (Jvm.Cond.methodLink "LeaseLand" (121 : Nat) ({ cls := "LeaseLand$Land", name := "findLease", desc := "(I)LLeaseLand$Holding;" } : Jvm.MethodName)) ∈ mj_tbl := mj_w 523 (by decide +kernel) (by decide +kernel)
theorem tw475 : (Jvm.Cond.methodLink "LeaseLand" (124 : Nat) ({ cls := "LeaseLand$Land", name := "canSplit", desc := "(LLeaseLand$Holding;I)Z" } : Jvm.MethodName)) ∈ mj_tbl := mj_w 528 (by decide +kernel) (by decide +kernel)
theorem tw480 : (Jvm.Cond.methodLink "LeaseLand" (128 : Nat) ({ cls := "LeaseLand$Land", name := "split", desc := "(LLeaseLand$Holding;II)I" } : Jvm.MethodName)) ∈ mj_tbl := mj_w 533 (by decide +kernel) (by decide +kernel)
theorem tw478 : (Jvm.Cond.code ({ cls := "LeaseLand$Land", name := "canSplit", desc := "(LLeaseLand$Holding;I)Z" } : Jvm.MethodName) prog_6_method_15_code (5 : Nat) (Option.some Jvm.ClassFile.FieldType.boolean)) ∈ mj_tbl := mj_w 531 (by decide +kernel) (by decide +kernel)
theorem tw476 : (Jvm.Cond.instanceMethod ({ cls := "LeaseLand$Land", name := "canSplit", desc := "(LLeaseLand$Holding;I)Z" } : Jvm.MethodName)) ∈ mj_tbl := mj_w 529 (by decide +kernel) (by decide +kernel)
theorem tw477 : (Jvm.Cond.selects "LeaseLand$Land" ({ cls := "LeaseLand$Land", name := "canSplit", desc := "(LLeaseLand$Holding;I)Z" } : Jvm.MethodName) ({ cls := "LeaseLand$Land", name := "canSplit", desc := "(LLeaseLand$Holding;I)Z" } : Jvm.MethodName)) ∈ mj_tbl := mj_w 530 (by decide +kernel) (by decide +kernel)
theorem ty_X4_canSplit : mj_YV 4 yX4_canSplit cX4_canSplit 5 (some .boolean) 2 := ⟨⟨tw478, tw2, by decide +kernel, by decide +kernel, by decide +kernel⟩, tw476, tw477, _, rfl, rfl⟩
theorem tw473 : (Jvm.Cond.code ({ cls := "LeaseLand$Land", name := "findLease", desc := "(I)LLeaseLand$Holding;" } : Jvm.MethodName) prog_6_method_5_code (3 : Nat) (Option.some (Jvm.ClassFile.FieldType.object "LeaseLand$Holding"))) ∈ mj_tbl := mj_w 526 (by decide +kernel) (by decide +kernel)
theorem tw471 : (Jvm.Cond.instanceMethod ({ cls := "LeaseLand$Land", name := "findLease", desc := "(I)LLeaseLand$Holding;" } : Jvm.MethodName)) ∈ mj_tbl := mj_w 524 (by decide +kernel) (by decide +kernel)
theorem tw472 : (Jvm.Cond.selects "LeaseLand$Land" ({ cls := "LeaseLand$Land", name := "findLease", desc := "(I)LLeaseLand$Holding;" } : Jvm.MethodName) ({ cls := "LeaseLand$Land", name := "findLease", desc := "(I)LLeaseLand$Holding;" } : Jvm.MethodName)) ∈ mj_tbl := mj_w 525 (by decide +kernel) (by decide +kernel)
theorem ty_X4_findLease : mj_YV 4 yX4_findLease cX4_findLease 3 (some (.object "LeaseLand$Holding")) 1 := ⟨⟨tw473, tw2, by decide +kernel, by decide +kernel, by decide +kernel⟩, tw471, tw472, _, rfl, rfl⟩
theorem tw483 : (Jvm.Cond.code ({ cls := "LeaseLand$Land", name := "split", desc := "(LLeaseLand$Holding;II)I" } : Jvm.MethodName) prog_6_method_16_code (7 : Nat) (Option.some Jvm.ClassFile.FieldType.int)) ∈ mj_tbl := mj_w 536 (by decide +kernel) (by decide +kernel)
theorem tw481 : (Jvm.Cond.instanceMethod ({ cls := "LeaseLand$Land", name := "split", desc := "(LLeaseLand$Holding;II)I" } : Jvm.MethodName)) ∈ mj_tbl := mj_w 534 (by decide +kernel) (by decide +kernel)
theorem tw482 : (Jvm.Cond.selects "LeaseLand$Land" ({ cls := "LeaseLand$Land", name := "split", desc := "(LLeaseLand$Holding;II)I" } : Jvm.MethodName) ({ cls := "LeaseLand$Land", name := "split", desc := "(LLeaseLand$Holding;II)I" } : Jvm.MethodName)) ∈ mj_tbl := mj_w 535 (by decide +kernel) (by decide +kernel)
theorem ty_X4_split : mj_YV 4 yX4_split cX4_split 7 (some .int) 3 := ⟨⟨tw483, tw2, by decide +kernel, by decide +kernel, by decide +kernel⟩, tw481, tw482, _, rfl, rfl⟩
def rm_X11_part : Room := { frames := 3, cells := 1, slots := 15, locals := 72 }
theorem dX11_part_0 : decode cX11_part 0 = .ok (.aload_n 0, 1) := by decide +kernel
theorem dX11_part_1 : decode cX11_part 1 = .ok (.getfield 10, 3) := by decide +kernel
theorem dX11_part_4 : decode cX11_part 4 = .ok (.iload_n 1, 1) := by decide +kernel
theorem dX11_part_5 : decode cX11_part 5 = .ok (.invokevirtual 121, 3) := by decide +kernel
theorem dX11_part_8 : decode cX11_part 8 = .ok (.astore 4, 2) := by decide +kernel
theorem dX11_part_10 : decode cX11_part 10 = .ok (.aload 4, 2) := by decide +kernel
theorem dX11_part_12 : decode cX11_part 12 = .ok (.ifnull 10, 3) := by decide +kernel
theorem dX11_part_15 : decode cX11_part 15 = .ok (.iload_n 3, 1) := by decide +kernel
theorem dX11_part_16 : decode cX11_part 16 = .ok (.invokestatic 70, 3) := by decide +kernel
theorem dX11_part_19 : decode cX11_part 19 = .ok (.ifCond .ne 5, 3) := by decide +kernel
theorem dX11_part_22 : decode cX11_part 22 = .ok (.iconst (-1), 1) := by decide +kernel
theorem dX11_part_23 : decode cX11_part 23 = .ok (.ireturn, 1) := by decide +kernel
theorem dX11_part_24 : decode cX11_part 24 = .ok (.iload_n 2, 1) := by decide +kernel
theorem dX11_part_25 : decode cX11_part 25 = .ok (.invokestatic 73, 3) := by decide +kernel
theorem dX11_part_28 : decode cX11_part 28 = .ok (.ifCond .ne 6, 3) := by decide +kernel
theorem dX11_part_31 : decode cX11_part 31 = .ok (.bipush (-2), 2) := by decide +kernel
theorem dX11_part_33 : decode cX11_part 33 = .ok (.ireturn, 1) := by decide +kernel
theorem dX11_part_34 : decode cX11_part 34 = .ok (.aload_n 0, 1) := by decide +kernel
theorem dX11_part_35 : decode cX11_part 35 = .ok (.getfield 10, 3) := by decide +kernel
theorem dX11_part_38 : decode cX11_part 38 = .ok (.aload 4, 2) := by decide +kernel
theorem dX11_part_40 : decode cX11_part 40 = .ok (.invokevirtual 111, 3) := by decide +kernel
theorem dX11_part_43 : decode cX11_part 43 = .ok (.ifCond .ne 6, 3) := by decide +kernel
theorem dX11_part_46 : decode cX11_part 46 = .ok (.bipush (-3), 2) := by decide +kernel
theorem dX11_part_48 : decode cX11_part 48 = .ok (.ireturn, 1) := by decide +kernel
theorem dX11_part_49 : decode cX11_part 49 = .ok (.aload_n 0, 1) := by decide +kernel
theorem dX11_part_50 : decode cX11_part 50 = .ok (.getfield 10, 3) := by decide +kernel
theorem dX11_part_53 : decode cX11_part 53 = .ok (.invokevirtual 76, 3) := by decide +kernel
theorem dX11_part_56 : decode cX11_part 56 = .ok (.ifCond .eq 6, 3) := by decide +kernel
theorem dX11_part_59 : decode cX11_part 59 = .ok (.bipush (-4), 2) := by decide +kernel
theorem dX11_part_61 : decode cX11_part 61 = .ok (.ireturn, 1) := by decide +kernel
theorem dX11_part_62 : decode cX11_part 62 = .ok (.aload_n 0, 1) := by decide +kernel
theorem dX11_part_63 : decode cX11_part 63 = .ok (.getfield 10, 3) := by decide +kernel
theorem dX11_part_66 : decode cX11_part 66 = .ok (.aload 4, 2) := by decide +kernel
theorem dX11_part_68 : decode cX11_part 68 = .ok (.iload_n 2, 1) := by decide +kernel
theorem dX11_part_69 : decode cX11_part 69 = .ok (.invokevirtual 124, 3) := by decide +kernel
theorem dX11_part_72 : decode cX11_part 72 = .ok (.ifCond .eq 17, 3) := by decide +kernel
theorem dX11_part_75 : decode cX11_part 75 = .ok (.aload_n 0, 1) := by decide +kernel
theorem dX11_part_76 : decode cX11_part 76 = .ok (.getfield 10, 3) := by decide +kernel
theorem dX11_part_79 : decode cX11_part 79 = .ok (.aload 4, 2) := by decide +kernel
theorem dX11_part_81 : decode cX11_part 81 = .ok (.iload_n 2, 1) := by decide +kernel
theorem dX11_part_82 : decode cX11_part 82 = .ok (.iload_n 3, 1) := by decide +kernel
theorem dX11_part_83 : decode cX11_part 83 = .ok (.invokevirtual 128, 3) := by decide +kernel
theorem dX11_part_86 : decode cX11_part 86 = .ok (.goto 5, 3) := by decide +kernel
theorem dX11_part_89 : decode cX11_part 89 = .ok (.bipush (-5), 2) := by decide +kernel
theorem dX11_part_91 : decode cX11_part 91 = .ok (.ireturn, 1) := by decide +kernel
def vc_X11_part (l0 : Nat) (l1 : Int32) (l2 : Int32) (l3 : Int32) (M : mj_M) (post : Int32 → mj_M → Prop) : Prop := mj_tag M l0 = 12 ∧ mj_tag M (mj_r M l0 0) = 5 ∧ vc_X4_findLease (mj_r M l0 0) l1 M (fun r3 M4 => if r3 = 0 then (post ((-1)) M4) else (vc_X11_isPerson l3 M4 (fun r6 M7 => if r6 = true then (vc_X11_isFloors l2 M7 (fun r9 M10 => if r9 = true then (mj_tag M10 l0 = 12 ∧ mj_tag M10 (mj_r M10 l0 0) = 5 ∧ vc_X4_isInForce (mj_r M10 l0 0) r3 M10 (fun r14 M15 => if r14 = true then (mj_tag M15 l0 = 12 ∧ mj_tag M15 (mj_r M15 l0 0) = 5 ∧ vc_X4_isFull (mj_r M15 l0 0) M15 (fun r19 M20 => if r19 = true then (post ((-4)) M20) else (mj_tag M20 l0 = 12 ∧ mj_tag M20 (mj_r M20 l0 0) = 5 ∧ vc_X4_canSplit (mj_r M20 l0 0) r3 l2 M20 (fun r24 M25 => if r24 = true then (mj_tag M25 l0 = 12 ∧ mj_tag M25 (mj_r M25 l0 0) = 5 ∧ vc_X4_split (mj_r M25 l0 0) r3 l2 l3 M25 (fun r29 M30 => post r29 M30)) else (post ((-5)) M25))))) else (post ((-3)) M15))) else (post ((-2)) M10))) else (post ((-1)) M7))))
set_option maxHeartbeats 4000000 in
set_option maxRecDepth 100000 in
theorem ct_X11_part {l : Launch} {base : Nat} {D : va_G} {A : ClassId × ClassId × ClassId} (l0 : Nat) (l1 : Int32) (l2 : Int32) (l3 : Int32) (M : mj_M) (post : Int32 → mj_M → Prop) (h : vc_X11_part l0 l1 l2 l3 M post) : mj_Met l base D A mj_jI yX11_part cX11_part 5 (some .int) rm_X11_part 1 15 [vR l0, vI l1, vI l2, vI l3] M post := by
  refine mj_entry (by decide +kernel) (Nat.le_of_ble_eq_true rfl) (fun g hC hE h1 h2 h3 h4 => ?_)
  show mj_X g 0 [(0, vR l0), (1, vI l1), (2, vI l2), (3, vI l3)] [] M 0 0
  simp only [vc_X11_part] at h
  refine mx_aload_n (j := 0) hC dX11_part_0 rfl rfl ?_
  obtain ⟨ht1, h⟩ := h
  refine mx_get (v := vR (mj_r M l0 0)) hC tf_X11_10 ht1 rfl dX11_part_1 ?_
  refine mx_iload_n (j := 1) hC dX11_part_4 rfl rfl ?_
  obtain ⟨ht2, h⟩ := h
  refine mx_callV (inj := mj_jR) (As := [vI l1]) (st := []) hC (ct_X4_findLease (mj_r M l0 0) l1 M _ h) ty_X4_findLease tw470 ht2 rfl (Nat.le_of_ble_eq_true rfl) ⟨rfl, rfl, ⟨by decide, by decide⟩, by decide, by decide⟩ dX11_part_5 (fun r3 M4 h => ?_)
  show mj_X g 8 [(0, vR l0), (1, vI l1), (2, vI l2), (3, vI l3)] [vR r3] M4 0 0
  refine mx_astore (L' := [(4, vR r3), (0, vR l0), (1, vI l1), (2, vI l2), (3, vI l3)]) hC dX11_part_8 (by decide) rfl ?_
  refine mx_aload (j := 0) hC dX11_part_10 rfl ?_
  refine mx_ifnull (tgt := 22) hC dX11_part_12 (by decide) (fun hc5 => ?_) (fun hc5 => ?_)
  · replace h := mj_yy hc5 h
    refine mx_iconst (v := (-1)) hC dX11_part_22 (by decide) ?_
    refine mx_widen (k' := 1) (n' := 15) (by decide) (by decide) ?_
    exact mx_iret hC hE rfl dX11_part_23 h
  · replace h := mj_nn hc5 h
    refine mx_iload_n (j := 4) hC dX11_part_15 rfl rfl ?_
    refine mx_callS (inj := mj_jB) (As := [vI l3]) (st := []) hC (ct_X11_isPerson l3 M4 _ h) ty_X11_isPerson tw298 rfl (Nat.le_of_ble_eq_true rfl) ⟨rfl, rfl, ⟨by decide, by decide⟩, by decide, by decide⟩ dX11_part_16 (fun r6 M7 h => ?_)
    show mj_X g 19 [(4, vR r3), (0, vR l0), (1, vI l1), (2, vI l2), (3, vI l3)] [vI (mj_b r6)] M7 0 0
    refine mx_ifneB (tgt := 24) hC dX11_part_19 (by decide) (fun hc8 => ?_) (fun hc8 => ?_)
    · replace h := mj_yy hc8 h
      refine mx_iload_n (j := 3) hC dX11_part_24 rfl rfl ?_
      refine mx_callS (inj := mj_jB) (As := [vI l2]) (st := []) hC (ct_X11_isFloors l2 M7 _ h) ty_X11_isFloors tw301 rfl (Nat.le_of_ble_eq_true rfl) ⟨rfl, rfl, ⟨by decide, by decide⟩, by decide, by decide⟩ dX11_part_25 (fun r9 M10 h => ?_)
      show mj_X g 28 [(4, vR r3), (0, vR l0), (1, vI l1), (2, vI l2), (3, vI l3)] [vI (mj_b r9)] M10 0 0
      refine mx_ifneB (tgt := 34) hC dX11_part_28 (by decide) (fun hc11 => ?_) (fun hc11 => ?_)
      · replace h := mj_yy hc11 h
        refine mx_aload_n (j := 1) hC dX11_part_34 rfl rfl ?_
        obtain ⟨ht12, h⟩ := h
        refine mx_get (v := vR (mj_r M10 l0 0)) hC tf_X11_10 ht12 rfl dX11_part_35 ?_
        refine mx_aload (j := 0) hC dX11_part_38 rfl ?_
        obtain ⟨ht13, h⟩ := h
        refine mx_callV (inj := mj_jB) (As := [vR r3]) (st := []) hC (ct_X4_isInForce (mj_r M10 l0 0) r3 M10 _ h) ty_X4_isInForce tw458 ht13 rfl (Nat.le_of_ble_eq_true rfl) ⟨rfl, rfl, ⟨by decide, by decide⟩, by decide, by decide⟩ dX11_part_40 (fun r14 M15 h => ?_)
        show mj_X g 43 [(4, vR r3), (0, vR l0), (1, vI l1), (2, vI l2), (3, vI l3)] [vI (mj_b r14)] M15 0 0
        refine mx_ifneB (tgt := 49) hC dX11_part_43 (by decide) (fun hc16 => ?_) (fun hc16 => ?_)
        · replace h := mj_yy hc16 h
          refine mx_aload_n (j := 1) hC dX11_part_49 rfl rfl ?_
          obtain ⟨ht17, h⟩ := h
          refine mx_get (v := vR (mj_r M15 l0 0)) hC tf_X11_10 ht17 rfl dX11_part_50 ?_
          obtain ⟨ht18, h⟩ := h
          refine mx_callV (inj := mj_jB) (As := []) (st := []) hC (ct_X4_isFull (mj_r M15 l0 0) M15 _ h) ty_X4_isFull tw304 ht18 rfl (Nat.le_of_ble_eq_true rfl) ⟨rfl, rfl, ⟨by decide, by decide⟩, by decide, by decide⟩ dX11_part_53 (fun r19 M20 h => ?_)
          show mj_X g 56 [(4, vR r3), (0, vR l0), (1, vI l1), (2, vI l2), (3, vI l3)] [vI (mj_b r19)] M20 0 0
          refine mx_ifeqB (tgt := 62) hC dX11_part_56 (by decide) (fun hc21 => ?_) (fun hc21 => ?_)
          · replace h := mj_nn hc21 h
            refine mx_aload_n (j := 1) hC dX11_part_62 rfl rfl ?_
            obtain ⟨ht22, h⟩ := h
            refine mx_get (v := vR (mj_r M20 l0 0)) hC tf_X11_10 ht22 rfl dX11_part_63 ?_
            refine mx_aload (j := 0) hC dX11_part_66 rfl ?_
            refine mx_iload_n (j := 3) hC dX11_part_68 rfl rfl ?_
            obtain ⟨ht23, h⟩ := h
            refine mx_callV (inj := mj_jB) (As := [vR r3, vI l2]) (st := []) hC (ct_X4_canSplit (mj_r M20 l0 0) r3 l2 M20 _ h) ty_X4_canSplit tw475 ht23 rfl (Nat.le_of_ble_eq_true rfl) ⟨rfl, rfl, ⟨by decide, by decide⟩, by decide, by decide⟩ dX11_part_69 (fun r24 M25 h => ?_)
            show mj_X g 72 [(4, vR r3), (0, vR l0), (1, vI l1), (2, vI l2), (3, vI l3)] [vI (mj_b r24)] M25 0 0
            refine mx_ifeqB (tgt := 89) hC dX11_part_72 (by decide) (fun hc26 => ?_) (fun hc26 => ?_)
            · replace h := mj_nn hc26 h
              refine mx_bipush (v := (-5)) hC dX11_part_89 (by decide) ?_
              refine mx_widen (k' := 1) (n' := 15) (by decide) (by decide) ?_
              exact mx_iret hC hE rfl dX11_part_91 h
            · replace h := mj_yy hc26 h
              refine mx_aload_n (j := 1) hC dX11_part_75 rfl rfl ?_
              obtain ⟨ht27, h⟩ := h
              refine mx_get (v := vR (mj_r M25 l0 0)) hC tf_X11_10 ht27 rfl dX11_part_76 ?_
              refine mx_aload (j := 0) hC dX11_part_79 rfl ?_
              refine mx_iload_n (j := 3) hC dX11_part_81 rfl rfl ?_
              refine mx_iload_n (j := 4) hC dX11_part_82 rfl rfl ?_
              obtain ⟨ht28, h⟩ := h
              refine mx_callV (inj := mj_jI) (As := [vR r3, vI l2, vI l3]) (st := []) hC (ct_X4_split (mj_r M25 l0 0) r3 l2 l3 M25 _ h) ty_X4_split tw480 ht28 rfl (Nat.le_of_ble_eq_true rfl) ⟨rfl, rfl, ⟨by decide, by decide⟩, by decide, by decide⟩ dX11_part_83 (fun r29 M30 h => ?_)
              show mj_X g 86 [(4, vR r3), (0, vR l0), (1, vI l1), (2, vI l2), (3, vI l3)] [vI r29] M30 1 15
              refine mx_goto (tgt := 91) hC dX11_part_86 (by decide) ?_
              exact mx_iret hC hE rfl dX11_part_91 h
          · replace h := mj_yy hc21 h
            refine mx_bipush (v := (-4)) hC dX11_part_59 (by decide) ?_
            refine mx_widen (k' := 1) (n' := 15) (by decide) (by decide) ?_
            exact mx_iret hC hE rfl dX11_part_61 h
        · replace h := mj_nn hc16 h
          refine mx_bipush (v := (-3)) hC dX11_part_46 (by decide) ?_
          refine mx_widen (k' := 1) (n' := 15) (by decide) (by decide) ?_
          exact mx_iret hC hE rfl dX11_part_48 h
      · replace h := mj_nn hc11 h
        refine mx_bipush (v := (-2)) hC dX11_part_31 (by decide) ?_
        refine mx_widen (k' := 1) (n' := 15) (by decide) (by decide) ?_
        exact mx_iret hC hE rfl dX11_part_33 h
    · replace h := mj_nn hc8 h
      refine mx_iconst (v := (-1)) hC dX11_part_22 (by decide) ?_
      refine mx_widen (k' := 1) (n' := 15) (by decide) (by decide) ?_
      exact mx_iret hC hE rfl dX11_part_23 h
theorem tw323 : (Jvm.Cond.fieldLink "LeaseLand" (132 : Nat) "LeaseLand$Holding" "out" "LLeaseLand$Holding;") ∈ mj_tbl := mj_w 376 (by decide +kernel) (by decide +kernel)
theorem tf_X11_132 : mj_F 3 2 (.object "LeaseLand$Holding") false "LeaseLand" 132 := ⟨_, tk3, by decide, rfl, rfl, rfl, tw323⟩
theorem tw494 : (Jvm.Cond.methodLink "LeaseLand" (136 : Nat) ({ cls := "LeaseLand$Land", name := "close", desc := "(LLeaseLand$Holding;I)V" } : Jvm.MethodName)) ∈ mj_tbl := mj_w 547 (by decide +kernel) (by decide +kernel)
theorem tw498 : (Jvm.Cond.methodLink "LeaseLand" (140 : Nat) ({ cls := "LeaseLand$Land", name := "handOver", desc := "(LLeaseLand$Holding;LLeaseLand$Holding;)I" } : Jvm.MethodName)) ∈ mj_tbl := mj_w 551 (by decide +kernel) (by decide +kernel)
def rm_X11_end : Room := { frames := 3, cells := 0, slots := 0, locals := 62 }
theorem dX11_end_0 : decode cX11_end 0 = .ok (.aload_n 0, 1) := by decide +kernel
theorem dX11_end_1 : decode cX11_end 1 = .ok (.getfield 10, 3) := by decide +kernel
theorem dX11_end_4 : decode cX11_end 4 = .ok (.iload_n 1, 1) := by decide +kernel
theorem dX11_end_5 : decode cX11_end 5 = .ok (.invokevirtual 93, 3) := by decide +kernel
theorem dX11_end_8 : decode cX11_end 8 = .ok (.astore_n 3, 1) := by decide +kernel
theorem dX11_end_9 : decode cX11_end 9 = .ok (.aload_n 3, 1) := by decide +kernel
theorem dX11_end_10 : decode cX11_end 10 = .ok (.ifnull 10, 3) := by decide +kernel
theorem dX11_end_13 : decode cX11_end 13 = .ok (.aload_n 3, 1) := by decide +kernel
theorem dX11_end_14 : decode cX11_end 14 = .ok (.getfield 132, 3) := by decide +kernel
theorem dX11_end_17 : decode cX11_end 17 = .ok (.ifnonnull 5, 3) := by decide +kernel
theorem dX11_end_20 : decode cX11_end 20 = .ok (.iconst (-1), 1) := by decide +kernel
theorem dX11_end_21 : decode cX11_end 21 = .ok (.ireturn, 1) := by decide +kernel
theorem dX11_end_22 : decode cX11_end 22 = .ok (.iload_n 2, 1) := by decide +kernel
theorem dX11_end_23 : decode cX11_end 23 = .ok (.iconst 1, 1) := by decide +kernel
theorem dX11_end_24 : decode cX11_end 24 = .ok (.if_icmp .eq 11, 3) := by decide +kernel
theorem dX11_end_27 : decode cX11_end 27 = .ok (.iload_n 2, 1) := by decide +kernel
theorem dX11_end_28 : decode cX11_end 28 = .ok (.iconst 3, 1) := by decide +kernel
theorem dX11_end_29 : decode cX11_end 29 = .ok (.if_icmp .eq 6, 3) := by decide +kernel
theorem dX11_end_32 : decode cX11_end 32 = .ok (.bipush (-2), 2) := by decide +kernel
theorem dX11_end_34 : decode cX11_end 34 = .ok (.ireturn, 1) := by decide +kernel
theorem dX11_end_35 : decode cX11_end 35 = .ok (.aload_n 0, 1) := by decide +kernel
theorem dX11_end_36 : decode cX11_end 36 = .ok (.getfield 10, 3) := by decide +kernel
theorem dX11_end_39 : decode cX11_end 39 = .ok (.aload_n 3, 1) := by decide +kernel
theorem dX11_end_40 : decode cX11_end 40 = .ok (.invokevirtual 111, 3) := by decide +kernel
theorem dX11_end_43 : decode cX11_end 43 = .ok (.ifCond .ne 6, 3) := by decide +kernel
theorem dX11_end_46 : decode cX11_end 46 = .ok (.bipush (-3), 2) := by decide +kernel
theorem dX11_end_48 : decode cX11_end 48 = .ok (.ireturn, 1) := by decide +kernel
theorem dX11_end_49 : decode cX11_end 49 = .ok (.iload_n 2, 1) := by decide +kernel
theorem dX11_end_50 : decode cX11_end 50 = .ok (.iconst 3, 1) := by decide +kernel
theorem dX11_end_51 : decode cX11_end 51 = .ok (.if_icmp .ne 20, 3) := by decide +kernel
theorem dX11_end_54 : decode cX11_end 54 = .ok (.aload_n 3, 1) := by decide +kernel
theorem dX11_end_55 : decode cX11_end 55 = .ok (.getfield 115, 3) := by decide +kernel
theorem dX11_end_58 : decode cX11_end 58 = .ok (.aload_n 3, 1) := by decide +kernel
theorem dX11_end_59 : decode cX11_end 59 = .ok (.getfield 132, 3) := by decide +kernel
theorem dX11_end_62 : decode cX11_end 62 = .ok (.getfield 115, 3) := by decide +kernel
theorem dX11_end_65 : decode cX11_end 65 = .ok (.if_icmp .eq 6, 3) := by decide +kernel
theorem dX11_end_68 : decode cX11_end 68 = .ok (.bipush (-5), 2) := by decide +kernel
theorem dX11_end_70 : decode cX11_end 70 = .ok (.ireturn, 1) := by decide +kernel
theorem dX11_end_71 : decode cX11_end 71 = .ok (.aload_n 0, 1) := by decide +kernel
theorem dX11_end_72 : decode cX11_end 72 = .ok (.getfield 10, 3) := by decide +kernel
theorem dX11_end_75 : decode cX11_end 75 = .ok (.aload_n 3, 1) := by decide +kernel
theorem dX11_end_76 : decode cX11_end 76 = .ok (.iload_n 2, 1) := by decide +kernel
theorem dX11_end_77 : decode cX11_end 77 = .ok (.invokevirtual 136, 3) := by decide +kernel
theorem dX11_end_80 : decode cX11_end 80 = .ok (.aload_n 0, 1) := by decide +kernel
theorem dX11_end_81 : decode cX11_end 81 = .ok (.getfield 10, 3) := by decide +kernel
theorem dX11_end_84 : decode cX11_end 84 = .ok (.aload_n 3, 1) := by decide +kernel
theorem dX11_end_85 : decode cX11_end 85 = .ok (.aload_n 3, 1) := by decide +kernel
theorem dX11_end_86 : decode cX11_end 86 = .ok (.getfield 132, 3) := by decide +kernel
theorem dX11_end_89 : decode cX11_end 89 = .ok (.invokevirtual 140, 3) := by decide +kernel
theorem dX11_end_92 : decode cX11_end 92 = .ok (.ireturn, 1) := by decide +kernel
def vb_X11_end_71 (post : Int32 → mj_M → Prop) (l0 : Nat) (l2 : Int32) (l3 : Nat) (M : mj_M) : Prop := mj_tag M l0 = 12 ∧ mj_tag M (mj_r M l0 0) = 5 ∧ vc_X4_close (mj_r M l0 0) l3 l2 M (fun _ M3 => mj_tag M3 l0 = 12 ∧ mj_tag M3 l3 = 4 ∧ mj_tag M3 (mj_r M3 l0 0) = 5 ∧ vc_X4_handOver (mj_r M3 l0 0) l3 (mj_r M3 l3 2) M3 (fun r7 M8 => post r7 M8))
def vb_X11_end_35 (post : Int32 → mj_M → Prop) (l0 : Nat) (l2 : Int32) (l3 : Nat) (M : mj_M) : Prop := mj_tag M l0 = 12 ∧ mj_tag M (mj_r M l0 0) = 5 ∧ vc_X4_isInForce (mj_r M l0 0) l3 M (fun r11 M12 => if r11 = true then (if l2 = 3 then (mj_tag M12 l3 = 4 ∧ mj_tag M12 (mj_r M12 l3 2) = 4 ∧ if (mj_i M12 l3 8) = (mj_i M12 (mj_r M12 l3 2) 8) then (vb_X11_end_71 post l0 l2 l3 M12) else (post ((-5)) M12)) else (vb_X11_end_71 post l0 l2 l3 M12)) else (post ((-3)) M12))
def vc_X11_end (l0 : Nat) (l1 : Int32) (l2 : Int32) (M : mj_M) (post : Int32 → mj_M → Prop) : Prop := mj_tag M l0 = 12 ∧ mj_tag M (mj_r M l0 0) = 5 ∧ vc_X4_find (mj_r M l0 0) l1 M (fun r20 M21 => if r20 = 0 then (post ((-1)) M21) else (mj_tag M21 r20 = 4 ∧ if (mj_r M21 r20 2) = 0 then (post ((-1)) M21) else (if l2 = 1 then (vb_X11_end_35 post l0 l2 r20 M21) else (if l2 = 3 then (vb_X11_end_35 post l0 l2 r20 M21) else (post ((-2)) M21)))))
set_option maxHeartbeats 4000000 in
set_option maxRecDepth 100000 in
theorem xb_X11_end_71 {g : mj_G} {post : Int32 → mj_M → Prop} (hC : mj_C g yX11_end cX11_end 4 (some .int) rm_X11_end) (hE : mj_E g mj_jI post 0 0) (l0 : Nat) (l2 : Int32) (l3 : Nat) (M : mj_M) (h : vb_X11_end_71 post l0 l2 l3 M) : mj_X g 71 [(0, vR l0), (2, vI l2), (3, vR l3)] [] M 0 0 := by
  simp only [vb_X11_end_71] at h
  refine mx_aload_n (j := 0) hC dX11_end_71 rfl rfl ?_
  obtain ⟨ht1, h⟩ := h
  refine mx_get (v := vR (mj_r M l0 0)) hC tf_X11_10 ht1 rfl dX11_end_72 ?_
  refine mx_aload_n (j := 2) hC dX11_end_75 rfl rfl ?_
  refine mx_iload_n (j := 1) hC dX11_end_76 rfl rfl ?_
  obtain ⟨ht2, h⟩ := h
  refine mx_callV (inj := mj_jV) (As := [vR l3, vI l2]) (st := []) hC (ct_X4_close (mj_r M l0 0) l3 l2 M _ h) ty_X4_close tw494 ht2 rfl (Nat.le_of_ble_eq_true rfl) ⟨rfl, rfl, ⟨by decide, by decide⟩, by decide, by decide⟩ dX11_end_77 (fun _ M3 h => ?_)
  show mj_X g 80 [(0, vR l0), (2, vI l2), (3, vR l3)] [] M3 0 0
  refine mx_aload_n (j := 0) hC dX11_end_80 rfl rfl ?_
  obtain ⟨ht4, h⟩ := h
  refine mx_get (v := vR (mj_r M3 l0 0)) hC tf_X11_10 ht4 rfl dX11_end_81 ?_
  refine mx_aload_n (j := 2) hC dX11_end_84 rfl rfl ?_
  refine mx_aload_n (j := 2) hC dX11_end_85 rfl rfl ?_
  obtain ⟨ht5, h⟩ := h
  refine mx_get (v := vR (mj_r M3 l3 2)) hC tf_X11_132 ht5 rfl dX11_end_86 ?_
  obtain ⟨ht6, h⟩ := h
  refine mx_callV (inj := mj_jI) (As := [vR l3, vR (mj_r M3 l3 2)]) (st := []) hC (ct_X4_handOver (mj_r M3 l0 0) l3 (mj_r M3 l3 2) M3 _ h) ty_X4_handOver tw498 ht6 rfl (Nat.le_of_ble_eq_true rfl) ⟨rfl, rfl, ⟨by decide, by decide⟩, by decide, by decide⟩ dX11_end_89 (fun r7 M8 h => ?_)
  show mj_X g 92 [(0, vR l0), (2, vI l2), (3, vR l3)] [vI r7] M8 0 0
  exact mx_iret hC hE rfl dX11_end_92 h
set_option maxHeartbeats 4000000 in
set_option maxRecDepth 100000 in
theorem xb_X11_end_35 {g : mj_G} {post : Int32 → mj_M → Prop} (hC : mj_C g yX11_end cX11_end 4 (some .int) rm_X11_end) (hE : mj_E g mj_jI post 0 0) (l0 : Nat) (l2 : Int32) (l3 : Nat) (M : mj_M) (h : vb_X11_end_35 post l0 l2 l3 M) : mj_X g 35 [(0, vR l0), (2, vI l2), (3, vR l3)] [] M 0 0 := by
  simp only [vb_X11_end_35] at h
  refine mx_aload_n (j := 0) hC dX11_end_35 rfl rfl ?_
  obtain ⟨ht9, h⟩ := h
  refine mx_get (v := vR (mj_r M l0 0)) hC tf_X11_10 ht9 rfl dX11_end_36 ?_
  refine mx_aload_n (j := 2) hC dX11_end_39 rfl rfl ?_
  obtain ⟨ht10, h⟩ := h
  refine mx_callV (inj := mj_jB) (As := [vR l3]) (st := []) hC (ct_X4_isInForce (mj_r M l0 0) l3 M _ h) ty_X4_isInForce tw458 ht10 rfl (Nat.le_of_ble_eq_true rfl) ⟨rfl, rfl, ⟨by decide, by decide⟩, by decide, by decide⟩ dX11_end_40 (fun r11 M12 h => ?_)
  show mj_X g 43 [(0, vR l0), (2, vI l2), (3, vR l3)] [vI (mj_b r11)] M12 0 0
  refine mx_ifneB (tgt := 49) hC dX11_end_43 (by decide) (fun hc13 => ?_) (fun hc13 => ?_)
  · replace h := mj_yy hc13 h
    refine mx_iload_n (j := 1) hC dX11_end_49 rfl rfl ?_
    refine mx_iconst (v := 3) hC dX11_end_50 (by decide) ?_
    refine mx_icmpne (tgt := 71) hC dX11_end_51 (by decide) (fun hc14 => ?_) (fun hc14 => ?_)
    · replace h := mj_nn hc14 h
      refine mx_sub (L' := [(0, vR l0), (2, vI l2), (3, vR l3)]) [0, 1, 2] rfl ?_
      exact show mj_X g 71 [(0, vR l0), (2, vI l2), (3, vR l3)] [] M12 0 0 from (xb_X11_end_71 hC hE l0 l2 l3 M12 h)
    · replace h := mj_yy hc14 h
      refine mx_aload_n (j := 2) hC dX11_end_54 rfl rfl ?_
      obtain ⟨ht15, h⟩ := h
      refine mx_get (v := vI (mj_i M12 l3 8)) hC tf_X11_115 ht15 rfl dX11_end_55 ?_
      refine mx_aload_n (j := 2) hC dX11_end_58 rfl rfl ?_
      refine mx_get (v := vR (mj_r M12 l3 2)) hC tf_X11_132 ht15 rfl dX11_end_59 ?_
      obtain ⟨ht16, h⟩ := h
      refine mx_get (v := vI (mj_i M12 (mj_r M12 l3 2) 8)) hC tf_X11_115 ht16 rfl dX11_end_62 ?_
      refine mx_icmpeq (tgt := 71) hC dX11_end_65 (by decide) (fun hc17 => ?_) (fun hc17 => ?_)
      · replace h := mj_yy hc17 h
        refine mx_sub (L' := [(0, vR l0), (2, vI l2), (3, vR l3)]) [0, 1, 2] rfl ?_
        exact show mj_X g 71 [(0, vR l0), (2, vI l2), (3, vR l3)] [] M12 0 0 from (xb_X11_end_71 hC hE l0 l2 l3 M12 h)
      · replace h := mj_nn hc17 h
        refine mx_bipush (v := (-5)) hC dX11_end_68 (by decide) ?_
        exact mx_iret hC hE rfl dX11_end_70 h
  · replace h := mj_nn hc13 h
    refine mx_bipush (v := (-3)) hC dX11_end_46 (by decide) ?_
    exact mx_iret hC hE rfl dX11_end_48 h
set_option maxHeartbeats 4000000 in
set_option maxRecDepth 100000 in
theorem ct_X11_end {l : Launch} {base : Nat} {D : va_G} {A : ClassId × ClassId × ClassId} (l0 : Nat) (l1 : Int32) (l2 : Int32) (M : mj_M) (post : Int32 → mj_M → Prop) (h : vc_X11_end l0 l1 l2 M post) : mj_Met l base D A mj_jI yX11_end cX11_end 4 (some .int) rm_X11_end 0 0 [vR l0, vI l1, vI l2] M post := by
  refine mj_entry (by decide +kernel) (Nat.le_of_ble_eq_true rfl) (fun g hC hE h1 h2 h3 h4 => ?_)
  show mj_X g 0 [(0, vR l0), (1, vI l1), (2, vI l2)] [] M 0 0
  simp only [vc_X11_end] at h
  refine mx_aload_n (j := 0) hC dX11_end_0 rfl rfl ?_
  obtain ⟨ht18, h⟩ := h
  refine mx_get (v := vR (mj_r M l0 0)) hC tf_X11_10 ht18 rfl dX11_end_1 ?_
  refine mx_iload_n (j := 1) hC dX11_end_4 rfl rfl ?_
  obtain ⟨ht19, h⟩ := h
  refine mx_callV (inj := mj_jR) (As := [vI l1]) (st := []) hC (ct_X4_find (mj_r M l0 0) l1 M _ h) ty_X4_find tw397 ht19 rfl (Nat.le_of_ble_eq_true rfl) ⟨rfl, rfl, ⟨by decide, by decide⟩, by decide, by decide⟩ dX11_end_5 (fun r20 M21 h => ?_)
  show mj_X g 8 [(0, vR l0), (1, vI l1), (2, vI l2)] [vR r20] M21 0 0
  refine mx_astore_n (L' := [(3, vR r20), (0, vR l0), (1, vI l1), (2, vI l2)]) hC dX11_end_8 rfl (by decide) rfl ?_
  refine mx_aload_n (j := 0) hC dX11_end_9 rfl rfl ?_
  refine mx_ifnull (tgt := 20) hC dX11_end_10 (by decide) (fun hc22 => ?_) (fun hc22 => ?_)
  · replace h := mj_yy hc22 h
    refine mx_iconst (v := (-1)) hC dX11_end_20 (by decide) ?_
    exact mx_iret hC hE rfl dX11_end_21 h
  · replace h := mj_nn hc22 h
    refine mx_aload_n (j := 0) hC dX11_end_13 rfl rfl ?_
    obtain ⟨ht23, h⟩ := h
    refine mx_get (v := vR (mj_r M21 r20 2)) hC tf_X11_132 ht23 rfl dX11_end_14 ?_
    refine mx_ifnonnull (tgt := 22) hC dX11_end_17 (by decide) (fun hc24 => ?_) (fun hc24 => ?_)
    · replace h := mj_nn hc24 h
      refine mx_iload_n (j := 3) hC dX11_end_22 rfl rfl ?_
      refine mx_iconst (v := 1) hC dX11_end_23 (by decide) ?_
      refine mx_icmpeq (tgt := 35) hC dX11_end_24 (by decide) (fun hc25 => ?_) (fun hc25 => ?_)
      · replace h := mj_yy hc25 h
        refine mx_sub (L' := [(0, vR l0), (2, vI l2), (3, vR r20)]) [1, 3, 0] rfl ?_
        exact show mj_X g 35 [(0, vR l0), (2, vI l2), (3, vR r20)] [] M21 0 0 from (xb_X11_end_35 hC hE l0 l2 r20 M21 h)
      · replace h := mj_nn hc25 h
        refine mx_iload_n (j := 3) hC dX11_end_27 rfl rfl ?_
        refine mx_iconst (v := 3) hC dX11_end_28 (by decide) ?_
        refine mx_icmpeq (tgt := 35) hC dX11_end_29 (by decide) (fun hc26 => ?_) (fun hc26 => ?_)
        · replace h := mj_yy hc26 h
          refine mx_sub (L' := [(0, vR l0), (2, vI l2), (3, vR r20)]) [1, 3, 0] rfl ?_
          exact show mj_X g 35 [(0, vR l0), (2, vI l2), (3, vR r20)] [] M21 0 0 from (xb_X11_end_35 hC hE l0 l2 r20 M21 h)
        · replace h := mj_nn hc26 h
          refine mx_bipush (v := (-2)) hC dX11_end_32 (by decide) ?_
          exact mx_iret hC hE rfl dX11_end_34 h
    · replace h := mj_yy hc24 h
      refine mx_iconst (v := (-1)) hC dX11_end_20 (by decide) ?_
      exact mx_iret hC hE rfl dX11_end_21 h

/-! methods 17. By program (wip/gen) out of the bytecode: vc_KEY: what must hold of a call; ct_KEY: then the machine does it. -/
theorem tw1239 : (Jvm.Cond.fieldLink "LeaseLandModel" (290 : Nat) "LeaseLandModel" "notices" "I") ∈ mj_tbl := mj_w 1292 (by decide +kernel) (by decide +kernel)
theorem tf_X12_290 : mj_F 12 30 .int false "LeaseLandModel" 290 := ⟨_, tk12, by decide, rfl, rfl, rfl, tw1239⟩
theorem tw1612 : (Jvm.Cond.methodLink "LeaseLandModel" (293 : Nat) ({ cls := "LeaseLandModel", name := "statusOf", desc := "(I)I" } : Jvm.MethodName)) ∈ mj_tbl := mj_w 1665 (by decide +kernel) (by decide +kernel)
theorem tw1615 : (Jvm.Cond.code ({ cls := "LeaseLandModel", name := "statusOf", desc := "(I)I" } : Jvm.MethodName) prog_14_method_61_code (2 : Nat) (Option.some Jvm.ClassFile.FieldType.int)) ∈ mj_tbl := mj_w 1668 (by decide +kernel) (by decide +kernel)
theorem tw1614 : (Jvm.Cond.instanceMethod ({ cls := "LeaseLandModel", name := "statusOf", desc := "(I)I" } : Jvm.MethodName)) ∈ mj_tbl := mj_w 1667 (by decide +kernel) (by decide +kernel)
theorem ty_X12_statusOf : mj_YV 12 yX12_statusOf cX12_statusOf 2 (some .int) 1 := ⟨⟨tw1615, tw11, by decide +kernel, by decide +kernel, by decide +kernel⟩, tw1614, mj_w 29 (by decide +kernel) (by decide +kernel), _, rfl, rfl⟩
def rm_X12_lackOf : Room := { frames := 6, cells := 0, slots := 0, locals := 145 }
theorem dX12_lackOf_0 : decode cX12_lackOf 0 = .ok (.aload_n 0, 1) := by decide +kernel
theorem dX12_lackOf_1 : decode cX12_lackOf 1 = .ok (.iload_n 1, 1) := by decide +kernel
theorem dX12_lackOf_2 : decode cX12_lackOf 2 = .ok (.iload_n 2, 1) := by decide +kernel
theorem dX12_lackOf_3 : decode cX12_lackOf 3 = .ok (.aload_n 0, 1) := by decide +kernel
theorem dX12_lackOf_4 : decode cX12_lackOf 4 = .ok (.getfield 151, 3) := by decide +kernel
theorem dX12_lackOf_7 : decode cX12_lackOf 7 = .ok (.invokevirtual 287, 3) := by decide +kernel
theorem dX12_lackOf_10 : decode cX12_lackOf 10 = .ok (.iconst 1, 1) := by decide +kernel
theorem dX12_lackOf_11 : decode cX12_lackOf 11 = .ok (.if_icmp .eq 5, 3) := by decide +kernel
theorem dX12_lackOf_14 : decode cX12_lackOf 14 = .ok (.iconst 1, 1) := by decide +kernel
theorem dX12_lackOf_15 : decode cX12_lackOf 15 = .ok (.ireturn, 1) := by decide +kernel
theorem dX12_lackOf_16 : decode cX12_lackOf 16 = .ok (.iconst 0, 1) := by decide +kernel
theorem dX12_lackOf_17 : decode cX12_lackOf 17 = .ok (.istore_n 3, 1) := by decide +kernel
theorem dX12_lackOf_18 : decode cX12_lackOf 18 = .ok (.iconst 0, 1) := by decide +kernel
theorem dX12_lackOf_19 : decode cX12_lackOf 19 = .ok (.istore 4, 2) := by decide +kernel
theorem dX12_lackOf_21 : decode cX12_lackOf 21 = .ok (.iload 4, 2) := by decide +kernel
theorem dX12_lackOf_23 : decode cX12_lackOf 23 = .ok (.aload_n 0, 1) := by decide +kernel
theorem dX12_lackOf_24 : decode cX12_lackOf 24 = .ok (.getfield 290, 3) := by decide +kernel
theorem dX12_lackOf_27 : decode cX12_lackOf 27 = .ok (.if_icmp .ge 95, 3) := by decide +kernel
theorem dX12_lackOf_30 : decode cX12_lackOf 30 = .ok (.aload_n 0, 1) := by decide +kernel
theorem dX12_lackOf_31 : decode cX12_lackOf 31 = .ok (.getfield 74, 3) := by decide +kernel
theorem dX12_lackOf_34 : decode cX12_lackOf 34 = .ok (.iload 4, 2) := by decide +kernel
theorem dX12_lackOf_36 : decode cX12_lackOf 36 = .ok (.iaload, 1) := by decide +kernel
theorem dX12_lackOf_37 : decode cX12_lackOf 37 = .ok (.iload_n 1, 1) := by decide +kernel
theorem dX12_lackOf_38 : decode cX12_lackOf 38 = .ok (.if_icmp .ne 78, 3) := by decide +kernel
theorem dX12_lackOf_41 : decode cX12_lackOf 41 = .ok (.aload_n 0, 1) := by decide +kernel
theorem dX12_lackOf_42 : decode cX12_lackOf 42 = .ok (.getfield 77, 3) := by decide +kernel
theorem dX12_lackOf_45 : decode cX12_lackOf 45 = .ok (.iload 4, 2) := by decide +kernel
theorem dX12_lackOf_47 : decode cX12_lackOf 47 = .ok (.iaload, 1) := by decide +kernel
theorem dX12_lackOf_48 : decode cX12_lackOf 48 = .ok (.iload_n 2, 1) := by decide +kernel
theorem dX12_lackOf_49 : decode cX12_lackOf 49 = .ok (.if_icmp .ne 67, 3) := by decide +kernel
theorem dX12_lackOf_52 : decode cX12_lackOf 52 = .ok (.aload_n 0, 1) := by decide +kernel
theorem dX12_lackOf_53 : decode cX12_lackOf 53 = .ok (.iload 4, 2) := by decide +kernel
theorem dX12_lackOf_55 : decode cX12_lackOf 55 = .ok (.invokevirtual 293, 3) := by decide +kernel
theorem dX12_lackOf_58 : decode cX12_lackOf 58 = .ok (.istore 5, 2) := by decide +kernel
theorem dX12_lackOf_60 : decode cX12_lackOf 60 = .ok (.iload 5, 2) := by decide +kernel
theorem dX12_lackOf_62 : decode cX12_lackOf 62 = .ok (.iconst 3, 1) := by decide +kernel
theorem dX12_lackOf_63 : decode cX12_lackOf 63 = .ok (.if_icmp .ne 25, 3) := by decide +kernel
theorem dX12_lackOf_66 : decode cX12_lackOf 66 = .ok (.aload_n 0, 1) := by decide +kernel
theorem dX12_lackOf_67 : decode cX12_lackOf 67 = .ok (.getfield 151, 3) := by decide +kernel
theorem dX12_lackOf_70 : decode cX12_lackOf 70 = .ok (.aload_n 0, 1) := by decide +kernel
theorem dX12_lackOf_71 : decode cX12_lackOf 71 = .ok (.getfield 86, 3) := by decide +kernel
theorem dX12_lackOf_74 : decode cX12_lackOf 74 = .ok (.iload 4, 2) := by decide +kernel
theorem dX12_lackOf_76 : decode cX12_lackOf 76 = .ok (.iaload, 1) := by decide +kernel
theorem dX12_lackOf_77 : decode cX12_lackOf 77 = .ok (.isub, 1) := by decide +kernel
theorem dX12_lackOf_78 : decode cX12_lackOf 78 = .ok (.sipush 365, 3) := by decide +kernel
theorem dX12_lackOf_81 : decode cX12_lackOf 81 = .ok (.if_icmp .ge 7, 3) := by decide +kernel
theorem dX12_lackOf_84 : decode cX12_lackOf 84 = .ok (.iconst 1, 1) := by decide +kernel
theorem dX12_lackOf_85 : decode cX12_lackOf 85 = .ok (.goto 4, 3) := by decide +kernel
theorem dX12_lackOf_88 : decode cX12_lackOf 88 = .ok (.iconst 0, 1) := by decide +kernel
theorem dX12_lackOf_89 : decode cX12_lackOf 89 = .ok (.istore 6, 2) := by decide +kernel
theorem dX12_lackOf_91 : decode cX12_lackOf 91 = .ok (.iload 5, 2) := by decide +kernel
theorem dX12_lackOf_93 : decode cX12_lackOf 93 = .ok (.iconst 2, 1) := by decide +kernel
theorem dX12_lackOf_94 : decode cX12_lackOf 94 = .ok (.if_icmp .gt 7, 3) := by decide +kernel
theorem dX12_lackOf_97 : decode cX12_lackOf 97 = .ok (.iconst 2, 1) := by decide +kernel
theorem dX12_lackOf_98 : decode cX12_lackOf 98 = .ok (.goto 17, 3) := by decide +kernel
theorem dX12_lackOf_101 : decode cX12_lackOf 101 = .ok (.iload 6, 2) := by decide +kernel
theorem dX12_lackOf_103 : decode cX12_lackOf 103 = .ok (.ifCond .eq 11, 3) := by decide +kernel
theorem dX12_lackOf_106 : decode cX12_lackOf 106 = .ok (.iload_n 3, 1) := by decide +kernel
theorem dX12_lackOf_107 : decode cX12_lackOf 107 = .ok (.ifCond .ne 7, 3) := by decide +kernel
theorem dX12_lackOf_110 : decode cX12_lackOf 110 = .ok (.iconst 3, 1) := by decide +kernel
theorem dX12_lackOf_111 : decode cX12_lackOf 111 = .ok (.goto 4, 3) := by decide +kernel
theorem dX12_lackOf_114 : decode cX12_lackOf 114 = .ok (.iload_n 3, 1) := by decide +kernel
theorem dX12_lackOf_115 : decode cX12_lackOf 115 = .ok (.istore_n 3, 1) := by decide +kernel
theorem dX12_lackOf_116 : decode cX12_lackOf 116 = .ok (.iinc 4 1, 3) := by decide +kernel
theorem dX12_lackOf_119 : decode cX12_lackOf 119 = .ok (.goto (-98), 3) := by decide +kernel
theorem dX12_lackOf_122 : decode cX12_lackOf 122 = .ok (.iload_n 3, 1) := by decide +kernel
theorem dX12_lackOf_123 : decode cX12_lackOf 123 = .ok (.ireturn, 1) := by decide +kernel
def vb_X12_lackOf_89 (k21 : Nat → Int32 → Int32 → Int32 → Int32 → mj_M → Prop) (post : Int32 → mj_M → Prop) (l0 : Nat) (l1 : Int32) (l2 : Int32) (l3 : Int32) (l4 : Int32) (l5 : Int32) (s0 : Bool) (M : mj_M) : Prop := if 2 < l5 then (if s0 = true then (if l3 = 0 then (k21 l0 l1 l2 3 (l4 + 1) M) else (k21 l0 l1 l2 l3 (l4 + 1) M)) else (k21 l0 l1 l2 l3 (l4 + 1) M)) else (k21 l0 l1 l2 2 (l4 + 1) M)
def vb_X12_lackOf_88 (k21 : Nat → Int32 → Int32 → Int32 → Int32 → mj_M → Prop) (post : Int32 → mj_M → Prop) (l0 : Nat) (l1 : Int32) (l2 : Int32) (l3 : Int32) (l4 : Int32) (l5 : Int32) (M : mj_M) : Prop := vb_X12_lackOf_89 k21 post l0 l1 l2 l3 l4 l5 false M
def vb_X12_lackOf_21 (post : Int32 → mj_M → Prop) : Nat → Nat → Int32 → Int32 → Int32 → Int32 → mj_M → Prop
  | 0 => fun _ _ _ _ _ _ => False
  | f + 1 => fun l0 l1 l2 l3 l4 M => mj_tag M l0 = 13 ∧ if (mj_i M l0 30) ≤ l4 then (post l3 M) else (mj_tag M (mj_r M l0 25) = 101 ∧ vp_in l4 (mj_len M (mj_r M l0 25)) ∧ if (mj_i M (mj_r M l0 25) (l4 : Int32).toNatClampNeg) = l1 then (mj_tag M (mj_r M l0 26) = 101 ∧ vp_in l4 (mj_len M (mj_r M l0 26)) ∧ if (mj_i M (mj_r M l0 26) (l4 : Int32).toNatClampNeg) = l2 then (vc_X12_statusOf l0 l4 M (fun r12 M13 => if r12 = 3 then (mj_tag M13 l0 = 13 ∧ mj_tag M13 (mj_r M13 l0 29) = 101 ∧ vp_in l4 (mj_len M13 (mj_r M13 l0 29)) ∧ if 365 ≤ ((mj_i M13 l0 0) - (mj_i M13 (mj_r M13 l0 29) (l4 : Int32).toNatClampNeg)) then (vb_X12_lackOf_88 (vb_X12_lackOf_21 post f) post l0 l1 l2 l3 l4 r12 M13) else (vb_X12_lackOf_89 (vb_X12_lackOf_21 post f) post l0 l1 l2 l3 l4 r12 true M13)) else (vb_X12_lackOf_88 (vb_X12_lackOf_21 post f) post l0 l1 l2 l3 l4 r12 M13))) else (vb_X12_lackOf_21 post f l0 l1 l2 l3 (l4 + 1) M)) else (vb_X12_lackOf_21 post f l0 l1 l2 l3 (l4 + 1) M))
def vc_X12_lackOf (l0 : Nat) (l1 : Int32) (l2 : Int32) (M : mj_M) (post : Int32 → mj_M → Prop) : Prop := mj_tag M l0 = 13 ∧ vc_X12_rightOn l0 l1 l2 (mj_i M l0 0) M (fun r20 M21 => if r20 = 1 then (∃ fe, vb_X12_lackOf_21 post fe l0 l1 l2 0 0 M21) else (post 1 M21))
set_option maxHeartbeats 4000000 in
set_option maxRecDepth 100000 in
theorem xb_X12_lackOf_89 {g : mj_G} {post : Int32 → mj_M → Prop} (hC : mj_C g yX12_lackOf cX12_lackOf 7 (some .int) rm_X12_lackOf) (hE : mj_E g mj_jI post 0 0) {k21 : Nat → Int32 → Int32 → Int32 → Int32 → mj_M → Prop} (hk21 : ∀ (l0 : Nat) (l1 : Int32) (l2 : Int32) (l3 : Int32) (l4 : Int32) (M : mj_M), k21 l0 l1 l2 l3 l4 M → mj_X g 21 [(0, vR l0), (1, vI l1), (2, vI l2), (3, vI l3), (4, vI l4)] [] M 0 0) (l0 : Nat) (l1 : Int32) (l2 : Int32) (l3 : Int32) (l4 : Int32) (l5 : Int32) (s0 : Bool) (M : mj_M) (h : vb_X12_lackOf_89 k21 post l0 l1 l2 l3 l4 l5 s0 M) : mj_X g 89 [(0, vR l0), (1, vI l1), (2, vI l2), (3, vI l3), (4, vI l4), (5, vI l5)] [vI (mj_b s0)] M 0 0 := by
  simp only [vb_X12_lackOf_89] at h
  refine mx_istore (L' := [(6, vI (mj_b s0)), (0, vR l0), (1, vI l1), (2, vI l2), (3, vI l3), (4, vI l4), (5, vI l5)]) hC dX12_lackOf_89 (by decide) rfl ?_
  refine mx_iload (j := 6) hC dX12_lackOf_91 rfl ?_
  refine mx_iconst (v := 2) hC dX12_lackOf_93 (by decide) ?_
  refine mx_icmpgt (tgt := 101) hC dX12_lackOf_94 (by decide) (fun hc1 => ?_) (fun hc1 => ?_)
  · replace h := mj_yy hc1 h
    refine mx_iload (j := 0) hC dX12_lackOf_101 rfl ?_
    refine mx_ifeqB (tgt := 114) hC dX12_lackOf_103 (by decide) (fun hc2 => ?_) (fun hc2 => ?_)
    · replace h := mj_nn hc2 h
      refine mx_iload_n (j := 4) hC dX12_lackOf_114 rfl rfl ?_
      refine mx_istore_n (L' := [(3, vI l3), (6, vI (mj_b s0)), (0, vR l0), (1, vI l1), (2, vI l2), (4, vI l4), (5, vI l5)]) hC dX12_lackOf_115 rfl (by decide) rfl ?_
      refine mx_iinc (j := 5) (v := l4 + 1) (L' := [(4, vI (l4 + 1)), (3, vI l3), (6, vI (mj_b s0)), (0, vR l0), (1, vI l1), (2, vI l2), (5, vI l5)]) hC dX12_lackOf_116 rfl rfl (by decide) rfl ?_
      refine mx_goto (tgt := 21) hC dX12_lackOf_119 (by decide) ?_
      refine mx_sub (L' := [(0, vR l0), (1, vI l1), (2, vI l2), (3, vI l3), (4, vI (l4 + 1))]) [3, 4, 5, 1, 0] rfl ?_
      exact show mj_X g 21 [(0, vR l0), (1, vI l1), (2, vI l2), (3, vI l3), (4, vI (l4 + 1))] [] M 0 0 from (hk21 l0 l1 l2 l3 (l4 + 1) M h)
    · replace h := mj_yy hc2 h
      refine mx_iload_n (j := 4) hC dX12_lackOf_106 rfl rfl ?_
      refine mx_ifne (tgt := 114) hC dX12_lackOf_107 (by decide) (fun hc3 => ?_) (fun hc3 => ?_)
      · replace h := mj_nn hc3 h
        refine mx_iload_n (j := 4) hC dX12_lackOf_114 rfl rfl ?_
        refine mx_istore_n (L' := [(3, vI l3), (6, vI (mj_b s0)), (0, vR l0), (1, vI l1), (2, vI l2), (4, vI l4), (5, vI l5)]) hC dX12_lackOf_115 rfl (by decide) rfl ?_
        refine mx_iinc (j := 5) (v := l4 + 1) (L' := [(4, vI (l4 + 1)), (3, vI l3), (6, vI (mj_b s0)), (0, vR l0), (1, vI l1), (2, vI l2), (5, vI l5)]) hC dX12_lackOf_116 rfl rfl (by decide) rfl ?_
        refine mx_goto (tgt := 21) hC dX12_lackOf_119 (by decide) ?_
        refine mx_sub (L' := [(0, vR l0), (1, vI l1), (2, vI l2), (3, vI l3), (4, vI (l4 + 1))]) [3, 4, 5, 1, 0] rfl ?_
        exact show mj_X g 21 [(0, vR l0), (1, vI l1), (2, vI l2), (3, vI l3), (4, vI (l4 + 1))] [] M 0 0 from (hk21 l0 l1 l2 l3 (l4 + 1) M h)
      · replace h := mj_yy hc3 h
        refine mx_iconst (v := 3) hC dX12_lackOf_110 (by decide) ?_
        refine mx_goto (tgt := 115) hC dX12_lackOf_111 (by decide) ?_
        refine mx_istore_n (L' := [(3, vI 3), (6, vI (mj_b s0)), (0, vR l0), (1, vI l1), (2, vI l2), (4, vI l4), (5, vI l5)]) hC dX12_lackOf_115 rfl (by decide) rfl ?_
        refine mx_iinc (j := 5) (v := l4 + 1) (L' := [(4, vI (l4 + 1)), (3, vI 3), (6, vI (mj_b s0)), (0, vR l0), (1, vI l1), (2, vI l2), (5, vI l5)]) hC dX12_lackOf_116 rfl rfl (by decide) rfl ?_
        refine mx_goto (tgt := 21) hC dX12_lackOf_119 (by decide) ?_
        refine mx_sub (L' := [(0, vR l0), (1, vI l1), (2, vI l2), (3, vI 3), (4, vI (l4 + 1))]) [3, 4, 5, 1, 0] rfl ?_
        exact show mj_X g 21 [(0, vR l0), (1, vI l1), (2, vI l2), (3, vI 3), (4, vI (l4 + 1))] [] M 0 0 from (hk21 l0 l1 l2 3 (l4 + 1) M h)
  · replace h := mj_nn hc1 h
    refine mx_iconst (v := 2) hC dX12_lackOf_97 (by decide) ?_
    refine mx_goto (tgt := 115) hC dX12_lackOf_98 (by decide) ?_
    refine mx_istore_n (L' := [(3, vI 2), (6, vI (mj_b s0)), (0, vR l0), (1, vI l1), (2, vI l2), (4, vI l4), (5, vI l5)]) hC dX12_lackOf_115 rfl (by decide) rfl ?_
    refine mx_iinc (j := 5) (v := l4 + 1) (L' := [(4, vI (l4 + 1)), (3, vI 2), (6, vI (mj_b s0)), (0, vR l0), (1, vI l1), (2, vI l2), (5, vI l5)]) hC dX12_lackOf_116 rfl rfl (by decide) rfl ?_
    refine mx_goto (tgt := 21) hC dX12_lackOf_119 (by decide) ?_
    refine mx_sub (L' := [(0, vR l0), (1, vI l1), (2, vI l2), (3, vI 2), (4, vI (l4 + 1))]) [3, 4, 5, 1, 0] rfl ?_
    exact show mj_X g 21 [(0, vR l0), (1, vI l1), (2, vI l2), (3, vI 2), (4, vI (l4 + 1))] [] M 0 0 from (hk21 l0 l1 l2 2 (l4 + 1) M h)
set_option maxHeartbeats 4000000 in
set_option maxRecDepth 100000 in
theorem xb_X12_lackOf_88 {g : mj_G} {post : Int32 → mj_M → Prop} (hC : mj_C g yX12_lackOf cX12_lackOf 7 (some .int) rm_X12_lackOf) (hE : mj_E g mj_jI post 0 0) {k21 : Nat → Int32 → Int32 → Int32 → Int32 → mj_M → Prop} (hk21 : ∀ (l0 : Nat) (l1 : Int32) (l2 : Int32) (l3 : Int32) (l4 : Int32) (M : mj_M), k21 l0 l1 l2 l3 l4 M → mj_X g 21 [(0, vR l0), (1, vI l1), (2, vI l2), (3, vI l3), (4, vI l4)] [] M 0 0) (l0 : Nat) (l1 : Int32) (l2 : Int32) (l3 : Int32) (l4 : Int32) (l5 : Int32) (M : mj_M) (h : vb_X12_lackOf_88 k21 post l0 l1 l2 l3 l4 l5 M) : mj_X g 88 [(0, vR l0), (1, vI l1), (2, vI l2), (3, vI l3), (4, vI l4), (5, vI l5)] [] M 0 0 := by
  simp only [vb_X12_lackOf_88] at h
  refine mx_iconst (v := 0) hC dX12_lackOf_88 (by decide) ?_
  refine mx_sub (L' := [(0, vR l0), (1, vI l1), (2, vI l2), (3, vI l3), (4, vI l4), (5, vI l5)]) [0, 1, 2, 3, 4, 5] rfl ?_
  exact show mj_X g 89 [(0, vR l0), (1, vI l1), (2, vI l2), (3, vI l3), (4, vI l4), (5, vI l5)] [vI (mj_b false)] M 0 0 from (xb_X12_lackOf_89 hC hE hk21 l0 l1 l2 l3 l4 l5 false M h)
set_option maxHeartbeats 4000000 in
set_option maxRecDepth 100000 in
theorem xb_X12_lackOf_21 {g : mj_G} {post : Int32 → mj_M → Prop} (hC : mj_C g yX12_lackOf cX12_lackOf 7 (some .int) rm_X12_lackOf) (hE : mj_E g mj_jI post 0 0) : ∀ (f : Nat) (l0 : Nat) (l1 : Int32) (l2 : Int32) (l3 : Int32) (l4 : Int32) (M : mj_M), vb_X12_lackOf_21 post f l0 l1 l2 l3 l4 M → mj_X g 21 [(0, vR l0), (1, vI l1), (2, vI l2), (3, vI l3), (4, vI l4)] [] M 0 0 := by
  intro f
  induction f with
  | zero => exact fun _ _ _ _ _ _ h => absurd h (fun z => z)
  | succ f ih =>
    intro l0 l1 l2 l3 l4 M h
    simp only [vb_X12_lackOf_21] at h
    refine mx_iload (j := 4) hC dX12_lackOf_21 rfl ?_
    refine mx_aload_n (j := 0) hC dX12_lackOf_23 rfl rfl ?_
    obtain ⟨ht4, h⟩ := h
    refine mx_get (v := vI (mj_i M l0 30)) hC tf_X12_290 ht4 rfl dX12_lackOf_24 ?_
    refine mx_icmpge (tgt := 122) hC dX12_lackOf_27 (by decide) (fun hc5 => ?_) (fun hc5 => ?_)
    · replace h := mj_yy hc5 h
      refine mx_iload_n (j := 3) hC dX12_lackOf_122 rfl rfl ?_
      exact mx_iret hC hE rfl dX12_lackOf_123 h
    · replace h := mj_nn hc5 h
      refine mx_aload_n (j := 0) hC dX12_lackOf_30 rfl rfl ?_
      refine mx_get (v := vR (mj_r M l0 25)) hC tf_X12_74 ht4 rfl dX12_lackOf_31 ?_
      refine mx_iload (j := 4) hC dX12_lackOf_34 rfl ?_
      obtain ⟨ht6, h⟩ := h
      obtain ⟨hi7, h⟩ := h
      refine mx_iaload hC ht6 hi7 dX12_lackOf_36 ?_
      refine mx_iload_n (j := 1) hC dX12_lackOf_37 rfl rfl ?_
      refine mx_icmpne (tgt := 116) hC dX12_lackOf_38 (by decide) (fun hc8 => ?_) (fun hc8 => ?_)
      · replace h := mj_nn hc8 h
        refine mx_iinc (j := 4) (v := l4 + 1) (L' := [(4, vI (l4 + 1)), (0, vR l0), (1, vI l1), (2, vI l2), (3, vI l3)]) hC dX12_lackOf_116 rfl rfl (by decide) rfl ?_
        refine mx_goto (tgt := 21) hC dX12_lackOf_119 (by decide) ?_
        refine mx_sub (L' := [(0, vR l0), (1, vI l1), (2, vI l2), (3, vI l3), (4, vI (l4 + 1))]) [1, 2, 3, 4, 0] rfl ?_
        exact show mj_X g 21 [(0, vR l0), (1, vI l1), (2, vI l2), (3, vI l3), (4, vI (l4 + 1))] [] M 0 0 from (ih l0 l1 l2 l3 (l4 + 1) M h)
      · replace h := mj_yy hc8 h
        refine mx_aload_n (j := 0) hC dX12_lackOf_41 rfl rfl ?_
        refine mx_get (v := vR (mj_r M l0 26)) hC tf_X12_77 ht4 rfl dX12_lackOf_42 ?_
        refine mx_iload (j := 4) hC dX12_lackOf_45 rfl ?_
        obtain ⟨ht9, h⟩ := h
        obtain ⟨hi10, h⟩ := h
        refine mx_iaload hC ht9 hi10 dX12_lackOf_47 ?_
        refine mx_iload_n (j := 2) hC dX12_lackOf_48 rfl rfl ?_
        refine mx_icmpne (tgt := 116) hC dX12_lackOf_49 (by decide) (fun hc11 => ?_) (fun hc11 => ?_)
        · replace h := mj_nn hc11 h
          refine mx_iinc (j := 4) (v := l4 + 1) (L' := [(4, vI (l4 + 1)), (0, vR l0), (1, vI l1), (2, vI l2), (3, vI l3)]) hC dX12_lackOf_116 rfl rfl (by decide) rfl ?_
          refine mx_goto (tgt := 21) hC dX12_lackOf_119 (by decide) ?_
          refine mx_sub (L' := [(0, vR l0), (1, vI l1), (2, vI l2), (3, vI l3), (4, vI (l4 + 1))]) [1, 2, 3, 4, 0] rfl ?_
          exact show mj_X g 21 [(0, vR l0), (1, vI l1), (2, vI l2), (3, vI l3), (4, vI (l4 + 1))] [] M 0 0 from (ih l0 l1 l2 l3 (l4 + 1) M h)
        · replace h := mj_yy hc11 h
          refine mx_aload_n (j := 0) hC dX12_lackOf_52 rfl rfl ?_
          refine mx_iload (j := 4) hC dX12_lackOf_53 rfl ?_
          refine mx_callV (inj := mj_jI) (As := [vI l4]) (st := []) hC (ct_X12_statusOf l0 l4 M _ h) ty_X12_statusOf tw1612 ht4 rfl (Nat.le_of_ble_eq_true rfl) ⟨rfl, rfl, ⟨by decide, by decide⟩, by decide, by decide⟩ dX12_lackOf_55 (fun r12 M13 h => ?_)
          show mj_X g 58 [(0, vR l0), (1, vI l1), (2, vI l2), (3, vI l3), (4, vI l4)] [vI r12] M13 0 0
          refine mx_istore (L' := [(5, vI r12), (0, vR l0), (1, vI l1), (2, vI l2), (3, vI l3), (4, vI l4)]) hC dX12_lackOf_58 (by decide) rfl ?_
          refine mx_iload (j := 0) hC dX12_lackOf_60 rfl ?_
          refine mx_iconst (v := 3) hC dX12_lackOf_62 (by decide) ?_
          refine mx_icmpne (tgt := 88) hC dX12_lackOf_63 (by decide) (fun hc14 => ?_) (fun hc14 => ?_)
          · replace h := mj_nn hc14 h
            refine mx_sub (L' := [(0, vR l0), (1, vI l1), (2, vI l2), (3, vI l3), (4, vI l4), (5, vI r12)]) [1, 2, 3, 4, 5, 0] rfl ?_
            exact show mj_X g 88 [(0, vR l0), (1, vI l1), (2, vI l2), (3, vI l3), (4, vI l4), (5, vI r12)] [] M13 0 0 from (xb_X12_lackOf_88 hC hE ih l0 l1 l2 l3 l4 r12 M13 h)
          · replace h := mj_yy hc14 h
            refine mx_aload_n (j := 1) hC dX12_lackOf_66 rfl rfl ?_
            obtain ⟨ht15, h⟩ := h
            refine mx_get (v := vI (mj_i M13 l0 0)) hC tf_X12_151 ht15 rfl dX12_lackOf_67 ?_
            refine mx_aload_n (j := 1) hC dX12_lackOf_70 rfl rfl ?_
            refine mx_get (v := vR (mj_r M13 l0 29)) hC tf_X12_86 ht15 rfl dX12_lackOf_71 ?_
            refine mx_iload (j := 5) hC dX12_lackOf_74 rfl ?_
            obtain ⟨ht16, h⟩ := h
            obtain ⟨hi17, h⟩ := h
            refine mx_iaload hC ht16 hi17 dX12_lackOf_76 ?_
            refine mx_isub hC dX12_lackOf_77 ?_
            refine mx_sipush (v := 365) hC dX12_lackOf_78 (by decide) ?_
            refine mx_icmpge (tgt := 88) hC dX12_lackOf_81 (by decide) (fun hc18 => ?_) (fun hc18 => ?_)
            · replace h := mj_yy hc18 h
              refine mx_sub (L' := [(0, vR l0), (1, vI l1), (2, vI l2), (3, vI l3), (4, vI l4), (5, vI r12)]) [1, 2, 3, 4, 5, 0] rfl ?_
              exact show mj_X g 88 [(0, vR l0), (1, vI l1), (2, vI l2), (3, vI l3), (4, vI l4), (5, vI r12)] [] M13 0 0 from (xb_X12_lackOf_88 hC hE ih l0 l1 l2 l3 l4 r12 M13 h)
            · replace h := mj_nn hc18 h
              refine mx_iconst (v := 1) hC dX12_lackOf_84 (by decide) ?_
              refine mx_goto (tgt := 89) hC dX12_lackOf_85 (by decide) ?_
              refine mx_sub (L' := [(0, vR l0), (1, vI l1), (2, vI l2), (3, vI l3), (4, vI l4), (5, vI r12)]) [1, 2, 3, 4, 5, 0] rfl ?_
              exact show mj_X g 89 [(0, vR l0), (1, vI l1), (2, vI l2), (3, vI l3), (4, vI l4), (5, vI r12)] [vI (mj_b true)] M13 0 0 from (xb_X12_lackOf_89 hC hE ih l0 l1 l2 l3 l4 r12 true M13 h)
set_option maxHeartbeats 4000000 in
set_option maxRecDepth 100000 in
theorem ct_X12_lackOf {l : Launch} {base : Nat} {D : va_G} {A : ClassId × ClassId × ClassId} (l0 : Nat) (l1 : Int32) (l2 : Int32) (M : mj_M) (post : Int32 → mj_M → Prop) (h : vc_X12_lackOf l0 l1 l2 M post) : mj_Met l base D A mj_jI yX12_lackOf cX12_lackOf 7 (some .int) rm_X12_lackOf 0 0 [vR l0, vI l1, vI l2] M post := by
  refine mj_entry (by decide +kernel) (Nat.le_of_ble_eq_true rfl) (fun g hC hE h1 h2 h3 h4 => ?_)
  show mj_X g 0 [(0, vR l0), (1, vI l1), (2, vI l2)] [] M 0 0
  simp only [vc_X12_lackOf] at h
  refine mx_aload_n (j := 0) hC dX12_lackOf_0 rfl rfl ?_
  refine mx_iload_n (j := 1) hC dX12_lackOf_1 rfl rfl ?_
  refine mx_iload_n (j := 2) hC dX12_lackOf_2 rfl rfl ?_
  refine mx_aload_n (j := 0) hC dX12_lackOf_3 rfl rfl ?_
  obtain ⟨ht19, h⟩ := h
  refine mx_get (v := vI (mj_i M l0 0)) hC tf_X12_151 ht19 rfl dX12_lackOf_4 ?_
  refine mx_callV (inj := mj_jI) (As := [vI l1, vI l2, vI (mj_i M l0 0)]) (st := []) hC (ct_X12_rightOn l0 l1 l2 (mj_i M l0 0) M _ h) ty_X12_rightOn tw1561 ht19 rfl (Nat.le_of_ble_eq_true rfl) ⟨rfl, rfl, ⟨by decide, by decide⟩, by decide, by decide⟩ dX12_lackOf_7 (fun r20 M21 h => ?_)
  show mj_X g 10 [(0, vR l0), (1, vI l1), (2, vI l2)] [vI r20] M21 0 0
  refine mx_iconst (v := 1) hC dX12_lackOf_10 (by decide) ?_
  refine mx_icmpeq (tgt := 16) hC dX12_lackOf_11 (by decide) (fun hc22 => ?_) (fun hc22 => ?_)
  · replace h := mj_yy hc22 h
    refine mx_iconst (v := 0) hC dX12_lackOf_16 (by decide) ?_
    refine mx_istore_n (L' := [(3, vI 0), (0, vR l0), (1, vI l1), (2, vI l2)]) hC dX12_lackOf_17 rfl (by decide) rfl ?_
    refine mx_iconst (v := 0) hC dX12_lackOf_18 (by decide) ?_
    refine mx_istore (L' := [(4, vI 0), (3, vI 0), (0, vR l0), (1, vI l1), (2, vI l2)]) hC dX12_lackOf_19 (by decide) rfl ?_
    refine mx_sub (L' := [(0, vR l0), (1, vI l1), (2, vI l2), (3, vI 0), (4, vI 0)]) [2, 3, 4, 1, 0] rfl ?_
    obtain ⟨fe, h⟩ := h
    exact show mj_X g 21 [(0, vR l0), (1, vI l1), (2, vI l2), (3, vI 0), (4, vI 0)] [] M21 0 0 from (xb_X12_lackOf_21 hC hE fe l0 l1 l2 0 0 M21 h)
  · replace h := mj_nn hc22 h
    refine mx_iconst (v := 1) hC dX12_lackOf_14 (by decide) ?_
    exact mx_iret hC hE rfl dX12_lackOf_15 h
theorem tw1608 : (Jvm.Cond.methodLink "LeaseLandModel" (296 : Nat) ({ cls := "LeaseLandModel", name := "lackOf", desc := "(II)I" } : Jvm.MethodName)) ∈ mj_tbl := mj_w 1661 (by decide +kernel) (by decide +kernel)
theorem tw1611 : (Jvm.Cond.code ({ cls := "LeaseLandModel", name := "lackOf", desc := "(II)I" } : Jvm.MethodName) prog_14_method_62_code (7 : Nat) (Option.some Jvm.ClassFile.FieldType.int)) ∈ mj_tbl := mj_w 1664 (by decide +kernel) (by decide +kernel)
theorem tw1610 : (Jvm.Cond.instanceMethod ({ cls := "LeaseLandModel", name := "lackOf", desc := "(II)I" } : Jvm.MethodName)) ∈ mj_tbl := mj_w 1663 (by decide +kernel) (by decide +kernel)
theorem ty_X12_lackOf : mj_YV 12 yX12_lackOf cX12_lackOf 7 (some .int) 2 := ⟨⟨tw1611, tw11, by decide +kernel, by decide +kernel, by decide +kernel⟩, tw1610, mj_w 28 (by decide +kernel) (by decide +kernel), _, rfl, rfl⟩
def rm_X12_notice : Room := { frames := 7, cells := 0, slots := 0, locals := 171 }
theorem dX12_notice_0 : decode cX12_notice 0 = .ok (.aload_n 0, 1) := by decide +kernel
theorem dX12_notice_1 : decode cX12_notice 1 = .ok (.iload_n 1, 1) := by decide +kernel
theorem dX12_notice_2 : decode cX12_notice 2 = .ok (.invokevirtual 191, 3) := by decide +kernel
theorem dX12_notice_5 : decode cX12_notice 5 = .ok (.ifCond .ne 5, 3) := by decide +kernel
theorem dX12_notice_8 : decode cX12_notice 8 = .ok (.iconst (-1), 1) := by decide +kernel
theorem dX12_notice_9 : decode cX12_notice 9 = .ok (.ireturn, 1) := by decide +kernel
theorem dX12_notice_10 : decode cX12_notice 10 = .ok (.iload_n 2, 1) := by decide +kernel
theorem dX12_notice_11 : decode cX12_notice 11 = .ok (.i2l, 1) := by decide +kernel
theorem dX12_notice_12 : decode cX12_notice 12 = .ok (.lconst 0, 1) := by decide +kernel
theorem dX12_notice_13 : decode cX12_notice 13 = .ok (.lconst 1, 1) := by decide +kernel
theorem dX12_notice_14 : decode cX12_notice 14 = .ok (.invokestatic 133, 3) := by decide +kernel
theorem dX12_notice_17 : decode cX12_notice 17 = .ok (.ifCond .ne 6, 3) := by decide +kernel
theorem dX12_notice_20 : decode cX12_notice 20 = .ok (.bipush (-2), 2) := by decide +kernel
theorem dX12_notice_22 : decode cX12_notice 22 = .ok (.ireturn, 1) := by decide +kernel
theorem dX12_notice_23 : decode cX12_notice 23 = .ok (.aload_n 0, 1) := by decide +kernel
theorem dX12_notice_24 : decode cX12_notice 24 = .ok (.iload_n 1, 1) := by decide +kernel
theorem dX12_notice_25 : decode cX12_notice 25 = .ok (.aload_n 0, 1) := by decide +kernel
theorem dX12_notice_26 : decode cX12_notice 26 = .ok (.getfield 151, 3) := by decide +kernel
theorem dX12_notice_29 : decode cX12_notice 29 = .ok (.invokevirtual 187, 3) := by decide +kernel
theorem dX12_notice_32 : decode cX12_notice 32 = .ok (.ifCond .ne 6, 3) := by decide +kernel
theorem dX12_notice_35 : decode cX12_notice 35 = .ok (.bipush (-3), 2) := by decide +kernel
theorem dX12_notice_37 : decode cX12_notice 37 = .ok (.ireturn, 1) := by decide +kernel
theorem dX12_notice_38 : decode cX12_notice 38 = .ok (.aload_n 0, 1) := by decide +kernel
theorem dX12_notice_39 : decode cX12_notice 39 = .ok (.getfield 290, 3) := by decide +kernel
theorem dX12_notice_42 : decode cX12_notice 42 = .ok (.bipush 24, 2) := by decide +kernel
theorem dX12_notice_44 : decode cX12_notice 44 = .ok (.if_icmp .ne 6, 3) := by decide +kernel
theorem dX12_notice_47 : decode cX12_notice 47 = .ok (.bipush (-4), 2) := by decide +kernel
theorem dX12_notice_49 : decode cX12_notice 49 = .ok (.ireturn, 1) := by decide +kernel
theorem dX12_notice_50 : decode cX12_notice 50 = .ok (.aload_n 0, 1) := by decide +kernel
theorem dX12_notice_51 : decode cX12_notice 51 = .ok (.iload_n 1, 1) := by decide +kernel
theorem dX12_notice_52 : decode cX12_notice 52 = .ok (.iload_n 2, 1) := by decide +kernel
theorem dX12_notice_53 : decode cX12_notice 53 = .ok (.invokevirtual 296, 3) := by decide +kernel
theorem dX12_notice_56 : decode cX12_notice 56 = .ok (.istore_n 3, 1) := by decide +kernel
theorem dX12_notice_57 : decode cX12_notice 57 = .ok (.iload_n 3, 1) := by decide +kernel
theorem dX12_notice_58 : decode cX12_notice 58 = .ok (.ifCond .le 9, 3) := by decide +kernel
theorem dX12_notice_61 : decode cX12_notice 61 = .ok (.sipush (-200), 3) := by decide +kernel
theorem dX12_notice_64 : decode cX12_notice 64 = .ok (.iload_n 3, 1) := by decide +kernel
theorem dX12_notice_65 : decode cX12_notice 65 = .ok (.isub, 1) := by decide +kernel
theorem dX12_notice_66 : decode cX12_notice 66 = .ok (.ireturn, 1) := by decide +kernel
theorem dX12_notice_67 : decode cX12_notice 67 = .ok (.aload_n 0, 1) := by decide +kernel
theorem dX12_notice_68 : decode cX12_notice 68 = .ok (.getfield 74, 3) := by decide +kernel
theorem dX12_notice_71 : decode cX12_notice 71 = .ok (.aload_n 0, 1) := by decide +kernel
theorem dX12_notice_72 : decode cX12_notice 72 = .ok (.getfield 290, 3) := by decide +kernel
theorem dX12_notice_75 : decode cX12_notice 75 = .ok (.iload_n 1, 1) := by decide +kernel
theorem dX12_notice_76 : decode cX12_notice 76 = .ok (.iastore, 1) := by decide +kernel
theorem dX12_notice_77 : decode cX12_notice 77 = .ok (.aload_n 0, 1) := by decide +kernel
theorem dX12_notice_78 : decode cX12_notice 78 = .ok (.getfield 77, 3) := by decide +kernel
theorem dX12_notice_81 : decode cX12_notice 81 = .ok (.aload_n 0, 1) := by decide +kernel
theorem dX12_notice_82 : decode cX12_notice 82 = .ok (.getfield 290, 3) := by decide +kernel
theorem dX12_notice_85 : decode cX12_notice 85 = .ok (.iload_n 2, 1) := by decide +kernel
theorem dX12_notice_86 : decode cX12_notice 86 = .ok (.iastore, 1) := by decide +kernel
theorem dX12_notice_87 : decode cX12_notice 87 = .ok (.aload_n 0, 1) := by decide +kernel
theorem dX12_notice_88 : decode cX12_notice 88 = .ok (.getfield 80, 3) := by decide +kernel
theorem dX12_notice_91 : decode cX12_notice 91 = .ok (.aload_n 0, 1) := by decide +kernel
theorem dX12_notice_92 : decode cX12_notice 92 = .ok (.getfield 290, 3) := by decide +kernel
theorem dX12_notice_95 : decode cX12_notice 95 = .ok (.aload_n 0, 1) := by decide +kernel
theorem dX12_notice_96 : decode cX12_notice 96 = .ok (.getfield 151, 3) := by decide +kernel
theorem dX12_notice_99 : decode cX12_notice 99 = .ok (.iastore, 1) := by decide +kernel
theorem dX12_notice_100 : decode cX12_notice 100 = .ok (.aload_n 0, 1) := by decide +kernel
theorem dX12_notice_101 : decode cX12_notice 101 = .ok (.getfield 83, 3) := by decide +kernel
theorem dX12_notice_104 : decode cX12_notice 104 = .ok (.aload_n 0, 1) := by decide +kernel
theorem dX12_notice_105 : decode cX12_notice 105 = .ok (.getfield 290, 3) := by decide +kernel
theorem dX12_notice_108 : decode cX12_notice 108 = .ok (.iconst 0, 1) := by decide +kernel
theorem dX12_notice_109 : decode cX12_notice 109 = .ok (.iastore, 1) := by decide +kernel
theorem dX12_notice_110 : decode cX12_notice 110 = .ok (.aload_n 0, 1) := by decide +kernel
theorem dX12_notice_111 : decode cX12_notice 111 = .ok (.dup, 1) := by decide +kernel
theorem dX12_notice_112 : decode cX12_notice 112 = .ok (.getfield 290, 3) := by decide +kernel
theorem dX12_notice_115 : decode cX12_notice 115 = .ok (.iconst 1, 1) := by decide +kernel
theorem dX12_notice_116 : decode cX12_notice 116 = .ok (.iadd, 1) := by decide +kernel
theorem dX12_notice_117 : decode cX12_notice 117 = .ok (.putfield 290, 3) := by decide +kernel
theorem dX12_notice_120 : decode cX12_notice 120 = .ok (.aload_n 0, 1) := by decide +kernel
theorem dX12_notice_121 : decode cX12_notice 121 = .ok (.getfield 290, 3) := by decide +kernel
theorem dX12_notice_124 : decode cX12_notice 124 = .ok (.iconst 1, 1) := by decide +kernel
theorem dX12_notice_125 : decode cX12_notice 125 = .ok (.isub, 1) := by decide +kernel
theorem dX12_notice_126 : decode cX12_notice 126 = .ok (.ireturn, 1) := by decide +kernel
def vc_X12_notice (l0 : Nat) (l1 : Int32) (l2 : Int32) (M : mj_M) (post : Int32 → mj_M → Prop) : Prop := mj_tag M l0 = 13 ∧ vc_X12_isLease l0 l1 M (fun r2 M3 => if r2 = true then (vc_X12_in ((l2 : Int32).toInt64) 0 1 M3 (fun r5 M6 => if r5 = true then (mj_tag M6 l0 = 13 ∧ vc_X12_isOn l0 l1 (mj_i M6 l0 0) M6 (fun r9 M10 => if r9 = true then (mj_tag M10 l0 = 13 ∧ if (mj_i M10 l0 30) = 24 then (post ((-4)) M10) else (vc_X12_lackOf l0 l1 l2 M10 (fun r14 M15 => if r14 ≤ 0 then (mj_tag M15 l0 = 13 ∧ mj_tag M15 (mj_r M15 l0 25) = 101 ∧ vp_in (mj_i M15 l0 30) (mj_len M15 (mj_r M15 l0 25)) ∧ mj_tag M15 (mj_r M15 l0 26) = 101 ∧ vp_in (mj_i (mj_wi M15 (mj_r M15 l0 25) (mj_i M15 l0 30 : Int32).toNatClampNeg l1) l0 30) (mj_len M15 (mj_r M15 l0 26)) ∧ mj_tag M15 (mj_r M15 l0 27) = 101 ∧ vp_in (mj_i (mj_wi (mj_wi M15 (mj_r M15 l0 25) (mj_i M15 l0 30 : Int32).toNatClampNeg l1) (mj_r M15 l0 26) (mj_i (mj_wi M15 (mj_r M15 l0 25) (mj_i M15 l0 30 : Int32).toNatClampNeg l1) l0 30 : Int32).toNatClampNeg l2) l0 30) (mj_len M15 (mj_r M15 l0 27)) ∧ mj_tag M15 (mj_r M15 l0 28) = 101 ∧ vp_in (mj_i (mj_wi (mj_wi (mj_wi M15 (mj_r M15 l0 25) (mj_i M15 l0 30 : Int32).toNatClampNeg l1) (mj_r M15 l0 26) (mj_i (mj_wi M15 (mj_r M15 l0 25) (mj_i M15 l0 30 : Int32).toNatClampNeg l1) l0 30 : Int32).toNatClampNeg l2) (mj_r M15 l0 27) (mj_i (mj_wi (mj_wi M15 (mj_r M15 l0 25) (mj_i M15 l0 30 : Int32).toNatClampNeg l1) (mj_r M15 l0 26) (mj_i (mj_wi M15 (mj_r M15 l0 25) (mj_i M15 l0 30 : Int32).toNatClampNeg l1) l0 30 : Int32).toNatClampNeg l2) l0 30 : Int32).toNatClampNeg (mj_i (mj_wi (mj_wi M15 (mj_r M15 l0 25) (mj_i M15 l0 30 : Int32).toNatClampNeg l1) (mj_r M15 l0 26) (mj_i (mj_wi M15 (mj_r M15 l0 25) (mj_i M15 l0 30 : Int32).toNatClampNeg l1) l0 30 : Int32).toNatClampNeg l2) l0 0)) l0 30) (mj_len M15 (mj_r M15 l0 28)) ∧ post ((mj_i (mj_wi (mj_wi (mj_wi (mj_wi (mj_wi M15 (mj_r M15 l0 25) (mj_i M15 l0 30 : Int32).toNatClampNeg l1) (mj_r M15 l0 26) (mj_i (mj_wi M15 (mj_r M15 l0 25) (mj_i M15 l0 30 : Int32).toNatClampNeg l1) l0 30 : Int32).toNatClampNeg l2) (mj_r M15 l0 27) (mj_i (mj_wi (mj_wi M15 (mj_r M15 l0 25) (mj_i M15 l0 30 : Int32).toNatClampNeg l1) (mj_r M15 l0 26) (mj_i (mj_wi M15 (mj_r M15 l0 25) (mj_i M15 l0 30 : Int32).toNatClampNeg l1) l0 30 : Int32).toNatClampNeg l2) l0 30 : Int32).toNatClampNeg (mj_i (mj_wi (mj_wi M15 (mj_r M15 l0 25) (mj_i M15 l0 30 : Int32).toNatClampNeg l1) (mj_r M15 l0 26) (mj_i (mj_wi M15 (mj_r M15 l0 25) (mj_i M15 l0 30 : Int32).toNatClampNeg l1) l0 30 : Int32).toNatClampNeg l2) l0 0)) (mj_r M15 l0 28) (mj_i (mj_wi (mj_wi (mj_wi M15 (mj_r M15 l0 25) (mj_i M15 l0 30 : Int32).toNatClampNeg l1) (mj_r M15 l0 26) (mj_i (mj_wi M15 (mj_r M15 l0 25) (mj_i M15 l0 30 : Int32).toNatClampNeg l1) l0 30 : Int32).toNatClampNeg l2) (mj_r M15 l0 27) (mj_i (mj_wi (mj_wi M15 (mj_r M15 l0 25) (mj_i M15 l0 30 : Int32).toNatClampNeg l1) (mj_r M15 l0 26) (mj_i (mj_wi M15 (mj_r M15 l0 25) (mj_i M15 l0 30 : Int32).toNatClampNeg l1) l0 30 : Int32).toNatClampNeg l2) l0 30 : Int32).toNatClampNeg (mj_i (mj_wi (mj_wi M15 (mj_r M15 l0 25) (mj_i M15 l0 30 : Int32).toNatClampNeg l1) (mj_r M15 l0 26) (mj_i (mj_wi M15 (mj_r M15 l0 25) (mj_i M15 l0 30 : Int32).toNatClampNeg l1) l0 30 : Int32).toNatClampNeg l2) l0 0)) l0 30 : Int32).toNatClampNeg 0) l0 30 ((mj_i (mj_wi (mj_wi (mj_wi (mj_wi M15 (mj_r M15 l0 25) (mj_i M15 l0 30 : Int32).toNatClampNeg l1) (mj_r M15 l0 26) (mj_i (mj_wi M15 (mj_r M15 l0 25) (mj_i M15 l0 30 : Int32).toNatClampNeg l1) l0 30 : Int32).toNatClampNeg l2) (mj_r M15 l0 27) (mj_i (mj_wi (mj_wi M15 (mj_r M15 l0 25) (mj_i M15 l0 30 : Int32).toNatClampNeg l1) (mj_r M15 l0 26) (mj_i (mj_wi M15 (mj_r M15 l0 25) (mj_i M15 l0 30 : Int32).toNatClampNeg l1) l0 30 : Int32).toNatClampNeg l2) l0 30 : Int32).toNatClampNeg (mj_i (mj_wi (mj_wi M15 (mj_r M15 l0 25) (mj_i M15 l0 30 : Int32).toNatClampNeg l1) (mj_r M15 l0 26) (mj_i (mj_wi M15 (mj_r M15 l0 25) (mj_i M15 l0 30 : Int32).toNatClampNeg l1) l0 30 : Int32).toNatClampNeg l2) l0 0)) (mj_r M15 l0 28) (mj_i (mj_wi (mj_wi (mj_wi M15 (mj_r M15 l0 25) (mj_i M15 l0 30 : Int32).toNatClampNeg l1) (mj_r M15 l0 26) (mj_i (mj_wi M15 (mj_r M15 l0 25) (mj_i M15 l0 30 : Int32).toNatClampNeg l1) l0 30 : Int32).toNatClampNeg l2) (mj_r M15 l0 27) (mj_i (mj_wi (mj_wi M15 (mj_r M15 l0 25) (mj_i M15 l0 30 : Int32).toNatClampNeg l1) (mj_r M15 l0 26) (mj_i (mj_wi M15 (mj_r M15 l0 25) (mj_i M15 l0 30 : Int32).toNatClampNeg l1) l0 30 : Int32).toNatClampNeg l2) l0 30 : Int32).toNatClampNeg (mj_i (mj_wi (mj_wi M15 (mj_r M15 l0 25) (mj_i M15 l0 30 : Int32).toNatClampNeg l1) (mj_r M15 l0 26) (mj_i (mj_wi M15 (mj_r M15 l0 25) (mj_i M15 l0 30 : Int32).toNatClampNeg l1) l0 30 : Int32).toNatClampNeg l2) l0 0)) l0 30 : Int32).toNatClampNeg 0) l0 30) + 1)) l0 30) - 1) (mj_wi (mj_wi (mj_wi (mj_wi (mj_wi M15 (mj_r M15 l0 25) (mj_i M15 l0 30 : Int32).toNatClampNeg l1) (mj_r M15 l0 26) (mj_i (mj_wi M15 (mj_r M15 l0 25) (mj_i M15 l0 30 : Int32).toNatClampNeg l1) l0 30 : Int32).toNatClampNeg l2) (mj_r M15 l0 27) (mj_i (mj_wi (mj_wi M15 (mj_r M15 l0 25) (mj_i M15 l0 30 : Int32).toNatClampNeg l1) (mj_r M15 l0 26) (mj_i (mj_wi M15 (mj_r M15 l0 25) (mj_i M15 l0 30 : Int32).toNatClampNeg l1) l0 30 : Int32).toNatClampNeg l2) l0 30 : Int32).toNatClampNeg (mj_i (mj_wi (mj_wi M15 (mj_r M15 l0 25) (mj_i M15 l0 30 : Int32).toNatClampNeg l1) (mj_r M15 l0 26) (mj_i (mj_wi M15 (mj_r M15 l0 25) (mj_i M15 l0 30 : Int32).toNatClampNeg l1) l0 30 : Int32).toNatClampNeg l2) l0 0)) (mj_r M15 l0 28) (mj_i (mj_wi (mj_wi (mj_wi M15 (mj_r M15 l0 25) (mj_i M15 l0 30 : Int32).toNatClampNeg l1) (mj_r M15 l0 26) (mj_i (mj_wi M15 (mj_r M15 l0 25) (mj_i M15 l0 30 : Int32).toNatClampNeg l1) l0 30 : Int32).toNatClampNeg l2) (mj_r M15 l0 27) (mj_i (mj_wi (mj_wi M15 (mj_r M15 l0 25) (mj_i M15 l0 30 : Int32).toNatClampNeg l1) (mj_r M15 l0 26) (mj_i (mj_wi M15 (mj_r M15 l0 25) (mj_i M15 l0 30 : Int32).toNatClampNeg l1) l0 30 : Int32).toNatClampNeg l2) l0 30 : Int32).toNatClampNeg (mj_i (mj_wi (mj_wi M15 (mj_r M15 l0 25) (mj_i M15 l0 30 : Int32).toNatClampNeg l1) (mj_r M15 l0 26) (mj_i (mj_wi M15 (mj_r M15 l0 25) (mj_i M15 l0 30 : Int32).toNatClampNeg l1) l0 30 : Int32).toNatClampNeg l2) l0 0)) l0 30 : Int32).toNatClampNeg 0) l0 30 ((mj_i (mj_wi (mj_wi (mj_wi (mj_wi M15 (mj_r M15 l0 25) (mj_i M15 l0 30 : Int32).toNatClampNeg l1) (mj_r M15 l0 26) (mj_i (mj_wi M15 (mj_r M15 l0 25) (mj_i M15 l0 30 : Int32).toNatClampNeg l1) l0 30 : Int32).toNatClampNeg l2) (mj_r M15 l0 27) (mj_i (mj_wi (mj_wi M15 (mj_r M15 l0 25) (mj_i M15 l0 30 : Int32).toNatClampNeg l1) (mj_r M15 l0 26) (mj_i (mj_wi M15 (mj_r M15 l0 25) (mj_i M15 l0 30 : Int32).toNatClampNeg l1) l0 30 : Int32).toNatClampNeg l2) l0 30 : Int32).toNatClampNeg (mj_i (mj_wi (mj_wi M15 (mj_r M15 l0 25) (mj_i M15 l0 30 : Int32).toNatClampNeg l1) (mj_r M15 l0 26) (mj_i (mj_wi M15 (mj_r M15 l0 25) (mj_i M15 l0 30 : Int32).toNatClampNeg l1) l0 30 : Int32).toNatClampNeg l2) l0 0)) (mj_r M15 l0 28) (mj_i (mj_wi (mj_wi (mj_wi M15 (mj_r M15 l0 25) (mj_i M15 l0 30 : Int32).toNatClampNeg l1) (mj_r M15 l0 26) (mj_i (mj_wi M15 (mj_r M15 l0 25) (mj_i M15 l0 30 : Int32).toNatClampNeg l1) l0 30 : Int32).toNatClampNeg l2) (mj_r M15 l0 27) (mj_i (mj_wi (mj_wi M15 (mj_r M15 l0 25) (mj_i M15 l0 30 : Int32).toNatClampNeg l1) (mj_r M15 l0 26) (mj_i (mj_wi M15 (mj_r M15 l0 25) (mj_i M15 l0 30 : Int32).toNatClampNeg l1) l0 30 : Int32).toNatClampNeg l2) l0 30 : Int32).toNatClampNeg (mj_i (mj_wi (mj_wi M15 (mj_r M15 l0 25) (mj_i M15 l0 30 : Int32).toNatClampNeg l1) (mj_r M15 l0 26) (mj_i (mj_wi M15 (mj_r M15 l0 25) (mj_i M15 l0 30 : Int32).toNatClampNeg l1) l0 30 : Int32).toNatClampNeg l2) l0 0)) l0 30 : Int32).toNatClampNeg 0) l0 30) + 1))) else (post (((-200)) - r14) M15)))) else (post ((-3)) M10))) else (post ((-2)) M6))) else (post ((-1)) M3))
set_option maxHeartbeats 4000000 in
set_option maxRecDepth 100000 in
theorem ct_X12_notice {l : Launch} {base : Nat} {D : va_G} {A : ClassId × ClassId × ClassId} (l0 : Nat) (l1 : Int32) (l2 : Int32) (M : mj_M) (post : Int32 → mj_M → Prop) (h : vc_X12_notice l0 l1 l2 M post) : mj_Met l base D A mj_jI yX12_notice cX12_notice 4 (some .int) rm_X12_notice 0 0 [vR l0, vI l1, vI l2] M post := by
  refine mj_entry (by decide +kernel) (Nat.le_of_ble_eq_true rfl) (fun g hC hE h1 h2 h3 h4 => ?_)
  show mj_X g 0 [(0, vR l0), (1, vI l1), (2, vI l2)] [] M 0 0
  simp only [vc_X12_notice] at h
  refine mx_aload_n (j := 0) hC dX12_notice_0 rfl rfl ?_
  refine mx_iload_n (j := 1) hC dX12_notice_1 rfl rfl ?_
  obtain ⟨ht1, h⟩ := h
  refine mx_callV (inj := mj_jB) (As := [vI l1]) (st := []) hC (ct_X12_isLease l0 l1 M _ h) ty_X12_isLease tw1448 ht1 rfl (Nat.le_of_ble_eq_true rfl) ⟨rfl, rfl, ⟨by decide, by decide⟩, by decide, by decide⟩ dX12_notice_2 (fun r2 M3 h => ?_)
  show mj_X g 5 [(0, vR l0), (1, vI l1), (2, vI l2)] [vI (mj_b r2)] M3 0 0
  refine mx_ifneB (tgt := 10) hC dX12_notice_5 (by decide) (fun hc4 => ?_) (fun hc4 => ?_)
  · replace h := mj_yy hc4 h
    refine mx_iload_n (j := 2) hC dX12_notice_10 rfl rfl ?_
    refine mx_i2l hC dX12_notice_11 ?_
    refine mx_lconst (v := 0) hC dX12_notice_12 (by decide) ?_
    refine mx_lconst (v := 1) hC dX12_notice_13 (by decide) ?_
    refine mx_callS (inj := mj_jB) (As := [vL ((l2 : Int32).toInt64), vL 0, vL 1]) (st := []) hC (ct_X12_in ((l2 : Int32).toInt64) 0 1 M3 _ h) ty_X12_in tw1379 rfl (Nat.le_of_ble_eq_true rfl) ⟨rfl, rfl, ⟨by decide, by decide⟩, by decide, by decide⟩ dX12_notice_14 (fun r5 M6 h => ?_)
    show mj_X g 17 [(0, vR l0), (1, vI l1), (2, vI l2)] [vI (mj_b r5)] M6 0 0
    refine mx_ifneB (tgt := 23) hC dX12_notice_17 (by decide) (fun hc7 => ?_) (fun hc7 => ?_)
    · replace h := mj_yy hc7 h
      refine mx_aload_n (j := 0) hC dX12_notice_23 rfl rfl ?_
      refine mx_iload_n (j := 1) hC dX12_notice_24 rfl rfl ?_
      refine mx_aload_n (j := 0) hC dX12_notice_25 rfl rfl ?_
      obtain ⟨ht8, h⟩ := h
      refine mx_get (v := vI (mj_i M6 l0 0)) hC tf_X12_151 ht8 rfl dX12_notice_26 ?_
      refine mx_callV (inj := mj_jB) (As := [vI l1, vI (mj_i M6 l0 0)]) (st := []) hC (ct_X12_isOn l0 l1 (mj_i M6 l0 0) M6 _ h) ty_X12_isOn tw1440 ht8 rfl (Nat.le_of_ble_eq_true rfl) ⟨rfl, rfl, ⟨by decide, by decide⟩, by decide, by decide⟩ dX12_notice_29 (fun r9 M10 h => ?_)
      show mj_X g 32 [(0, vR l0), (1, vI l1), (2, vI l2)] [vI (mj_b r9)] M10 0 0
      refine mx_ifneB (tgt := 38) hC dX12_notice_32 (by decide) (fun hc11 => ?_) (fun hc11 => ?_)
      · replace h := mj_yy hc11 h
        refine mx_aload_n (j := 0) hC dX12_notice_38 rfl rfl ?_
        obtain ⟨ht12, h⟩ := h
        refine mx_get (v := vI (mj_i M10 l0 30)) hC tf_X12_290 ht12 rfl dX12_notice_39 ?_
        refine mx_bipush (v := 24) hC dX12_notice_42 (by decide) ?_
        refine mx_icmpne (tgt := 50) hC dX12_notice_44 (by decide) (fun hc13 => ?_) (fun hc13 => ?_)
        · replace h := mj_nn hc13 h
          refine mx_aload_n (j := 0) hC dX12_notice_50 rfl rfl ?_
          refine mx_iload_n (j := 1) hC dX12_notice_51 rfl rfl ?_
          refine mx_iload_n (j := 2) hC dX12_notice_52 rfl rfl ?_
          refine mx_callV (inj := mj_jI) (As := [vI l1, vI l2]) (st := []) hC (ct_X12_lackOf l0 l1 l2 M10 _ h) ty_X12_lackOf tw1608 ht12 rfl (Nat.le_of_ble_eq_true rfl) ⟨rfl, rfl, ⟨by decide, by decide⟩, by decide, by decide⟩ dX12_notice_53 (fun r14 M15 h => ?_)
          show mj_X g 56 [(0, vR l0), (1, vI l1), (2, vI l2)] [vI r14] M15 0 0
          refine mx_istore_n (L' := [(3, vI r14), (0, vR l0), (1, vI l1), (2, vI l2)]) hC dX12_notice_56 rfl (by decide) rfl ?_
          refine mx_iload_n (j := 0) hC dX12_notice_57 rfl rfl ?_
          refine mx_ifle (tgt := 67) hC dX12_notice_58 (by decide) (fun hc16 => ?_) (fun hc16 => ?_)
          · replace h := mj_yy hc16 h
            refine mx_aload_n (j := 1) hC dX12_notice_67 rfl rfl ?_
            obtain ⟨ht17, h⟩ := h
            refine mx_get (v := vR (mj_r M15 l0 25)) hC tf_X12_74 ht17 rfl dX12_notice_68 ?_
            refine mx_aload_n (j := 1) hC dX12_notice_71 rfl rfl ?_
            refine mx_get (v := vI (mj_i M15 l0 30)) hC tf_X12_290 ht17 rfl dX12_notice_72 ?_
            refine mx_iload_n (j := 2) hC dX12_notice_75 rfl rfl ?_
            obtain ⟨ht18, h⟩ := h
            obtain ⟨hi19, h⟩ := h
            refine mx_iastore hC ht18 hi19 dX12_notice_76 ?_
            refine mx_aload_n (j := 1) hC dX12_notice_77 rfl rfl ?_
            refine mx_get (v := vR (mj_r M15 l0 26)) hC tf_X12_77 ht17 rfl dX12_notice_78 ?_
            refine mx_aload_n (j := 1) hC dX12_notice_81 rfl rfl ?_
            refine mx_get (v := vI (mj_i (mj_wi M15 (mj_r M15 l0 25) (mj_i M15 l0 30 : Int32).toNatClampNeg l1) l0 30)) hC tf_X12_290 ht17 rfl dX12_notice_82 ?_
            refine mx_iload_n (j := 3) hC dX12_notice_85 rfl rfl ?_
            obtain ⟨ht20, h⟩ := h
            obtain ⟨hi21, h⟩ := h
            refine mx_iastore hC ht20 hi21 dX12_notice_86 ?_
            refine mx_aload_n (j := 1) hC dX12_notice_87 rfl rfl ?_
            refine mx_get (v := vR (mj_r M15 l0 27)) hC tf_X12_80 ht17 rfl dX12_notice_88 ?_
            refine mx_aload_n (j := 1) hC dX12_notice_91 rfl rfl ?_
            refine mx_get (v := vI (mj_i (mj_wi (mj_wi M15 (mj_r M15 l0 25) (mj_i M15 l0 30 : Int32).toNatClampNeg l1) (mj_r M15 l0 26) (mj_i (mj_wi M15 (mj_r M15 l0 25) (mj_i M15 l0 30 : Int32).toNatClampNeg l1) l0 30 : Int32).toNatClampNeg l2) l0 30)) hC tf_X12_290 ht17 rfl dX12_notice_92 ?_
            refine mx_aload_n (j := 1) hC dX12_notice_95 rfl rfl ?_
            refine mx_get (v := vI (mj_i (mj_wi (mj_wi M15 (mj_r M15 l0 25) (mj_i M15 l0 30 : Int32).toNatClampNeg l1) (mj_r M15 l0 26) (mj_i (mj_wi M15 (mj_r M15 l0 25) (mj_i M15 l0 30 : Int32).toNatClampNeg l1) l0 30 : Int32).toNatClampNeg l2) l0 0)) hC tf_X12_151 ht17 rfl dX12_notice_96 ?_
            obtain ⟨ht22, h⟩ := h
            obtain ⟨hi23, h⟩ := h
            refine mx_iastore hC ht22 hi23 dX12_notice_99 ?_
            refine mx_aload_n (j := 1) hC dX12_notice_100 rfl rfl ?_
            refine mx_get (v := vR (mj_r M15 l0 28)) hC tf_X12_83 ht17 rfl dX12_notice_101 ?_
            refine mx_aload_n (j := 1) hC dX12_notice_104 rfl rfl ?_
            refine mx_get (v := vI (mj_i (mj_wi (mj_wi (mj_wi M15 (mj_r M15 l0 25) (mj_i M15 l0 30 : Int32).toNatClampNeg l1) (mj_r M15 l0 26) (mj_i (mj_wi M15 (mj_r M15 l0 25) (mj_i M15 l0 30 : Int32).toNatClampNeg l1) l0 30 : Int32).toNatClampNeg l2) (mj_r M15 l0 27) (mj_i (mj_wi (mj_wi M15 (mj_r M15 l0 25) (mj_i M15 l0 30 : Int32).toNatClampNeg l1) (mj_r M15 l0 26) (mj_i (mj_wi M15 (mj_r M15 l0 25) (mj_i M15 l0 30 : Int32).toNatClampNeg l1) l0 30 : Int32).toNatClampNeg l2) l0 30 : Int32).toNatClampNeg (mj_i (mj_wi (mj_wi M15 (mj_r M15 l0 25) (mj_i M15 l0 30 : Int32).toNatClampNeg l1) (mj_r M15 l0 26) (mj_i (mj_wi M15 (mj_r M15 l0 25) (mj_i M15 l0 30 : Int32).toNatClampNeg l1) l0 30 : Int32).toNatClampNeg l2) l0 0)) l0 30)) hC tf_X12_290 ht17 rfl dX12_notice_105 ?_
            refine mx_iconst (v := 0) hC dX12_notice_108 (by decide) ?_
            obtain ⟨ht24, h⟩ := h
            obtain ⟨hi25, h⟩ := h
            refine mx_iastore hC ht24 hi25 dX12_notice_109 ?_
            refine mx_aload_n (j := 1) hC dX12_notice_110 rfl rfl ?_
            refine mx_dup hC dX12_notice_111 rfl ?_
            refine mx_get (v := vI (mj_i (mj_wi (mj_wi (mj_wi (mj_wi M15 (mj_r M15 l0 25) (mj_i M15 l0 30 : Int32).toNatClampNeg l1) (mj_r M15 l0 26) (mj_i (mj_wi M15 (mj_r M15 l0 25) (mj_i M15 l0 30 : Int32).toNatClampNeg l1) l0 30 : Int32).toNatClampNeg l2) (mj_r M15 l0 27) (mj_i (mj_wi (mj_wi M15 (mj_r M15 l0 25) (mj_i M15 l0 30 : Int32).toNatClampNeg l1) (mj_r M15 l0 26) (mj_i (mj_wi M15 (mj_r M15 l0 25) (mj_i M15 l0 30 : Int32).toNatClampNeg l1) l0 30 : Int32).toNatClampNeg l2) l0 30 : Int32).toNatClampNeg (mj_i (mj_wi (mj_wi M15 (mj_r M15 l0 25) (mj_i M15 l0 30 : Int32).toNatClampNeg l1) (mj_r M15 l0 26) (mj_i (mj_wi M15 (mj_r M15 l0 25) (mj_i M15 l0 30 : Int32).toNatClampNeg l1) l0 30 : Int32).toNatClampNeg l2) l0 0)) (mj_r M15 l0 28) (mj_i (mj_wi (mj_wi (mj_wi M15 (mj_r M15 l0 25) (mj_i M15 l0 30 : Int32).toNatClampNeg l1) (mj_r M15 l0 26) (mj_i (mj_wi M15 (mj_r M15 l0 25) (mj_i M15 l0 30 : Int32).toNatClampNeg l1) l0 30 : Int32).toNatClampNeg l2) (mj_r M15 l0 27) (mj_i (mj_wi (mj_wi M15 (mj_r M15 l0 25) (mj_i M15 l0 30 : Int32).toNatClampNeg l1) (mj_r M15 l0 26) (mj_i (mj_wi M15 (mj_r M15 l0 25) (mj_i M15 l0 30 : Int32).toNatClampNeg l1) l0 30 : Int32).toNatClampNeg l2) l0 30 : Int32).toNatClampNeg (mj_i (mj_wi (mj_wi M15 (mj_r M15 l0 25) (mj_i M15 l0 30 : Int32).toNatClampNeg l1) (mj_r M15 l0 26) (mj_i (mj_wi M15 (mj_r M15 l0 25) (mj_i M15 l0 30 : Int32).toNatClampNeg l1) l0 30 : Int32).toNatClampNeg l2) l0 0)) l0 30 : Int32).toNatClampNeg 0) l0 30)) hC tf_X12_290 ht17 rfl dX12_notice_112 ?_
            refine mx_iconst (v := 1) hC dX12_notice_115 (by decide) ?_
            refine mx_iadd hC dX12_notice_116 ?_
            refine mx_put (v := vI ((mj_i (mj_wi (mj_wi (mj_wi (mj_wi M15 (mj_r M15 l0 25) (mj_i M15 l0 30 : Int32).toNatClampNeg l1) (mj_r M15 l0 26) (mj_i (mj_wi M15 (mj_r M15 l0 25) (mj_i M15 l0 30 : Int32).toNatClampNeg l1) l0 30 : Int32).toNatClampNeg l2) (mj_r M15 l0 27) (mj_i (mj_wi (mj_wi M15 (mj_r M15 l0 25) (mj_i M15 l0 30 : Int32).toNatClampNeg l1) (mj_r M15 l0 26) (mj_i (mj_wi M15 (mj_r M15 l0 25) (mj_i M15 l0 30 : Int32).toNatClampNeg l1) l0 30 : Int32).toNatClampNeg l2) l0 30 : Int32).toNatClampNeg (mj_i (mj_wi (mj_wi M15 (mj_r M15 l0 25) (mj_i M15 l0 30 : Int32).toNatClampNeg l1) (mj_r M15 l0 26) (mj_i (mj_wi M15 (mj_r M15 l0 25) (mj_i M15 l0 30 : Int32).toNatClampNeg l1) l0 30 : Int32).toNatClampNeg l2) l0 0)) (mj_r M15 l0 28) (mj_i (mj_wi (mj_wi (mj_wi M15 (mj_r M15 l0 25) (mj_i M15 l0 30 : Int32).toNatClampNeg l1) (mj_r M15 l0 26) (mj_i (mj_wi M15 (mj_r M15 l0 25) (mj_i M15 l0 30 : Int32).toNatClampNeg l1) l0 30 : Int32).toNatClampNeg l2) (mj_r M15 l0 27) (mj_i (mj_wi (mj_wi M15 (mj_r M15 l0 25) (mj_i M15 l0 30 : Int32).toNatClampNeg l1) (mj_r M15 l0 26) (mj_i (mj_wi M15 (mj_r M15 l0 25) (mj_i M15 l0 30 : Int32).toNatClampNeg l1) l0 30 : Int32).toNatClampNeg l2) l0 30 : Int32).toNatClampNeg (mj_i (mj_wi (mj_wi M15 (mj_r M15 l0 25) (mj_i M15 l0 30 : Int32).toNatClampNeg l1) (mj_r M15 l0 26) (mj_i (mj_wi M15 (mj_r M15 l0 25) (mj_i M15 l0 30 : Int32).toNatClampNeg l1) l0 30 : Int32).toNatClampNeg l2) l0 0)) l0 30 : Int32).toNatClampNeg 0) l0 30) + 1)) (M1 := mj_wi (mj_wi (mj_wi (mj_wi (mj_wi M15 (mj_r M15 l0 25) (mj_i M15 l0 30 : Int32).toNatClampNeg l1) (mj_r M15 l0 26) (mj_i (mj_wi M15 (mj_r M15 l0 25) (mj_i M15 l0 30 : Int32).toNatClampNeg l1) l0 30 : Int32).toNatClampNeg l2) (mj_r M15 l0 27) (mj_i (mj_wi (mj_wi M15 (mj_r M15 l0 25) (mj_i M15 l0 30 : Int32).toNatClampNeg l1) (mj_r M15 l0 26) (mj_i (mj_wi M15 (mj_r M15 l0 25) (mj_i M15 l0 30 : Int32).toNatClampNeg l1) l0 30 : Int32).toNatClampNeg l2) l0 30 : Int32).toNatClampNeg (mj_i (mj_wi (mj_wi M15 (mj_r M15 l0 25) (mj_i M15 l0 30 : Int32).toNatClampNeg l1) (mj_r M15 l0 26) (mj_i (mj_wi M15 (mj_r M15 l0 25) (mj_i M15 l0 30 : Int32).toNatClampNeg l1) l0 30 : Int32).toNatClampNeg l2) l0 0)) (mj_r M15 l0 28) (mj_i (mj_wi (mj_wi (mj_wi M15 (mj_r M15 l0 25) (mj_i M15 l0 30 : Int32).toNatClampNeg l1) (mj_r M15 l0 26) (mj_i (mj_wi M15 (mj_r M15 l0 25) (mj_i M15 l0 30 : Int32).toNatClampNeg l1) l0 30 : Int32).toNatClampNeg l2) (mj_r M15 l0 27) (mj_i (mj_wi (mj_wi M15 (mj_r M15 l0 25) (mj_i M15 l0 30 : Int32).toNatClampNeg l1) (mj_r M15 l0 26) (mj_i (mj_wi M15 (mj_r M15 l0 25) (mj_i M15 l0 30 : Int32).toNatClampNeg l1) l0 30 : Int32).toNatClampNeg l2) l0 30 : Int32).toNatClampNeg (mj_i (mj_wi (mj_wi M15 (mj_r M15 l0 25) (mj_i M15 l0 30 : Int32).toNatClampNeg l1) (mj_r M15 l0 26) (mj_i (mj_wi M15 (mj_r M15 l0 25) (mj_i M15 l0 30 : Int32).toNatClampNeg l1) l0 30 : Int32).toNatClampNeg l2) l0 0)) l0 30 : Int32).toNatClampNeg 0) l0 30 ((mj_i (mj_wi (mj_wi (mj_wi (mj_wi M15 (mj_r M15 l0 25) (mj_i M15 l0 30 : Int32).toNatClampNeg l1) (mj_r M15 l0 26) (mj_i (mj_wi M15 (mj_r M15 l0 25) (mj_i M15 l0 30 : Int32).toNatClampNeg l1) l0 30 : Int32).toNatClampNeg l2) (mj_r M15 l0 27) (mj_i (mj_wi (mj_wi M15 (mj_r M15 l0 25) (mj_i M15 l0 30 : Int32).toNatClampNeg l1) (mj_r M15 l0 26) (mj_i (mj_wi M15 (mj_r M15 l0 25) (mj_i M15 l0 30 : Int32).toNatClampNeg l1) l0 30 : Int32).toNatClampNeg l2) l0 30 : Int32).toNatClampNeg (mj_i (mj_wi (mj_wi M15 (mj_r M15 l0 25) (mj_i M15 l0 30 : Int32).toNatClampNeg l1) (mj_r M15 l0 26) (mj_i (mj_wi M15 (mj_r M15 l0 25) (mj_i M15 l0 30 : Int32).toNatClampNeg l1) l0 30 : Int32).toNatClampNeg l2) l0 0)) (mj_r M15 l0 28) (mj_i (mj_wi (mj_wi (mj_wi M15 (mj_r M15 l0 25) (mj_i M15 l0 30 : Int32).toNatClampNeg l1) (mj_r M15 l0 26) (mj_i (mj_wi M15 (mj_r M15 l0 25) (mj_i M15 l0 30 : Int32).toNatClampNeg l1) l0 30 : Int32).toNatClampNeg l2) (mj_r M15 l0 27) (mj_i (mj_wi (mj_wi M15 (mj_r M15 l0 25) (mj_i M15 l0 30 : Int32).toNatClampNeg l1) (mj_r M15 l0 26) (mj_i (mj_wi M15 (mj_r M15 l0 25) (mj_i M15 l0 30 : Int32).toNatClampNeg l1) l0 30 : Int32).toNatClampNeg l2) l0 30 : Int32).toNatClampNeg (mj_i (mj_wi (mj_wi M15 (mj_r M15 l0 25) (mj_i M15 l0 30 : Int32).toNatClampNeg l1) (mj_r M15 l0 26) (mj_i (mj_wi M15 (mj_r M15 l0 25) (mj_i M15 l0 30 : Int32).toNatClampNeg l1) l0 30 : Int32).toNatClampNeg l2) l0 0)) l0 30 : Int32).toNatClampNeg 0) l0 30) + 1)) hC tf_X12_290 ht17 (Or.inl rfl) ⟨rfl, rfl⟩ (mj_off_wi _ _ _ _) mj_put_wi dX12_notice_117 ?_
            refine mx_aload_n (j := 1) hC dX12_notice_120 rfl rfl ?_
            refine mx_get (v := vI (mj_i (mj_wi (mj_wi (mj_wi (mj_wi (mj_wi M15 (mj_r M15 l0 25) (mj_i M15 l0 30 : Int32).toNatClampNeg l1) (mj_r M15 l0 26) (mj_i (mj_wi M15 (mj_r M15 l0 25) (mj_i M15 l0 30 : Int32).toNatClampNeg l1) l0 30 : Int32).toNatClampNeg l2) (mj_r M15 l0 27) (mj_i (mj_wi (mj_wi M15 (mj_r M15 l0 25) (mj_i M15 l0 30 : Int32).toNatClampNeg l1) (mj_r M15 l0 26) (mj_i (mj_wi M15 (mj_r M15 l0 25) (mj_i M15 l0 30 : Int32).toNatClampNeg l1) l0 30 : Int32).toNatClampNeg l2) l0 30 : Int32).toNatClampNeg (mj_i (mj_wi (mj_wi M15 (mj_r M15 l0 25) (mj_i M15 l0 30 : Int32).toNatClampNeg l1) (mj_r M15 l0 26) (mj_i (mj_wi M15 (mj_r M15 l0 25) (mj_i M15 l0 30 : Int32).toNatClampNeg l1) l0 30 : Int32).toNatClampNeg l2) l0 0)) (mj_r M15 l0 28) (mj_i (mj_wi (mj_wi (mj_wi M15 (mj_r M15 l0 25) (mj_i M15 l0 30 : Int32).toNatClampNeg l1) (mj_r M15 l0 26) (mj_i (mj_wi M15 (mj_r M15 l0 25) (mj_i M15 l0 30 : Int32).toNatClampNeg l1) l0 30 : Int32).toNatClampNeg l2) (mj_r M15 l0 27) (mj_i (mj_wi (mj_wi M15 (mj_r M15 l0 25) (mj_i M15 l0 30 : Int32).toNatClampNeg l1) (mj_r M15 l0 26) (mj_i (mj_wi M15 (mj_r M15 l0 25) (mj_i M15 l0 30 : Int32).toNatClampNeg l1) l0 30 : Int32).toNatClampNeg l2) l0 30 : Int32).toNatClampNeg (mj_i (mj_wi (mj_wi M15 (mj_r M15 l0 25) (mj_i M15 l0 30 : Int32).toNatClampNeg l1) (mj_r M15 l0 26) (mj_i (mj_wi M15 (mj_r M15 l0 25) (mj_i M15 l0 30 : Int32).toNatClampNeg l1) l0 30 : Int32).toNatClampNeg l2) l0 0)) l0 30 : Int32).toNatClampNeg 0) l0 30 ((mj_i (mj_wi (mj_wi (mj_wi (mj_wi M15 (mj_r M15 l0 25) (mj_i M15 l0 30 : Int32).toNatClampNeg l1) (mj_r M15 l0 26) (mj_i (mj_wi M15 (mj_r M15 l0 25) (mj_i M15 l0 30 : Int32).toNatClampNeg l1) l0 30 : Int32).toNatClampNeg l2) (mj_r M15 l0 27) (mj_i (mj_wi (mj_wi M15 (mj_r M15 l0 25) (mj_i M15 l0 30 : Int32).toNatClampNeg l1) (mj_r M15 l0 26) (mj_i (mj_wi M15 (mj_r M15 l0 25) (mj_i M15 l0 30 : Int32).toNatClampNeg l1) l0 30 : Int32).toNatClampNeg l2) l0 30 : Int32).toNatClampNeg (mj_i (mj_wi (mj_wi M15 (mj_r M15 l0 25) (mj_i M15 l0 30 : Int32).toNatClampNeg l1) (mj_r M15 l0 26) (mj_i (mj_wi M15 (mj_r M15 l0 25) (mj_i M15 l0 30 : Int32).toNatClampNeg l1) l0 30 : Int32).toNatClampNeg l2) l0 0)) (mj_r M15 l0 28) (mj_i (mj_wi (mj_wi (mj_wi M15 (mj_r M15 l0 25) (mj_i M15 l0 30 : Int32).toNatClampNeg l1) (mj_r M15 l0 26) (mj_i (mj_wi M15 (mj_r M15 l0 25) (mj_i M15 l0 30 : Int32).toNatClampNeg l1) l0 30 : Int32).toNatClampNeg l2) (mj_r M15 l0 27) (mj_i (mj_wi (mj_wi M15 (mj_r M15 l0 25) (mj_i M15 l0 30 : Int32).toNatClampNeg l1) (mj_r M15 l0 26) (mj_i (mj_wi M15 (mj_r M15 l0 25) (mj_i M15 l0 30 : Int32).toNatClampNeg l1) l0 30 : Int32).toNatClampNeg l2) l0 30 : Int32).toNatClampNeg (mj_i (mj_wi (mj_wi M15 (mj_r M15 l0 25) (mj_i M15 l0 30 : Int32).toNatClampNeg l1) (mj_r M15 l0 26) (mj_i (mj_wi M15 (mj_r M15 l0 25) (mj_i M15 l0 30 : Int32).toNatClampNeg l1) l0 30 : Int32).toNatClampNeg l2) l0 0)) l0 30 : Int32).toNatClampNeg 0) l0 30) + 1)) l0 30)) hC tf_X12_290 ht17 rfl dX12_notice_121 ?_
            refine mx_iconst (v := 1) hC dX12_notice_124 (by decide) ?_
            refine mx_isub hC dX12_notice_125 ?_
            exact mx_iret hC hE rfl dX12_notice_126 h
          · replace h := mj_nn hc16 h
            refine mx_sipush (v := (-200)) hC dX12_notice_61 (by decide) ?_
            refine mx_iload_n (j := 0) hC dX12_notice_64 rfl rfl ?_
            refine mx_isub hC dX12_notice_65 ?_
            exact mx_iret hC hE rfl dX12_notice_66 h
        · replace h := mj_yy hc13 h
          refine mx_bipush (v := (-4)) hC dX12_notice_47 (by decide) ?_
          exact mx_iret hC hE rfl dX12_notice_49 h
      · replace h := mj_nn hc11 h
        refine mx_bipush (v := (-3)) hC dX12_notice_35 (by decide) ?_
        exact mx_iret hC hE rfl dX12_notice_37 h
    · replace h := mj_nn hc7 h
      refine mx_bipush (v := (-2)) hC dX12_notice_20 (by decide) ?_
      exact mx_iret hC hE rfl dX12_notice_22 h
  · replace h := mj_nn hc4 h
    refine mx_iconst (v := (-1)) hC dX12_notice_8 (by decide) ?_
    exact mx_iret hC hE rfl dX12_notice_9 h
def rm_X12_isNotice : Room := { frames := 1, cells := 0, slots := 0, locals := 25 }
theorem dX12_isNotice_0 : decode cX12_isNotice 0 = .ok (.iload_n 1, 1) := by decide +kernel
theorem dX12_isNotice_1 : decode cX12_isNotice 1 = .ok (.i2l, 1) := by decide +kernel
theorem dX12_isNotice_2 : decode cX12_isNotice 2 = .ok (.lconst 0, 1) := by decide +kernel
theorem dX12_isNotice_3 : decode cX12_isNotice 3 = .ok (.aload_n 0, 1) := by decide +kernel
theorem dX12_isNotice_4 : decode cX12_isNotice 4 = .ok (.getfield 290, 3) := by decide +kernel
theorem dX12_isNotice_7 : decode cX12_isNotice 7 = .ok (.iconst 1, 1) := by decide +kernel
theorem dX12_isNotice_8 : decode cX12_isNotice 8 = .ok (.isub, 1) := by decide +kernel
theorem dX12_isNotice_9 : decode cX12_isNotice 9 = .ok (.i2l, 1) := by decide +kernel
theorem dX12_isNotice_10 : decode cX12_isNotice 10 = .ok (.invokestatic 133, 3) := by decide +kernel
theorem dX12_isNotice_13 : decode cX12_isNotice 13 = .ok (.ireturn, 1) := by decide +kernel
def vc_X12_isNotice (l0 : Nat) (l1 : Int32) (M : mj_M) (post : Bool → mj_M → Prop) : Prop := mj_tag M l0 = 13 ∧ vc_X12_in ((l1 : Int32).toInt64) 0 (((mj_i M l0 30) - 1 : Int32).toInt64) M (fun r2 M3 => post r2 M3)
set_option maxHeartbeats 4000000 in
set_option maxRecDepth 100000 in
theorem ct_X12_isNotice {l : Launch} {base : Nat} {D : va_G} {A : ClassId × ClassId × ClassId} (l0 : Nat) (l1 : Int32) (M : mj_M) (post : Bool → mj_M → Prop) (h : vc_X12_isNotice l0 l1 M post) : mj_Met l base D A mj_jB yX12_isNotice cX12_isNotice 2 (some .boolean) rm_X12_isNotice 0 0 [vR l0, vI l1] M post := by
  refine mj_entry (by decide +kernel) (Nat.le_of_ble_eq_true rfl) (fun g hC hE h1 h2 h3 h4 => ?_)
  show mj_X g 0 [(0, vR l0), (1, vI l1)] [] M 0 0
  simp only [vc_X12_isNotice] at h
  refine mx_iload_n (j := 1) hC dX12_isNotice_0 rfl rfl ?_
  refine mx_i2l hC dX12_isNotice_1 ?_
  refine mx_lconst (v := 0) hC dX12_isNotice_2 (by decide) ?_
  refine mx_aload_n (j := 0) hC dX12_isNotice_3 rfl rfl ?_
  obtain ⟨ht1, h⟩ := h
  refine mx_get (v := vI (mj_i M l0 30)) hC tf_X12_290 ht1 rfl dX12_isNotice_4 ?_
  refine mx_iconst (v := 1) hC dX12_isNotice_7 (by decide) ?_
  refine mx_isub hC dX12_isNotice_8 ?_
  refine mx_i2l hC dX12_isNotice_9 ?_
  refine mx_callS (inj := mj_jB) (As := [vL ((l1 : Int32).toInt64), vL 0, vL (((mj_i M l0 30) - 1 : Int32).toInt64)]) (st := []) hC (ct_X12_in ((l1 : Int32).toInt64) 0 (((mj_i M l0 30) - 1 : Int32).toInt64) M _ h) ty_X12_in tw1379 rfl (Nat.le_of_ble_eq_true rfl) ⟨rfl, rfl, ⟨by decide, by decide⟩, by decide, by decide⟩ dX12_isNotice_10 (fun r2 M3 h => ?_)
  show mj_X g 13 [(0, vR l0), (1, vI l1)] [vI (mj_b r2)] M3 0 0
  exact mx_zret (b := r2) hC hE rfl dX12_isNotice_13 h
theorem tw1620 : (Jvm.Cond.methodLink "LeaseLandModel" (299 : Nat) ({ cls := "LeaseLandModel", name := "isNotice", desc := "(I)Z" } : Jvm.MethodName)) ∈ mj_tbl := mj_w 1673 (by decide +kernel) (by decide +kernel)
theorem tw1623 : (Jvm.Cond.code ({ cls := "LeaseLandModel", name := "isNotice", desc := "(I)Z" } : Jvm.MethodName) prog_14_method_64_code (2 : Nat) (Option.some Jvm.ClassFile.FieldType.boolean)) ∈ mj_tbl := mj_w 1676 (by decide +kernel) (by decide +kernel)
theorem tw1622 : (Jvm.Cond.instanceMethod ({ cls := "LeaseLandModel", name := "isNotice", desc := "(I)Z" } : Jvm.MethodName)) ∈ mj_tbl := mj_w 1675 (by decide +kernel) (by decide +kernel)
theorem ty_X12_isNotice : mj_YV 12 yX12_isNotice cX12_isNotice 2 (some .boolean) 1 := ⟨⟨tw1623, tw11, by decide +kernel, by decide +kernel, by decide +kernel⟩, tw1622, mj_w 30 (by decide +kernel) (by decide +kernel), _, rfl, rfl⟩
def rm_X12_answer : Room := { frames := 2, cells := 0, slots := 0, locals := 46 }
theorem dX12_answer_0 : decode cX12_answer 0 = .ok (.aload_n 0, 1) := by decide +kernel
theorem dX12_answer_1 : decode cX12_answer 1 = .ok (.iload_n 1, 1) := by decide +kernel
theorem dX12_answer_2 : decode cX12_answer 2 = .ok (.invokevirtual 299, 3) := by decide +kernel
theorem dX12_answer_5 : decode cX12_answer 5 = .ok (.ifCond .ne 5, 3) := by decide +kernel
theorem dX12_answer_8 : decode cX12_answer 8 = .ok (.iconst (-1), 1) := by decide +kernel
theorem dX12_answer_9 : decode cX12_answer 9 = .ok (.ireturn, 1) := by decide +kernel
theorem dX12_answer_10 : decode cX12_answer 10 = .ok (.aload_n 0, 1) := by decide +kernel
theorem dX12_answer_11 : decode cX12_answer 11 = .ok (.iload_n 1, 1) := by decide +kernel
theorem dX12_answer_12 : decode cX12_answer 12 = .ok (.invokevirtual 293, 3) := by decide +kernel
theorem dX12_answer_15 : decode cX12_answer 15 = .ok (.ifCond .eq 6, 3) := by decide +kernel
theorem dX12_answer_18 : decode cX12_answer 18 = .ok (.bipush (-3), 2) := by decide +kernel
theorem dX12_answer_20 : decode cX12_answer 20 = .ok (.ireturn, 1) := by decide +kernel
theorem dX12_answer_21 : decode cX12_answer 21 = .ok (.aload_n 0, 1) := by decide +kernel
theorem dX12_answer_22 : decode cX12_answer 22 = .ok (.getfield 83, 3) := by decide +kernel
theorem dX12_answer_25 : decode cX12_answer 25 = .ok (.iload_n 1, 1) := by decide +kernel
theorem dX12_answer_26 : decode cX12_answer 26 = .ok (.iload_n 2, 1) := by decide +kernel
theorem dX12_answer_27 : decode cX12_answer 27 = .ok (.ifCond .eq 7, 3) := by decide +kernel
theorem dX12_answer_30 : decode cX12_answer 30 = .ok (.iconst 1, 1) := by decide +kernel
theorem dX12_answer_31 : decode cX12_answer 31 = .ok (.goto 4, 3) := by decide +kernel
theorem dX12_answer_34 : decode cX12_answer 34 = .ok (.iconst 2, 1) := by decide +kernel
theorem dX12_answer_35 : decode cX12_answer 35 = .ok (.iastore, 1) := by decide +kernel
theorem dX12_answer_36 : decode cX12_answer 36 = .ok (.iconst 1, 1) := by decide +kernel
theorem dX12_answer_37 : decode cX12_answer 37 = .ok (.ireturn, 1) := by decide +kernel
def vc_X12_answer (l0 : Nat) (l1 : Int32) (l2 : Bool) (M : mj_M) (post : Int32 → mj_M → Prop) : Prop := mj_tag M l0 = 13 ∧ vc_X12_isNotice l0 l1 M (fun r2 M3 => if r2 = true then (mj_tag M3 l0 = 13 ∧ vc_X12_statusOf l0 l1 M3 (fun r6 M7 => if r6 = 0 then (mj_tag M7 l0 = 13 ∧ if l2 = true then (mj_tag M7 (mj_r M7 l0 28) = 101 ∧ vp_in l1 (mj_len M7 (mj_r M7 l0 28)) ∧ post 1 (mj_wi M7 (mj_r M7 l0 28) (l1 : Int32).toNatClampNeg 1)) else (mj_tag M7 (mj_r M7 l0 28) = 101 ∧ vp_in l1 (mj_len M7 (mj_r M7 l0 28)) ∧ post 1 (mj_wi M7 (mj_r M7 l0 28) (l1 : Int32).toNatClampNeg 2))) else (post ((-3)) M7))) else (post ((-1)) M3))
set_option maxHeartbeats 4000000 in
set_option maxRecDepth 100000 in
theorem ct_X12_answer {l : Launch} {base : Nat} {D : va_G} {A : ClassId × ClassId × ClassId} (l0 : Nat) (l1 : Int32) (l2 : Bool) (M : mj_M) (post : Int32 → mj_M → Prop) (h : vc_X12_answer l0 l1 l2 M post) : mj_Met l base D A mj_jI yX12_answer cX12_answer 3 (some .int) rm_X12_answer 0 0 [vR l0, vI l1, vI (mj_b l2)] M post := by
  refine mj_entry (by decide +kernel) (Nat.le_of_ble_eq_true rfl) (fun g hC hE h1 h2 h3 h4 => ?_)
  show mj_X g 0 [(0, vR l0), (1, vI l1), (2, vI (mj_b l2))] [] M 0 0
  simp only [vc_X12_answer] at h
  refine mx_aload_n (j := 0) hC dX12_answer_0 rfl rfl ?_
  refine mx_iload_n (j := 1) hC dX12_answer_1 rfl rfl ?_
  obtain ⟨ht1, h⟩ := h
  refine mx_callV (inj := mj_jB) (As := [vI l1]) (st := []) hC (ct_X12_isNotice l0 l1 M _ h) ty_X12_isNotice tw1620 ht1 rfl (Nat.le_of_ble_eq_true rfl) ⟨rfl, rfl, ⟨by decide, by decide⟩, by decide, by decide⟩ dX12_answer_2 (fun r2 M3 h => ?_)
  show mj_X g 5 [(0, vR l0), (1, vI l1), (2, vI (mj_b l2))] [vI (mj_b r2)] M3 0 0
  refine mx_ifneB (tgt := 10) hC dX12_answer_5 (by decide) (fun hc4 => ?_) (fun hc4 => ?_)
  · replace h := mj_yy hc4 h
    refine mx_aload_n (j := 0) hC dX12_answer_10 rfl rfl ?_
    refine mx_iload_n (j := 1) hC dX12_answer_11 rfl rfl ?_
    obtain ⟨ht5, h⟩ := h
    refine mx_callV (inj := mj_jI) (As := [vI l1]) (st := []) hC (ct_X12_statusOf l0 l1 M3 _ h) ty_X12_statusOf tw1612 ht5 rfl (Nat.le_of_ble_eq_true rfl) ⟨rfl, rfl, ⟨by decide, by decide⟩, by decide, by decide⟩ dX12_answer_12 (fun r6 M7 h => ?_)
    show mj_X g 15 [(0, vR l0), (1, vI l1), (2, vI (mj_b l2))] [vI r6] M7 0 0
    refine mx_ifeq (tgt := 21) hC dX12_answer_15 (by decide) (fun hc8 => ?_) (fun hc8 => ?_)
    · replace h := mj_yy hc8 h
      refine mx_aload_n (j := 0) hC dX12_answer_21 rfl rfl ?_
      obtain ⟨ht9, h⟩ := h
      refine mx_get (v := vR (mj_r M7 l0 28)) hC tf_X12_83 ht9 rfl dX12_answer_22 ?_
      refine mx_iload_n (j := 1) hC dX12_answer_25 rfl rfl ?_
      refine mx_iload_n (j := 2) hC dX12_answer_26 rfl rfl ?_
      refine mx_ifeqB (tgt := 34) hC dX12_answer_27 (by decide) (fun hc10 => ?_) (fun hc10 => ?_)
      · replace h := mj_nn hc10 h
        refine mx_iconst (v := 2) hC dX12_answer_34 (by decide) ?_
        obtain ⟨ht11, h⟩ := h
        obtain ⟨hi12, h⟩ := h
        refine mx_iastore hC ht11 hi12 dX12_answer_35 ?_
        refine mx_iconst (v := 1) hC dX12_answer_36 (by decide) ?_
        exact mx_iret hC hE rfl dX12_answer_37 h
      · replace h := mj_yy hc10 h
        refine mx_iconst (v := 1) hC dX12_answer_30 (by decide) ?_
        refine mx_goto (tgt := 35) hC dX12_answer_31 (by decide) ?_
        obtain ⟨ht13, h⟩ := h
        obtain ⟨hi14, h⟩ := h
        refine mx_iastore hC ht13 hi14 dX12_answer_35 ?_
        refine mx_iconst (v := 1) hC dX12_answer_36 (by decide) ?_
        exact mx_iret hC hE rfl dX12_answer_37 h
    · replace h := mj_nn hc8 h
      refine mx_bipush (v := (-3)) hC dX12_answer_18 (by decide) ?_
      exact mx_iret hC hE rfl dX12_answer_20 h
  · replace h := mj_nn hc4 h
    refine mx_iconst (v := (-1)) hC dX12_answer_8 (by decide) ?_
    exact mx_iret hC hE rfl dX12_answer_9 h
def rm_X12_withdraw : Room := { frames := 2, cells := 0, slots := 0, locals := 46 }
theorem dX12_withdraw_0 : decode cX12_withdraw 0 = .ok (.aload_n 0, 1) := by decide +kernel
theorem dX12_withdraw_1 : decode cX12_withdraw 1 = .ok (.iload_n 1, 1) := by decide +kernel
theorem dX12_withdraw_2 : decode cX12_withdraw 2 = .ok (.invokevirtual 299, 3) := by decide +kernel
theorem dX12_withdraw_5 : decode cX12_withdraw 5 = .ok (.ifCond .ne 5, 3) := by decide +kernel
theorem dX12_withdraw_8 : decode cX12_withdraw 8 = .ok (.iconst (-1), 1) := by decide +kernel
theorem dX12_withdraw_9 : decode cX12_withdraw 9 = .ok (.ireturn, 1) := by decide +kernel
theorem dX12_withdraw_10 : decode cX12_withdraw 10 = .ok (.aload_n 0, 1) := by decide +kernel
theorem dX12_withdraw_11 : decode cX12_withdraw 11 = .ok (.iload_n 1, 1) := by decide +kernel
theorem dX12_withdraw_12 : decode cX12_withdraw 12 = .ok (.invokevirtual 293, 3) := by decide +kernel
theorem dX12_withdraw_15 : decode cX12_withdraw 15 = .ok (.iconst 2, 1) := by decide +kernel
theorem dX12_withdraw_16 : decode cX12_withdraw 16 = .ok (.if_icmp .le 6, 3) := by decide +kernel
theorem dX12_withdraw_19 : decode cX12_withdraw 19 = .ok (.bipush (-3), 2) := by decide +kernel
theorem dX12_withdraw_21 : decode cX12_withdraw 21 = .ok (.ireturn, 1) := by decide +kernel
theorem dX12_withdraw_22 : decode cX12_withdraw 22 = .ok (.aload_n 0, 1) := by decide +kernel
theorem dX12_withdraw_23 : decode cX12_withdraw 23 = .ok (.getfield 83, 3) := by decide +kernel
theorem dX12_withdraw_26 : decode cX12_withdraw 26 = .ok (.iload_n 1, 1) := by decide +kernel
theorem dX12_withdraw_27 : decode cX12_withdraw 27 = .ok (.iconst 3, 1) := by decide +kernel
theorem dX12_withdraw_28 : decode cX12_withdraw 28 = .ok (.iastore, 1) := by decide +kernel
theorem dX12_withdraw_29 : decode cX12_withdraw 29 = .ok (.aload_n 0, 1) := by decide +kernel
theorem dX12_withdraw_30 : decode cX12_withdraw 30 = .ok (.getfield 86, 3) := by decide +kernel
theorem dX12_withdraw_33 : decode cX12_withdraw 33 = .ok (.iload_n 1, 1) := by decide +kernel
theorem dX12_withdraw_34 : decode cX12_withdraw 34 = .ok (.aload_n 0, 1) := by decide +kernel
theorem dX12_withdraw_35 : decode cX12_withdraw 35 = .ok (.getfield 151, 3) := by decide +kernel
theorem dX12_withdraw_38 : decode cX12_withdraw 38 = .ok (.iastore, 1) := by decide +kernel
theorem dX12_withdraw_39 : decode cX12_withdraw 39 = .ok (.iconst 1, 1) := by decide +kernel
theorem dX12_withdraw_40 : decode cX12_withdraw 40 = .ok (.ireturn, 1) := by decide +kernel
def vc_X12_withdraw (l0 : Nat) (l1 : Int32) (M : mj_M) (post : Int32 → mj_M → Prop) : Prop := mj_tag M l0 = 13 ∧ vc_X12_isNotice l0 l1 M (fun r2 M3 => if r2 = true then (mj_tag M3 l0 = 13 ∧ vc_X12_statusOf l0 l1 M3 (fun r6 M7 => if r6 ≤ 2 then (mj_tag M7 l0 = 13 ∧ mj_tag M7 (mj_r M7 l0 28) = 101 ∧ vp_in l1 (mj_len M7 (mj_r M7 l0 28)) ∧ mj_tag M7 (mj_r M7 l0 29) = 101 ∧ vp_in l1 (mj_len M7 (mj_r M7 l0 29)) ∧ post 1 (mj_wi (mj_wi M7 (mj_r M7 l0 28) (l1 : Int32).toNatClampNeg 3) (mj_r M7 l0 29) (l1 : Int32).toNatClampNeg (mj_i (mj_wi M7 (mj_r M7 l0 28) (l1 : Int32).toNatClampNeg 3) l0 0))) else (post ((-3)) M7))) else (post ((-1)) M3))
set_option maxHeartbeats 4000000 in
set_option maxRecDepth 100000 in
theorem ct_X12_withdraw {l : Launch} {base : Nat} {D : va_G} {A : ClassId × ClassId × ClassId} (l0 : Nat) (l1 : Int32) (M : mj_M) (post : Int32 → mj_M → Prop) (h : vc_X12_withdraw l0 l1 M post) : mj_Met l base D A mj_jI yX12_withdraw cX12_withdraw 2 (some .int) rm_X12_withdraw 0 0 [vR l0, vI l1] M post := by
  refine mj_entry (by decide +kernel) (Nat.le_of_ble_eq_true rfl) (fun g hC hE h1 h2 h3 h4 => ?_)
  show mj_X g 0 [(0, vR l0), (1, vI l1)] [] M 0 0
  simp only [vc_X12_withdraw] at h
  refine mx_aload_n (j := 0) hC dX12_withdraw_0 rfl rfl ?_
  refine mx_iload_n (j := 1) hC dX12_withdraw_1 rfl rfl ?_
  obtain ⟨ht1, h⟩ := h
  refine mx_callV (inj := mj_jB) (As := [vI l1]) (st := []) hC (ct_X12_isNotice l0 l1 M _ h) ty_X12_isNotice tw1620 ht1 rfl (Nat.le_of_ble_eq_true rfl) ⟨rfl, rfl, ⟨by decide, by decide⟩, by decide, by decide⟩ dX12_withdraw_2 (fun r2 M3 h => ?_)
  show mj_X g 5 [(0, vR l0), (1, vI l1)] [vI (mj_b r2)] M3 0 0
  refine mx_ifneB (tgt := 10) hC dX12_withdraw_5 (by decide) (fun hc4 => ?_) (fun hc4 => ?_)
  · replace h := mj_yy hc4 h
    refine mx_aload_n (j := 0) hC dX12_withdraw_10 rfl rfl ?_
    refine mx_iload_n (j := 1) hC dX12_withdraw_11 rfl rfl ?_
    obtain ⟨ht5, h⟩ := h
    refine mx_callV (inj := mj_jI) (As := [vI l1]) (st := []) hC (ct_X12_statusOf l0 l1 M3 _ h) ty_X12_statusOf tw1612 ht5 rfl (Nat.le_of_ble_eq_true rfl) ⟨rfl, rfl, ⟨by decide, by decide⟩, by decide, by decide⟩ dX12_withdraw_12 (fun r6 M7 h => ?_)
    show mj_X g 15 [(0, vR l0), (1, vI l1)] [vI r6] M7 0 0
    refine mx_iconst (v := 2) hC dX12_withdraw_15 (by decide) ?_
    refine mx_icmple (tgt := 22) hC dX12_withdraw_16 (by decide) (fun hc8 => ?_) (fun hc8 => ?_)
    · replace h := mj_yy hc8 h
      refine mx_aload_n (j := 0) hC dX12_withdraw_22 rfl rfl ?_
      obtain ⟨ht9, h⟩ := h
      refine mx_get (v := vR (mj_r M7 l0 28)) hC tf_X12_83 ht9 rfl dX12_withdraw_23 ?_
      refine mx_iload_n (j := 1) hC dX12_withdraw_26 rfl rfl ?_
      refine mx_iconst (v := 3) hC dX12_withdraw_27 (by decide) ?_
      obtain ⟨ht10, h⟩ := h
      obtain ⟨hi11, h⟩ := h
      refine mx_iastore hC ht10 hi11 dX12_withdraw_28 ?_
      refine mx_aload_n (j := 0) hC dX12_withdraw_29 rfl rfl ?_
      refine mx_get (v := vR (mj_r M7 l0 29)) hC tf_X12_86 ht9 rfl dX12_withdraw_30 ?_
      refine mx_iload_n (j := 1) hC dX12_withdraw_33 rfl rfl ?_
      refine mx_aload_n (j := 0) hC dX12_withdraw_34 rfl rfl ?_
      refine mx_get (v := vI (mj_i (mj_wi M7 (mj_r M7 l0 28) (l1 : Int32).toNatClampNeg 3) l0 0)) hC tf_X12_151 ht9 rfl dX12_withdraw_35 ?_
      obtain ⟨ht12, h⟩ := h
      obtain ⟨hi13, h⟩ := h
      refine mx_iastore hC ht12 hi13 dX12_withdraw_38 ?_
      refine mx_iconst (v := 1) hC dX12_withdraw_39 (by decide) ?_
      exact mx_iret hC hE rfl dX12_withdraw_40 h
    · replace h := mj_nn hc8 h
      refine mx_bipush (v := (-3)) hC dX12_withdraw_19 (by decide) ?_
      exact mx_iret hC hE rfl dX12_withdraw_21 h
  · replace h := mj_nn hc4 h
    refine mx_iconst (v := (-1)) hC dX12_withdraw_8 (by decide) ?_
    exact mx_iret hC hE rfl dX12_withdraw_9 h
def rm_X12_tribunal : Room := { frames := 2, cells := 0, slots := 0, locals := 46 }
theorem dX12_tribunal_0 : decode cX12_tribunal 0 = .ok (.aload_n 0, 1) := by decide +kernel
theorem dX12_tribunal_1 : decode cX12_tribunal 1 = .ok (.iload_n 1, 1) := by decide +kernel
theorem dX12_tribunal_2 : decode cX12_tribunal 2 = .ok (.invokevirtual 299, 3) := by decide +kernel
theorem dX12_tribunal_5 : decode cX12_tribunal 5 = .ok (.ifCond .ne 5, 3) := by decide +kernel
theorem dX12_tribunal_8 : decode cX12_tribunal 8 = .ok (.iconst (-1), 1) := by decide +kernel
theorem dX12_tribunal_9 : decode cX12_tribunal 9 = .ok (.ireturn, 1) := by decide +kernel
theorem dX12_tribunal_10 : decode cX12_tribunal 10 = .ok (.aload_n 0, 1) := by decide +kernel
theorem dX12_tribunal_11 : decode cX12_tribunal 11 = .ok (.iload_n 1, 1) := by decide +kernel
theorem dX12_tribunal_12 : decode cX12_tribunal 12 = .ok (.invokevirtual 293, 3) := by decide +kernel
theorem dX12_tribunal_15 : decode cX12_tribunal 15 = .ok (.iconst 2, 1) := by decide +kernel
theorem dX12_tribunal_16 : decode cX12_tribunal 16 = .ok (.if_icmp .eq 6, 3) := by decide +kernel
theorem dX12_tribunal_19 : decode cX12_tribunal 19 = .ok (.bipush (-3), 2) := by decide +kernel
theorem dX12_tribunal_21 : decode cX12_tribunal 21 = .ok (.ireturn, 1) := by decide +kernel
theorem dX12_tribunal_22 : decode cX12_tribunal 22 = .ok (.aload_n 0, 1) := by decide +kernel
theorem dX12_tribunal_23 : decode cX12_tribunal 23 = .ok (.getfield 83, 3) := by decide +kernel
theorem dX12_tribunal_26 : decode cX12_tribunal 26 = .ok (.iload_n 1, 1) := by decide +kernel
theorem dX12_tribunal_27 : decode cX12_tribunal 27 = .ok (.iload_n 2, 1) := by decide +kernel
theorem dX12_tribunal_28 : decode cX12_tribunal 28 = .ok (.ifCond .eq 7, 3) := by decide +kernel
theorem dX12_tribunal_31 : decode cX12_tribunal 31 = .ok (.iconst 1, 1) := by decide +kernel
theorem dX12_tribunal_32 : decode cX12_tribunal 32 = .ok (.goto 4, 3) := by decide +kernel
theorem dX12_tribunal_35 : decode cX12_tribunal 35 = .ok (.iconst 5, 1) := by decide +kernel
theorem dX12_tribunal_36 : decode cX12_tribunal 36 = .ok (.iastore, 1) := by decide +kernel
theorem dX12_tribunal_37 : decode cX12_tribunal 37 = .ok (.iconst 1, 1) := by decide +kernel
theorem dX12_tribunal_38 : decode cX12_tribunal 38 = .ok (.ireturn, 1) := by decide +kernel
def vc_X12_tribunal (l0 : Nat) (l1 : Int32) (l2 : Bool) (M : mj_M) (post : Int32 → mj_M → Prop) : Prop := mj_tag M l0 = 13 ∧ vc_X12_isNotice l0 l1 M (fun r2 M3 => if r2 = true then (mj_tag M3 l0 = 13 ∧ vc_X12_statusOf l0 l1 M3 (fun r6 M7 => if r6 = 2 then (mj_tag M7 l0 = 13 ∧ if l2 = true then (mj_tag M7 (mj_r M7 l0 28) = 101 ∧ vp_in l1 (mj_len M7 (mj_r M7 l0 28)) ∧ post 1 (mj_wi M7 (mj_r M7 l0 28) (l1 : Int32).toNatClampNeg 1)) else (mj_tag M7 (mj_r M7 l0 28) = 101 ∧ vp_in l1 (mj_len M7 (mj_r M7 l0 28)) ∧ post 1 (mj_wi M7 (mj_r M7 l0 28) (l1 : Int32).toNatClampNeg 5))) else (post ((-3)) M7))) else (post ((-1)) M3))
set_option maxHeartbeats 4000000 in
set_option maxRecDepth 100000 in
theorem ct_X12_tribunal {l : Launch} {base : Nat} {D : va_G} {A : ClassId × ClassId × ClassId} (l0 : Nat) (l1 : Int32) (l2 : Bool) (M : mj_M) (post : Int32 → mj_M → Prop) (h : vc_X12_tribunal l0 l1 l2 M post) : mj_Met l base D A mj_jI yX12_tribunal cX12_tribunal 3 (some .int) rm_X12_tribunal 0 0 [vR l0, vI l1, vI (mj_b l2)] M post := by
  refine mj_entry (by decide +kernel) (Nat.le_of_ble_eq_true rfl) (fun g hC hE h1 h2 h3 h4 => ?_)
  show mj_X g 0 [(0, vR l0), (1, vI l1), (2, vI (mj_b l2))] [] M 0 0
  simp only [vc_X12_tribunal] at h
  refine mx_aload_n (j := 0) hC dX12_tribunal_0 rfl rfl ?_
  refine mx_iload_n (j := 1) hC dX12_tribunal_1 rfl rfl ?_
  obtain ⟨ht1, h⟩ := h
  refine mx_callV (inj := mj_jB) (As := [vI l1]) (st := []) hC (ct_X12_isNotice l0 l1 M _ h) ty_X12_isNotice tw1620 ht1 rfl (Nat.le_of_ble_eq_true rfl) ⟨rfl, rfl, ⟨by decide, by decide⟩, by decide, by decide⟩ dX12_tribunal_2 (fun r2 M3 h => ?_)
  show mj_X g 5 [(0, vR l0), (1, vI l1), (2, vI (mj_b l2))] [vI (mj_b r2)] M3 0 0
  refine mx_ifneB (tgt := 10) hC dX12_tribunal_5 (by decide) (fun hc4 => ?_) (fun hc4 => ?_)
  · replace h := mj_yy hc4 h
    refine mx_aload_n (j := 0) hC dX12_tribunal_10 rfl rfl ?_
    refine mx_iload_n (j := 1) hC dX12_tribunal_11 rfl rfl ?_
    obtain ⟨ht5, h⟩ := h
    refine mx_callV (inj := mj_jI) (As := [vI l1]) (st := []) hC (ct_X12_statusOf l0 l1 M3 _ h) ty_X12_statusOf tw1612 ht5 rfl (Nat.le_of_ble_eq_true rfl) ⟨rfl, rfl, ⟨by decide, by decide⟩, by decide, by decide⟩ dX12_tribunal_12 (fun r6 M7 h => ?_)
    show mj_X g 15 [(0, vR l0), (1, vI l1), (2, vI (mj_b l2))] [vI r6] M7 0 0
    refine mx_iconst (v := 2) hC dX12_tribunal_15 (by decide) ?_
    refine mx_icmpeq (tgt := 22) hC dX12_tribunal_16 (by decide) (fun hc8 => ?_) (fun hc8 => ?_)
    · replace h := mj_yy hc8 h
      refine mx_aload_n (j := 0) hC dX12_tribunal_22 rfl rfl ?_
      obtain ⟨ht9, h⟩ := h
      refine mx_get (v := vR (mj_r M7 l0 28)) hC tf_X12_83 ht9 rfl dX12_tribunal_23 ?_
      refine mx_iload_n (j := 1) hC dX12_tribunal_26 rfl rfl ?_
      refine mx_iload_n (j := 2) hC dX12_tribunal_27 rfl rfl ?_
      refine mx_ifeqB (tgt := 35) hC dX12_tribunal_28 (by decide) (fun hc10 => ?_) (fun hc10 => ?_)
      · replace h := mj_nn hc10 h
        refine mx_iconst (v := 5) hC dX12_tribunal_35 (by decide) ?_
        obtain ⟨ht11, h⟩ := h
        obtain ⟨hi12, h⟩ := h
        refine mx_iastore hC ht11 hi12 dX12_tribunal_36 ?_
        refine mx_iconst (v := 1) hC dX12_tribunal_37 (by decide) ?_
        exact mx_iret hC hE rfl dX12_tribunal_38 h
      · replace h := mj_yy hc10 h
        refine mx_iconst (v := 1) hC dX12_tribunal_31 (by decide) ?_
        refine mx_goto (tgt := 36) hC dX12_tribunal_32 (by decide) ?_
        obtain ⟨ht13, h⟩ := h
        obtain ⟨hi14, h⟩ := h
        refine mx_iastore hC ht13 hi14 dX12_tribunal_36 ?_
        refine mx_iconst (v := 1) hC dX12_tribunal_37 (by decide) ?_
        exact mx_iret hC hE rfl dX12_tribunal_38 h
    · replace h := mj_nn hc8 h
      refine mx_bipush (v := (-3)) hC dX12_tribunal_19 (by decide) ?_
      exact mx_iret hC hE rfl dX12_tribunal_21 h
  · replace h := mj_nn hc4 h
    refine mx_iconst (v := (-1)) hC dX12_tribunal_8 (by decide) ?_
    exact mx_iret hC hE rfl dX12_tribunal_9 h
def rm_X12_status : Room := { frames := 2, cells := 0, slots := 0, locals := 46 }
theorem dX12_status_0 : decode cX12_status 0 = .ok (.aload_n 0, 1) := by decide +kernel
theorem dX12_status_1 : decode cX12_status 1 = .ok (.iload_n 1, 1) := by decide +kernel
theorem dX12_status_2 : decode cX12_status 2 = .ok (.invokevirtual 299, 3) := by decide +kernel
theorem dX12_status_5 : decode cX12_status 5 = .ok (.ifCond .eq 11, 3) := by decide +kernel
theorem dX12_status_8 : decode cX12_status 8 = .ok (.aload_n 0, 1) := by decide +kernel
theorem dX12_status_9 : decode cX12_status 9 = .ok (.iload_n 1, 1) := by decide +kernel
theorem dX12_status_10 : decode cX12_status 10 = .ok (.invokevirtual 293, 3) := by decide +kernel
theorem dX12_status_13 : decode cX12_status 13 = .ok (.goto 4, 3) := by decide +kernel
theorem dX12_status_16 : decode cX12_status 16 = .ok (.iconst (-1), 1) := by decide +kernel
theorem dX12_status_17 : decode cX12_status 17 = .ok (.ireturn, 1) := by decide +kernel
def vc_X12_status (l0 : Nat) (l1 : Int32) (M : mj_M) (post : Int32 → mj_M → Prop) : Prop := mj_tag M l0 = 13 ∧ vc_X12_isNotice l0 l1 M (fun r2 M3 => if r2 = true then (mj_tag M3 l0 = 13 ∧ vc_X12_statusOf l0 l1 M3 (fun r6 M7 => post r6 M7)) else (post ((-1)) M3))
set_option maxHeartbeats 4000000 in
set_option maxRecDepth 100000 in
theorem ct_X12_status {l : Launch} {base : Nat} {D : va_G} {A : ClassId × ClassId × ClassId} (l0 : Nat) (l1 : Int32) (M : mj_M) (post : Int32 → mj_M → Prop) (h : vc_X12_status l0 l1 M post) : mj_Met l base D A mj_jI yX12_status cX12_status 2 (some .int) rm_X12_status 0 0 [vR l0, vI l1] M post := by
  refine mj_entry (by decide +kernel) (Nat.le_of_ble_eq_true rfl) (fun g hC hE h1 h2 h3 h4 => ?_)
  show mj_X g 0 [(0, vR l0), (1, vI l1)] [] M 0 0
  simp only [vc_X12_status] at h
  refine mx_aload_n (j := 0) hC dX12_status_0 rfl rfl ?_
  refine mx_iload_n (j := 1) hC dX12_status_1 rfl rfl ?_
  obtain ⟨ht1, h⟩ := h
  refine mx_callV (inj := mj_jB) (As := [vI l1]) (st := []) hC (ct_X12_isNotice l0 l1 M _ h) ty_X12_isNotice tw1620 ht1 rfl (Nat.le_of_ble_eq_true rfl) ⟨rfl, rfl, ⟨by decide, by decide⟩, by decide, by decide⟩ dX12_status_2 (fun r2 M3 h => ?_)
  show mj_X g 5 [(0, vR l0), (1, vI l1)] [vI (mj_b r2)] M3 0 0
  refine mx_ifeqB (tgt := 16) hC dX12_status_5 (by decide) (fun hc4 => ?_) (fun hc4 => ?_)
  · replace h := mj_nn hc4 h
    refine mx_iconst (v := (-1)) hC dX12_status_16 (by decide) ?_
    exact mx_iret hC hE rfl dX12_status_17 h
  · replace h := mj_yy hc4 h
    refine mx_aload_n (j := 0) hC dX12_status_8 rfl rfl ?_
    refine mx_iload_n (j := 1) hC dX12_status_9 rfl rfl ?_
    obtain ⟨ht5, h⟩ := h
    refine mx_callV (inj := mj_jI) (As := [vI l1]) (st := []) hC (ct_X12_statusOf l0 l1 M3 _ h) ty_X12_statusOf tw1612 ht5 rfl (Nat.le_of_ble_eq_true rfl) ⟨rfl, rfl, ⟨by decide, by decide⟩, by decide, by decide⟩ dX12_status_10 (fun r6 M7 h => ?_)
    show mj_X g 13 [(0, vR l0), (1, vI l1)] [vI r6] M7 0 0
    refine mx_goto (tgt := 17) hC dX12_status_13 (by decide) ?_
    exact mx_iret hC hE rfl dX12_status_17 h
def rm_X12_isBarred : Room := { frames := 3, cells := 0, slots := 0, locals := 69 }
theorem dX12_isBarred_0 : decode cX12_isBarred 0 = .ok (.iconst 0, 1) := by decide +kernel
theorem dX12_isBarred_1 : decode cX12_isBarred 1 = .ok (.istore 4, 2) := by decide +kernel
theorem dX12_isBarred_3 : decode cX12_isBarred 3 = .ok (.iconst 0, 1) := by decide +kernel
theorem dX12_isBarred_4 : decode cX12_isBarred 4 = .ok (.istore 5, 2) := by decide +kernel
theorem dX12_isBarred_6 : decode cX12_isBarred 6 = .ok (.iload 5, 2) := by decide +kernel
theorem dX12_isBarred_8 : decode cX12_isBarred 8 = .ok (.aload_n 0, 1) := by decide +kernel
theorem dX12_isBarred_9 : decode cX12_isBarred 9 = .ok (.getfield 130, 3) := by decide +kernel
theorem dX12_isBarred_12 : decode cX12_isBarred 12 = .ok (.if_icmp .ge 50, 3) := by decide +kernel
theorem dX12_isBarred_15 : decode cX12_isBarred 15 = .ok (.iload 4, 2) := by decide +kernel
theorem dX12_isBarred_17 : decode cX12_isBarred 17 = .ok (.ifCond .ne 32, 3) := by decide +kernel
theorem dX12_isBarred_20 : decode cX12_isBarred 20 = .ok (.iload 5, 2) := by decide +kernel
theorem dX12_isBarred_22 : decode cX12_isBarred 22 = .ok (.iload_n 1, 1) := by decide +kernel
theorem dX12_isBarred_23 : decode cX12_isBarred 23 = .ok (.if_icmp .eq 30, 3) := by decide +kernel
theorem dX12_isBarred_26 : decode cX12_isBarred 26 = .ok (.aload_n 0, 1) := by decide +kernel
theorem dX12_isBarred_27 : decode cX12_isBarred 27 = .ok (.iload 5, 2) := by decide +kernel
theorem dX12_isBarred_29 : decode cX12_isBarred 29 = .ok (.aload_n 0, 1) := by decide +kernel
theorem dX12_isBarred_30 : decode cX12_isBarred 30 = .ok (.getfield 7, 3) := by decide +kernel
theorem dX12_isBarred_33 : decode cX12_isBarred 33 = .ok (.iload_n 1, 1) := by decide +kernel
theorem dX12_isBarred_34 : decode cX12_isBarred 34 = .ok (.iaload, 1) := by decide +kernel
theorem dX12_isBarred_35 : decode cX12_isBarred 35 = .ok (.aload_n 0, 1) := by decide +kernel
theorem dX12_isBarred_36 : decode cX12_isBarred 36 = .ok (.getfield 13, 3) := by decide +kernel
theorem dX12_isBarred_39 : decode cX12_isBarred 39 = .ok (.iload_n 1, 1) := by decide +kernel
theorem dX12_isBarred_40 : decode cX12_isBarred 40 = .ok (.iaload, 1) := by decide +kernel
theorem dX12_isBarred_41 : decode cX12_isBarred 41 = .ok (.iload_n 2, 1) := by decide +kernel
theorem dX12_isBarred_42 : decode cX12_isBarred 42 = .ok (.iload_n 3, 1) := by decide +kernel
theorem dX12_isBarred_43 : decode cX12_isBarred 43 = .ok (.invokevirtual 183, 3) := by decide +kernel
theorem dX12_isBarred_46 : decode cX12_isBarred 46 = .ok (.ifCond .eq 7, 3) := by decide +kernel
theorem dX12_isBarred_49 : decode cX12_isBarred 49 = .ok (.iconst 1, 1) := by decide +kernel
theorem dX12_isBarred_50 : decode cX12_isBarred 50 = .ok (.goto 4, 3) := by decide +kernel
theorem dX12_isBarred_53 : decode cX12_isBarred 53 = .ok (.iconst 0, 1) := by decide +kernel
theorem dX12_isBarred_54 : decode cX12_isBarred 54 = .ok (.istore 4, 2) := by decide +kernel
theorem dX12_isBarred_56 : decode cX12_isBarred 56 = .ok (.iinc 5 1, 3) := by decide +kernel
theorem dX12_isBarred_59 : decode cX12_isBarred 59 = .ok (.goto (-53), 3) := by decide +kernel
theorem dX12_isBarred_62 : decode cX12_isBarred 62 = .ok (.iload 4, 2) := by decide +kernel
theorem dX12_isBarred_64 : decode cX12_isBarred 64 = .ok (.ireturn, 1) := by decide +kernel
def vb_X12_isBarred_6 (post : Bool → mj_M → Prop) : Nat → Nat → Int32 → Int32 → Int32 → Bool → Int32 → mj_M → Prop
  | 0 => fun _ _ _ _ _ _ _ => False
  | f + 1 => fun l0 l1 l2 l3 l4 l5 M => mj_tag M l0 = 13 ∧ if (mj_i M l0 13) ≤ l5 then (post l4 M) else (if l4 = true then (vb_X12_isBarred_6 post f l0 l1 l2 l3 true (l5 + 1) M) else (if l5 = l1 then (vb_X12_isBarred_6 post f l0 l1 l2 l3 false (l5 + 1) M) else (mj_tag M (mj_r M l0 1) = 101 ∧ vp_in l1 (mj_len M (mj_r M l0 1)) ∧ mj_tag M (mj_r M l0 2) = 101 ∧ vp_in l1 (mj_len M (mj_r M l0 2)) ∧ vc_X12_isInWay l0 l5 (mj_i M (mj_r M l0 1) (l1 : Int32).toNatClampNeg) (mj_i M (mj_r M l0 2) (l1 : Int32).toNatClampNeg) l2 l3 M (fun r9 M10 => if r9 = true then (vb_X12_isBarred_6 post f l0 l1 l2 l3 true (l5 + 1) M10) else (vb_X12_isBarred_6 post f l0 l1 l2 l3 false (l5 + 1) M10)))))
def vc_X12_isBarred (l0 : Nat) (l1 : Int32) (l2 : Int32) (l3 : Int32) (M : mj_M) (post : Bool → mj_M → Prop) : Prop := ∃ fe, vb_X12_isBarred_6 post fe l0 l1 l2 l3 false 0 M
set_option maxHeartbeats 4000000 in
set_option maxRecDepth 100000 in
theorem xb_X12_isBarred_6 {g : mj_G} {post : Bool → mj_M → Prop} (hC : mj_C g yX12_isBarred cX12_isBarred 6 (some .boolean) rm_X12_isBarred) (hE : mj_E g mj_jB post 0 0) : ∀ (f : Nat) (l0 : Nat) (l1 : Int32) (l2 : Int32) (l3 : Int32) (l4 : Bool) (l5 : Int32) (M : mj_M), vb_X12_isBarred_6 post f l0 l1 l2 l3 l4 l5 M → mj_X g 6 [(0, vR l0), (1, vI l1), (2, vI l2), (3, vI l3), (4, vI (mj_b l4)), (5, vI l5)] [] M 0 0 := by
  intro f
  induction f with
  | zero => exact fun _ _ _ _ _ _ _ h => absurd h (fun z => z)
  | succ f ih =>
    intro l0 l1 l2 l3 l4 l5 M h
    simp only [vb_X12_isBarred_6] at h
    refine mx_iload (j := 5) hC dX12_isBarred_6 rfl ?_
    refine mx_aload_n (j := 0) hC dX12_isBarred_8 rfl rfl ?_
    obtain ⟨ht1, h⟩ := h
    refine mx_get (v := vI (mj_i M l0 13)) hC tf_X12_130 ht1 rfl dX12_isBarred_9 ?_
    refine mx_icmpge (tgt := 62) hC dX12_isBarred_12 (by decide) (fun hc2 => ?_) (fun hc2 => ?_)
    · replace h := mj_yy hc2 h
      refine mx_iload (j := 4) hC dX12_isBarred_62 rfl ?_
      exact mx_zret (b := l4) hC hE rfl dX12_isBarred_64 h
    · replace h := mj_nn hc2 h
      refine mx_iload (j := 4) hC dX12_isBarred_15 rfl ?_
      refine mx_ifneB (tgt := 49) hC dX12_isBarred_17 (by decide) (fun hc3 => ?_) (fun hc3 => ?_)
      · replace h := mj_yy hc3 h
        refine mx_iconst (v := 1) hC dX12_isBarred_49 (by decide) ?_
        refine mx_goto (tgt := 54) hC dX12_isBarred_50 (by decide) ?_
        refine mx_istore (L' := [(4, vI 1), (0, vR l0), (1, vI l1), (2, vI l2), (3, vI l3), (5, vI l5)]) hC dX12_isBarred_54 (by decide) rfl ?_
        refine mx_iinc (j := 5) (v := l5 + 1) (L' := [(5, vI (l5 + 1)), (4, vI 1), (0, vR l0), (1, vI l1), (2, vI l2), (3, vI l3)]) hC dX12_isBarred_56 rfl rfl (by decide) rfl ?_
        refine mx_goto (tgt := 6) hC dX12_isBarred_59 (by decide) ?_
        refine mx_sub (L' := [(0, vR l0), (1, vI l1), (2, vI l2), (3, vI l3), (4, vI (mj_b true)), (5, vI (l5 + 1))]) [2, 3, 4, 5, 1, 0] rfl ?_
        exact show mj_X g 6 [(0, vR l0), (1, vI l1), (2, vI l2), (3, vI l3), (4, vI (mj_b true)), (5, vI (l5 + 1))] [] M 0 0 from (ih l0 l1 l2 l3 true (l5 + 1) M h)
      · replace h := mj_nn hc3 h
        refine mx_iload (j := 5) hC dX12_isBarred_20 rfl ?_
        refine mx_iload_n (j := 1) hC dX12_isBarred_22 rfl rfl ?_
        refine mx_icmpeq (tgt := 53) hC dX12_isBarred_23 (by decide) (fun hc4 => ?_) (fun hc4 => ?_)
        · replace h := mj_yy hc4 h
          refine mx_iconst (v := 0) hC dX12_isBarred_53 (by decide) ?_
          refine mx_istore (L' := [(4, vI 0), (0, vR l0), (1, vI l1), (2, vI l2), (3, vI l3), (5, vI l5)]) hC dX12_isBarred_54 (by decide) rfl ?_
          refine mx_iinc (j := 5) (v := l5 + 1) (L' := [(5, vI (l5 + 1)), (4, vI 0), (0, vR l0), (1, vI l1), (2, vI l2), (3, vI l3)]) hC dX12_isBarred_56 rfl rfl (by decide) rfl ?_
          refine mx_goto (tgt := 6) hC dX12_isBarred_59 (by decide) ?_
          refine mx_sub (L' := [(0, vR l0), (1, vI l1), (2, vI l2), (3, vI l3), (4, vI (mj_b false)), (5, vI (l5 + 1))]) [2, 3, 4, 5, 1, 0] rfl ?_
          exact show mj_X g 6 [(0, vR l0), (1, vI l1), (2, vI l2), (3, vI l3), (4, vI (mj_b false)), (5, vI (l5 + 1))] [] M 0 0 from (ih l0 l1 l2 l3 false (l5 + 1) M h)
        · replace h := mj_nn hc4 h
          refine mx_aload_n (j := 0) hC dX12_isBarred_26 rfl rfl ?_
          refine mx_iload (j := 5) hC dX12_isBarred_27 rfl ?_
          refine mx_aload_n (j := 0) hC dX12_isBarred_29 rfl rfl ?_
          refine mx_get (v := vR (mj_r M l0 1)) hC tf_X12_7 ht1 rfl dX12_isBarred_30 ?_
          refine mx_iload_n (j := 1) hC dX12_isBarred_33 rfl rfl ?_
          obtain ⟨ht5, h⟩ := h
          obtain ⟨hi6, h⟩ := h
          refine mx_iaload hC ht5 hi6 dX12_isBarred_34 ?_
          refine mx_aload_n (j := 0) hC dX12_isBarred_35 rfl rfl ?_
          refine mx_get (v := vR (mj_r M l0 2)) hC tf_X12_13 ht1 rfl dX12_isBarred_36 ?_
          refine mx_iload_n (j := 1) hC dX12_isBarred_39 rfl rfl ?_
          obtain ⟨ht7, h⟩ := h
          obtain ⟨hi8, h⟩ := h
          refine mx_iaload hC ht7 hi8 dX12_isBarred_40 ?_
          refine mx_iload_n (j := 2) hC dX12_isBarred_41 rfl rfl ?_
          refine mx_iload_n (j := 3) hC dX12_isBarred_42 rfl rfl ?_
          refine mx_callV (inj := mj_jB) (As := [vI l5, vI (mj_i M (mj_r M l0 1) (l1 : Int32).toNatClampNeg), vI (mj_i M (mj_r M l0 2) (l1 : Int32).toNatClampNeg), vI l2, vI l3]) (st := []) hC (ct_X12_isInWay l0 l5 (mj_i M (mj_r M l0 1) (l1 : Int32).toNatClampNeg) (mj_i M (mj_r M l0 2) (l1 : Int32).toNatClampNeg) l2 l3 M _ h) ty_X12_isInWay tw1419 ht1 rfl (Nat.le_of_ble_eq_true rfl) ⟨rfl, rfl, ⟨by decide, by decide⟩, by decide, by decide⟩ dX12_isBarred_43 (fun r9 M10 h => ?_)
          show mj_X g 46 [(0, vR l0), (1, vI l1), (2, vI l2), (3, vI l3), (4, vI (mj_b l4)), (5, vI l5)] [vI (mj_b r9)] M10 0 0
          refine mx_ifeqB (tgt := 53) hC dX12_isBarred_46 (by decide) (fun hc11 => ?_) (fun hc11 => ?_)
          · replace h := mj_nn hc11 h
            refine mx_iconst (v := 0) hC dX12_isBarred_53 (by decide) ?_
            refine mx_istore (L' := [(4, vI 0), (0, vR l0), (1, vI l1), (2, vI l2), (3, vI l3), (5, vI l5)]) hC dX12_isBarred_54 (by decide) rfl ?_
            refine mx_iinc (j := 5) (v := l5 + 1) (L' := [(5, vI (l5 + 1)), (4, vI 0), (0, vR l0), (1, vI l1), (2, vI l2), (3, vI l3)]) hC dX12_isBarred_56 rfl rfl (by decide) rfl ?_
            refine mx_goto (tgt := 6) hC dX12_isBarred_59 (by decide) ?_
            refine mx_sub (L' := [(0, vR l0), (1, vI l1), (2, vI l2), (3, vI l3), (4, vI (mj_b false)), (5, vI (l5 + 1))]) [2, 3, 4, 5, 1, 0] rfl ?_
            exact show mj_X g 6 [(0, vR l0), (1, vI l1), (2, vI l2), (3, vI l3), (4, vI (mj_b false)), (5, vI (l5 + 1))] [] M10 0 0 from (ih l0 l1 l2 l3 false (l5 + 1) M10 h)
          · replace h := mj_yy hc11 h
            refine mx_iconst (v := 1) hC dX12_isBarred_49 (by decide) ?_
            refine mx_goto (tgt := 54) hC dX12_isBarred_50 (by decide) ?_
            refine mx_istore (L' := [(4, vI 1), (0, vR l0), (1, vI l1), (2, vI l2), (3, vI l3), (5, vI l5)]) hC dX12_isBarred_54 (by decide) rfl ?_
            refine mx_iinc (j := 5) (v := l5 + 1) (L' := [(5, vI (l5 + 1)), (4, vI 1), (0, vR l0), (1, vI l1), (2, vI l2), (3, vI l3)]) hC dX12_isBarred_56 rfl rfl (by decide) rfl ?_
            refine mx_goto (tgt := 6) hC dX12_isBarred_59 (by decide) ?_
            refine mx_sub (L' := [(0, vR l0), (1, vI l1), (2, vI l2), (3, vI l3), (4, vI (mj_b true)), (5, vI (l5 + 1))]) [2, 3, 4, 5, 1, 0] rfl ?_
            exact show mj_X g 6 [(0, vR l0), (1, vI l1), (2, vI l2), (3, vI l3), (4, vI (mj_b true)), (5, vI (l5 + 1))] [] M10 0 0 from (ih l0 l1 l2 l3 true (l5 + 1) M10 h)
set_option maxHeartbeats 4000000 in
set_option maxRecDepth 100000 in
theorem ct_X12_isBarred {l : Launch} {base : Nat} {D : va_G} {A : ClassId × ClassId × ClassId} (l0 : Nat) (l1 : Int32) (l2 : Int32) (l3 : Int32) (M : mj_M) (post : Bool → mj_M → Prop) (h : vc_X12_isBarred l0 l1 l2 l3 M post) : mj_Met l base D A mj_jB yX12_isBarred cX12_isBarred 6 (some .boolean) rm_X12_isBarred 0 0 [vR l0, vI l1, vI l2, vI l3] M post := by
  refine mj_entry (by decide +kernel) (Nat.le_of_ble_eq_true rfl) (fun g hC hE h1 h2 h3 h4 => ?_)
  show mj_X g 0 [(0, vR l0), (1, vI l1), (2, vI l2), (3, vI l3)] [] M 0 0
  simp only [vc_X12_isBarred] at h
  refine mx_iconst (v := 0) hC dX12_isBarred_0 (by decide) ?_
  refine mx_istore (L' := [(4, vI 0), (0, vR l0), (1, vI l1), (2, vI l2), (3, vI l3)]) hC dX12_isBarred_1 (by decide) rfl ?_
  refine mx_iconst (v := 0) hC dX12_isBarred_3 (by decide) ?_
  refine mx_istore (L' := [(5, vI 0), (4, vI 0), (0, vR l0), (1, vI l1), (2, vI l2), (3, vI l3)]) hC dX12_isBarred_4 (by decide) rfl ?_
  refine mx_sub (L' := [(0, vR l0), (1, vI l1), (2, vI l2), (3, vI l3), (4, vI (mj_b false)), (5, vI 0)]) [2, 3, 4, 5, 1, 0] rfl ?_
  obtain ⟨fe, h⟩ := h
  exact show mj_X g 6 [(0, vR l0), (1, vI l1), (2, vI l2), (3, vI l3), (4, vI (mj_b false)), (5, vI 0)] [] M 0 0 from (xb_X12_isBarred_6 hC hE fe l0 l1 l2 l3 false 0 M h)
theorem tw1653 : (Jvm.Cond.methodLink "LeaseLandModel" (302 : Nat) ({ cls := "LeaseLandModel", name := "isBarred", desc := "(III)Z" } : Jvm.MethodName)) ∈ mj_tbl := mj_w 1706 (by decide +kernel) (by decide +kernel)
theorem tw1656 : (Jvm.Cond.code ({ cls := "LeaseLandModel", name := "isBarred", desc := "(III)Z" } : Jvm.MethodName) prog_14_method_69_code (6 : Nat) (Option.some Jvm.ClassFile.FieldType.boolean)) ∈ mj_tbl := mj_w 1709 (by decide +kernel) (by decide +kernel)
theorem tw1655 : (Jvm.Cond.instanceMethod ({ cls := "LeaseLandModel", name := "isBarred", desc := "(III)Z" } : Jvm.MethodName)) ∈ mj_tbl := mj_w 1708 (by decide +kernel) (by decide +kernel)
theorem ty_X12_isBarred : mj_YV 12 yX12_isBarred cX12_isBarred 6 (some .boolean) 3 := ⟨⟨tw1656, tw11, by decide +kernel, by decide +kernel, by decide +kernel⟩, tw1655, mj_w 34 (by decide +kernel) (by decide +kernel), _, rfl, rfl⟩
def rm_X12_canLonger : Room := { frames := 4, cells := 0, slots := 0, locals := 94 }
theorem dX12_canLonger_0 : decode cX12_canLonger 0 = .ok (.iconst 1, 1) := by decide +kernel
theorem dX12_canLonger_1 : decode cX12_canLonger 1 = .ok (.istore_n 3, 1) := by decide +kernel
theorem dX12_canLonger_2 : decode cX12_canLonger 2 = .ok (.iload_n 1, 1) := by decide +kernel
theorem dX12_canLonger_3 : decode cX12_canLonger 3 = .ok (.istore 4, 2) := by decide +kernel
theorem dX12_canLonger_5 : decode cX12_canLonger 5 = .ok (.aload_n 0, 1) := by decide +kernel
theorem dX12_canLonger_6 : decode cX12_canLonger 6 = .ok (.getfield 7, 3) := by decide +kernel
theorem dX12_canLonger_9 : decode cX12_canLonger 9 = .ok (.iload 4, 2) := by decide +kernel
theorem dX12_canLonger_11 : decode cX12_canLonger 11 = .ok (.iaload, 1) := by decide +kernel
theorem dX12_canLonger_12 : decode cX12_canLonger 12 = .ok (.ifCond .lt 51, 3) := by decide +kernel
theorem dX12_canLonger_15 : decode cX12_canLonger 15 = .ok (.iload_n 3, 1) := by decide +kernel
theorem dX12_canLonger_16 : decode cX12_canLonger 16 = .ok (.ifCond .eq 33, 3) := by decide +kernel
theorem dX12_canLonger_19 : decode cX12_canLonger 19 = .ok (.aload_n 0, 1) := by decide +kernel
theorem dX12_canLonger_20 : decode cX12_canLonger 20 = .ok (.iload 4, 2) := by decide +kernel
theorem dX12_canLonger_22 : decode cX12_canLonger 22 = .ok (.invokevirtual 147, 3) := by decide +kernel
theorem dX12_canLonger_25 : decode cX12_canLonger 25 = .ok (.iload_n 2, 1) := by decide +kernel
theorem dX12_canLonger_26 : decode cX12_canLonger 26 = .ok (.if_icmp .ge 19, 3) := by decide +kernel
theorem dX12_canLonger_29 : decode cX12_canLonger 29 = .ok (.aload_n 0, 1) := by decide +kernel
theorem dX12_canLonger_30 : decode cX12_canLonger 30 = .ok (.iload 4, 2) := by decide +kernel
theorem dX12_canLonger_32 : decode cX12_canLonger 32 = .ok (.aload_n 0, 1) := by decide +kernel
theorem dX12_canLonger_33 : decode cX12_canLonger 33 = .ok (.iload 4, 2) := by decide +kernel
theorem dX12_canLonger_35 : decode cX12_canLonger 35 = .ok (.invokevirtual 147, 3) := by decide +kernel
theorem dX12_canLonger_38 : decode cX12_canLonger 38 = .ok (.iload_n 2, 1) := by decide +kernel
theorem dX12_canLonger_39 : decode cX12_canLonger 39 = .ok (.invokevirtual 302, 3) := by decide +kernel
theorem dX12_canLonger_42 : decode cX12_canLonger 42 = .ok (.ifCond .ne 7, 3) := by decide +kernel
theorem dX12_canLonger_45 : decode cX12_canLonger 45 = .ok (.iconst 1, 1) := by decide +kernel
theorem dX12_canLonger_46 : decode cX12_canLonger 46 = .ok (.goto 4, 3) := by decide +kernel
theorem dX12_canLonger_49 : decode cX12_canLonger 49 = .ok (.iconst 0, 1) := by decide +kernel
theorem dX12_canLonger_50 : decode cX12_canLonger 50 = .ok (.istore_n 3, 1) := by decide +kernel
theorem dX12_canLonger_51 : decode cX12_canLonger 51 = .ok (.aload_n 0, 1) := by decide +kernel
theorem dX12_canLonger_52 : decode cX12_canLonger 52 = .ok (.getfield 7, 3) := by decide +kernel
theorem dX12_canLonger_55 : decode cX12_canLonger 55 = .ok (.iload 4, 2) := by decide +kernel
theorem dX12_canLonger_57 : decode cX12_canLonger 57 = .ok (.iaload, 1) := by decide +kernel
theorem dX12_canLonger_58 : decode cX12_canLonger 58 = .ok (.istore 4, 2) := by decide +kernel
theorem dX12_canLonger_60 : decode cX12_canLonger 60 = .ok (.goto (-55), 3) := by decide +kernel
theorem dX12_canLonger_63 : decode cX12_canLonger 63 = .ok (.iload_n 3, 1) := by decide +kernel
theorem dX12_canLonger_64 : decode cX12_canLonger 64 = .ok (.ireturn, 1) := by decide +kernel
def vb_X12_canLonger_50 (k5 : Nat → Int32 → Bool → Int32 → mj_M → Prop) (post : Bool → mj_M → Prop) (l0 : Nat) (l2 : Int32) (l4 : Int32) (s0 : Bool) (M : mj_M) : Prop := mj_tag M l0 = 13 ∧ mj_tag M (mj_r M l0 1) = 101 ∧ vp_in l4 (mj_len M (mj_r M l0 1)) ∧ k5 l0 l2 s0 (mj_i M (mj_r M l0 1) (l4 : Int32).toNatClampNeg) M
def vb_X12_canLonger_45 (k5 : Nat → Int32 → Bool → Int32 → mj_M → Prop) (post : Bool → mj_M → Prop) (l0 : Nat) (l2 : Int32) (l4 : Int32) (M : mj_M) : Prop := vb_X12_canLonger_50 k5 post l0 l2 l4 true M
def vb_X12_canLonger_49 (k5 : Nat → Int32 → Bool → Int32 → mj_M → Prop) (post : Bool → mj_M → Prop) (l0 : Nat) (l2 : Int32) (l4 : Int32) (M : mj_M) : Prop := vb_X12_canLonger_50 k5 post l0 l2 l4 false M
def vb_X12_canLonger_5 (post : Bool → mj_M → Prop) : Nat → Nat → Int32 → Bool → Int32 → mj_M → Prop
  | 0 => fun _ _ _ _ _ => False
  | f + 1 => fun l0 l2 l3 l4 M => mj_tag M l0 = 13 ∧ mj_tag M (mj_r M l0 1) = 101 ∧ vp_in l4 (mj_len M (mj_r M l0 1)) ∧ if (mj_i M (mj_r M l0 1) (l4 : Int32).toNatClampNeg) < 0 then (post l3 M) else (if l3 = true then (vc_X12_until l0 l4 M (fun r9 M10 => if l2 ≤ r9 then (vb_X12_canLonger_45 (vb_X12_canLonger_5 post f) post l0 l2 l4 M10) else (mj_tag M10 l0 = 13 ∧ vc_X12_until l0 l4 M10 (fun r13 M14 => mj_tag M14 l0 = 13 ∧ vc_X12_isBarred l0 l4 r13 l2 M14 (fun r16 M17 => if r16 = true then (vb_X12_canLonger_49 (vb_X12_canLonger_5 post f) post l0 l2 l4 M17) else (vb_X12_canLonger_45 (vb_X12_canLonger_5 post f) post l0 l2 l4 M17)))))) else (vb_X12_canLonger_49 (vb_X12_canLonger_5 post f) post l0 l2 l4 M))
def vc_X12_canLonger (l0 : Nat) (l1 : Int32) (l2 : Int32) (M : mj_M) (post : Bool → mj_M → Prop) : Prop := ∃ fe, vb_X12_canLonger_5 post fe l0 l2 true l1 M
set_option maxHeartbeats 4000000 in
set_option maxRecDepth 100000 in
theorem xb_X12_canLonger_50 {g : mj_G} {post : Bool → mj_M → Prop} (hC : mj_C g yX12_canLonger cX12_canLonger 5 (some .boolean) rm_X12_canLonger) (hE : mj_E g mj_jB post 0 0) {k5 : Nat → Int32 → Bool → Int32 → mj_M → Prop} (hk5 : ∀ (l0 : Nat) (l2 : Int32) (l3 : Bool) (l4 : Int32) (M : mj_M), k5 l0 l2 l3 l4 M → mj_X g 5 [(0, vR l0), (2, vI l2), (3, vI (mj_b l3)), (4, vI l4)] [] M 0 0) (l0 : Nat) (l2 : Int32) (l4 : Int32) (s0 : Bool) (M : mj_M) (h : vb_X12_canLonger_50 k5 post l0 l2 l4 s0 M) : mj_X g 50 [(0, vR l0), (2, vI l2), (4, vI l4)] [vI (mj_b s0)] M 0 0 := by
  simp only [vb_X12_canLonger_50] at h
  refine mx_istore_n (L' := [(3, vI (mj_b s0)), (0, vR l0), (2, vI l2), (4, vI l4)]) hC dX12_canLonger_50 rfl (by decide) rfl ?_
  refine mx_aload_n (j := 1) hC dX12_canLonger_51 rfl rfl ?_
  obtain ⟨ht1, h⟩ := h
  refine mx_get (v := vR (mj_r M l0 1)) hC tf_X12_7 ht1 rfl dX12_canLonger_52 ?_
  refine mx_iload (j := 3) hC dX12_canLonger_55 rfl ?_
  obtain ⟨ht2, h⟩ := h
  obtain ⟨hi3, h⟩ := h
  refine mx_iaload hC ht2 hi3 dX12_canLonger_57 ?_
  refine mx_istore (L' := [(4, vI (mj_i M (mj_r M l0 1) (l4 : Int32).toNatClampNeg)), (3, vI (mj_b s0)), (0, vR l0), (2, vI l2)]) hC dX12_canLonger_58 (by decide) rfl ?_
  refine mx_goto (tgt := 5) hC dX12_canLonger_60 (by decide) ?_
  refine mx_sub (L' := [(0, vR l0), (2, vI l2), (3, vI (mj_b s0)), (4, vI (mj_i M (mj_r M l0 1) (l4 : Int32).toNatClampNeg))]) [2, 3, 1, 0] rfl ?_
  exact show mj_X g 5 [(0, vR l0), (2, vI l2), (3, vI (mj_b s0)), (4, vI (mj_i M (mj_r M l0 1) (l4 : Int32).toNatClampNeg))] [] M 0 0 from (hk5 l0 l2 s0 (mj_i M (mj_r M l0 1) (l4 : Int32).toNatClampNeg) M h)
set_option maxHeartbeats 4000000 in
set_option maxRecDepth 100000 in
theorem xb_X12_canLonger_45 {g : mj_G} {post : Bool → mj_M → Prop} (hC : mj_C g yX12_canLonger cX12_canLonger 5 (some .boolean) rm_X12_canLonger) (hE : mj_E g mj_jB post 0 0) {k5 : Nat → Int32 → Bool → Int32 → mj_M → Prop} (hk5 : ∀ (l0 : Nat) (l2 : Int32) (l3 : Bool) (l4 : Int32) (M : mj_M), k5 l0 l2 l3 l4 M → mj_X g 5 [(0, vR l0), (2, vI l2), (3, vI (mj_b l3)), (4, vI l4)] [] M 0 0) (l0 : Nat) (l2 : Int32) (l4 : Int32) (M : mj_M) (h : vb_X12_canLonger_45 k5 post l0 l2 l4 M) : mj_X g 45 [(0, vR l0), (2, vI l2), (4, vI l4)] [] M 0 0 := by
  simp only [vb_X12_canLonger_45] at h
  refine mx_iconst (v := 1) hC dX12_canLonger_45 (by decide) ?_
  refine mx_goto (tgt := 50) hC dX12_canLonger_46 (by decide) ?_
  refine mx_sub (L' := [(0, vR l0), (2, vI l2), (4, vI l4)]) [0, 1, 2] rfl ?_
  exact show mj_X g 50 [(0, vR l0), (2, vI l2), (4, vI l4)] [vI (mj_b true)] M 0 0 from (xb_X12_canLonger_50 hC hE hk5 l0 l2 l4 true M h)
set_option maxHeartbeats 4000000 in
set_option maxRecDepth 100000 in
theorem xb_X12_canLonger_49 {g : mj_G} {post : Bool → mj_M → Prop} (hC : mj_C g yX12_canLonger cX12_canLonger 5 (some .boolean) rm_X12_canLonger) (hE : mj_E g mj_jB post 0 0) {k5 : Nat → Int32 → Bool → Int32 → mj_M → Prop} (hk5 : ∀ (l0 : Nat) (l2 : Int32) (l3 : Bool) (l4 : Int32) (M : mj_M), k5 l0 l2 l3 l4 M → mj_X g 5 [(0, vR l0), (2, vI l2), (3, vI (mj_b l3)), (4, vI l4)] [] M 0 0) (l0 : Nat) (l2 : Int32) (l4 : Int32) (M : mj_M) (h : vb_X12_canLonger_49 k5 post l0 l2 l4 M) : mj_X g 49 [(0, vR l0), (2, vI l2), (4, vI l4)] [] M 0 0 := by
  simp only [vb_X12_canLonger_49] at h
  refine mx_iconst (v := 0) hC dX12_canLonger_49 (by decide) ?_
  refine mx_sub (L' := [(0, vR l0), (2, vI l2), (4, vI l4)]) [0, 1, 2] rfl ?_
  exact show mj_X g 50 [(0, vR l0), (2, vI l2), (4, vI l4)] [vI (mj_b false)] M 0 0 from (xb_X12_canLonger_50 hC hE hk5 l0 l2 l4 false M h)
set_option maxHeartbeats 4000000 in
set_option maxRecDepth 100000 in
theorem xb_X12_canLonger_5 {g : mj_G} {post : Bool → mj_M → Prop} (hC : mj_C g yX12_canLonger cX12_canLonger 5 (some .boolean) rm_X12_canLonger) (hE : mj_E g mj_jB post 0 0) : ∀ (f : Nat) (l0 : Nat) (l2 : Int32) (l3 : Bool) (l4 : Int32) (M : mj_M), vb_X12_canLonger_5 post f l0 l2 l3 l4 M → mj_X g 5 [(0, vR l0), (2, vI l2), (3, vI (mj_b l3)), (4, vI l4)] [] M 0 0 := by
  intro f
  induction f with
  | zero => exact fun _ _ _ _ _ h => absurd h (fun z => z)
  | succ f ih =>
    intro l0 l2 l3 l4 M h
    simp only [vb_X12_canLonger_5] at h
    refine mx_aload_n (j := 0) hC dX12_canLonger_5 rfl rfl ?_
    obtain ⟨ht4, h⟩ := h
    refine mx_get (v := vR (mj_r M l0 1)) hC tf_X12_7 ht4 rfl dX12_canLonger_6 ?_
    refine mx_iload (j := 3) hC dX12_canLonger_9 rfl ?_
    obtain ⟨ht5, h⟩ := h
    obtain ⟨hi6, h⟩ := h
    refine mx_iaload hC ht5 hi6 dX12_canLonger_11 ?_
    refine mx_iflt (tgt := 63) hC dX12_canLonger_12 (by decide) (fun hc7 => ?_) (fun hc7 => ?_)
    · replace h := mj_yy hc7 h
      refine mx_iload_n (j := 2) hC dX12_canLonger_63 rfl rfl ?_
      exact mx_zret (b := l3) hC hE rfl dX12_canLonger_64 h
    · replace h := mj_nn hc7 h
      refine mx_iload_n (j := 2) hC dX12_canLonger_15 rfl rfl ?_
      refine mx_ifeqB (tgt := 49) hC dX12_canLonger_16 (by decide) (fun hc8 => ?_) (fun hc8 => ?_)
      · replace h := mj_nn hc8 h
        refine mx_sub (L' := [(0, vR l0), (2, vI l2), (4, vI l4)]) [0, 1, 3] rfl ?_
        exact show mj_X g 49 [(0, vR l0), (2, vI l2), (4, vI l4)] [] M 0 0 from (xb_X12_canLonger_49 hC hE ih l0 l2 l4 M h)
      · replace h := mj_yy hc8 h
        refine mx_aload_n (j := 0) hC dX12_canLonger_19 rfl rfl ?_
        refine mx_iload (j := 3) hC dX12_canLonger_20 rfl ?_
        refine mx_callV (inj := mj_jI) (As := [vI l4]) (st := []) hC (ct_X12_until l0 l4 M _ h) ty_X12_until tw1415 ht4 rfl (Nat.le_of_ble_eq_true rfl) ⟨rfl, rfl, ⟨by decide, by decide⟩, by decide, by decide⟩ dX12_canLonger_22 (fun r9 M10 h => ?_)
        show mj_X g 25 [(0, vR l0), (2, vI l2), (3, vI (mj_b l3)), (4, vI l4)] [vI r9] M10 0 0
        refine mx_iload_n (j := 1) hC dX12_canLonger_25 rfl rfl ?_
        refine mx_icmpge (tgt := 45) hC dX12_canLonger_26 (by decide) (fun hc11 => ?_) (fun hc11 => ?_)
        · replace h := mj_yy hc11 h
          refine mx_sub (L' := [(0, vR l0), (2, vI l2), (4, vI l4)]) [0, 1, 3] rfl ?_
          exact show mj_X g 45 [(0, vR l0), (2, vI l2), (4, vI l4)] [] M10 0 0 from (xb_X12_canLonger_45 hC hE ih l0 l2 l4 M10 h)
        · replace h := mj_nn hc11 h
          refine mx_aload_n (j := 0) hC dX12_canLonger_29 rfl rfl ?_
          refine mx_iload (j := 3) hC dX12_canLonger_30 rfl ?_
          refine mx_aload_n (j := 0) hC dX12_canLonger_32 rfl rfl ?_
          refine mx_iload (j := 3) hC dX12_canLonger_33 rfl ?_
          obtain ⟨ht12, h⟩ := h
          refine mx_callV (inj := mj_jI) (As := [vI l4]) (st := [vI l4, vR l0]) hC (ct_X12_until l0 l4 M10 _ h) ty_X12_until tw1415 ht12 rfl (Nat.le_of_ble_eq_true rfl) ⟨rfl, rfl, ⟨by decide, by decide⟩, by decide, by decide⟩ dX12_canLonger_35 (fun r13 M14 h => ?_)
          show mj_X g 38 [(0, vR l0), (2, vI l2), (3, vI (mj_b l3)), (4, vI l4)] [vI r13, vI l4, vR l0] M14 0 0
          refine mx_iload_n (j := 1) hC dX12_canLonger_38 rfl rfl ?_
          obtain ⟨ht15, h⟩ := h
          refine mx_callV (inj := mj_jB) (As := [vI l4, vI r13, vI l2]) (st := []) hC (ct_X12_isBarred l0 l4 r13 l2 M14 _ h) ty_X12_isBarred tw1653 ht15 rfl (Nat.le_of_ble_eq_true rfl) ⟨rfl, rfl, ⟨by decide, by decide⟩, by decide, by decide⟩ dX12_canLonger_39 (fun r16 M17 h => ?_)
          show mj_X g 42 [(0, vR l0), (2, vI l2), (3, vI (mj_b l3)), (4, vI l4)] [vI (mj_b r16)] M17 0 0
          refine mx_ifneB (tgt := 49) hC dX12_canLonger_42 (by decide) (fun hc18 => ?_) (fun hc18 => ?_)
          · replace h := mj_yy hc18 h
            refine mx_sub (L' := [(0, vR l0), (2, vI l2), (4, vI l4)]) [0, 1, 3] rfl ?_
            exact show mj_X g 49 [(0, vR l0), (2, vI l2), (4, vI l4)] [] M17 0 0 from (xb_X12_canLonger_49 hC hE ih l0 l2 l4 M17 h)
          · replace h := mj_nn hc18 h
            refine mx_sub (L' := [(0, vR l0), (2, vI l2), (4, vI l4)]) [0, 1, 3] rfl ?_
            exact show mj_X g 45 [(0, vR l0), (2, vI l2), (4, vI l4)] [] M17 0 0 from (xb_X12_canLonger_45 hC hE ih l0 l2 l4 M17 h)
set_option maxHeartbeats 4000000 in
set_option maxRecDepth 100000 in
theorem ct_X12_canLonger {l : Launch} {base : Nat} {D : va_G} {A : ClassId × ClassId × ClassId} (l0 : Nat) (l1 : Int32) (l2 : Int32) (M : mj_M) (post : Bool → mj_M → Prop) (h : vc_X12_canLonger l0 l1 l2 M post) : mj_Met l base D A mj_jB yX12_canLonger cX12_canLonger 5 (some .boolean) rm_X12_canLonger 0 0 [vR l0, vI l1, vI l2] M post := by
  refine mj_entry (by decide +kernel) (Nat.le_of_ble_eq_true rfl) (fun g hC hE h1 h2 h3 h4 => ?_)
  show mj_X g 0 [(0, vR l0), (1, vI l1), (2, vI l2)] [] M 0 0
  simp only [vc_X12_canLonger] at h
  refine mx_iconst (v := 1) hC dX12_canLonger_0 (by decide) ?_
  refine mx_istore_n (L' := [(3, vI 1), (0, vR l0), (1, vI l1), (2, vI l2)]) hC dX12_canLonger_1 rfl (by decide) rfl ?_
  refine mx_iload_n (j := 2) hC dX12_canLonger_2 rfl rfl ?_
  refine mx_istore (L' := [(4, vI l1), (3, vI 1), (0, vR l0), (1, vI l1), (2, vI l2)]) hC dX12_canLonger_3 (by decide) rfl ?_
  refine mx_sub (L' := [(0, vR l0), (2, vI l2), (3, vI (mj_b true)), (4, vI l1)]) [2, 4, 1, 0] rfl ?_
  obtain ⟨fe, h⟩ := h
  exact show mj_X g 5 [(0, vR l0), (2, vI l2), (3, vI (mj_b true)), (4, vI l1)] [] M 0 0 from (xb_X12_canLonger_5 hC hE fe l0 l2 true l1 M h)
theorem tw1648 : (Jvm.Cond.constant "LeaseLandModel" (306 : Nat) (32850 : Int32)) ∈ mj_tbl := mj_w 1701 (by decide +kernel) (by decide +kernel)
theorem tw1649 : (Jvm.Cond.methodLink "LeaseLandModel" (307 : Nat) ({ cls := "LeaseLandModel", name := "canLonger", desc := "(II)Z" } : Jvm.MethodName)) ∈ mj_tbl := mj_w 1702 (by decide +kernel) (by decide +kernel)
theorem tw1652 : (Jvm.Cond.code ({ cls := "LeaseLandModel", name := "canLonger", desc := "(II)Z" } : Jvm.MethodName) prog_14_method_70_code (5 : Nat) (Option.some Jvm.ClassFile.FieldType.boolean)) ∈ mj_tbl := mj_w 1705 (by decide +kernel) (by decide +kernel)
theorem tw1651 : (Jvm.Cond.instanceMethod ({ cls := "LeaseLandModel", name := "canLonger", desc := "(II)Z" } : Jvm.MethodName)) ∈ mj_tbl := mj_w 1704 (by decide +kernel) (by decide +kernel)
theorem ty_X12_canLonger : mj_YV 12 yX12_canLonger cX12_canLonger 5 (some .boolean) 2 := ⟨⟨tw1652, tw11, by decide +kernel, by decide +kernel, by decide +kernel⟩, tw1651, mj_w 33 (by decide +kernel) (by decide +kernel), _, rfl, rfl⟩
def rm_X12_longer : Room := { frames := 5, cells := 0, slots := 0, locals := 118 }
theorem dX12_longer_0 : decode cX12_longer 0 = .ok (.ldc 160, 2) := by decide +kernel
theorem dX12_longer_2 : decode cX12_longer 2 = .ok (.aload_n 0, 1) := by decide +kernel
theorem dX12_longer_3 : decode cX12_longer 3 = .ok (.getfield 19, 3) := by decide +kernel
theorem dX12_longer_6 : decode cX12_longer 6 = .ok (.iload_n 1, 1) := by decide +kernel
theorem dX12_longer_7 : decode cX12_longer 7 = .ok (.iaload, 1) := by decide +kernel
theorem dX12_longer_8 : decode cX12_longer 8 = .ok (.ldc_w 306, 3) := by decide +kernel
theorem dX12_longer_11 : decode cX12_longer 11 = .ok (.iadd, 1) := by decide +kernel
theorem dX12_longer_12 : decode cX12_longer 12 = .ok (.invokestatic 169, 3) := by decide +kernel
theorem dX12_longer_15 : decode cX12_longer 15 = .ok (.istore_n 2, 1) := by decide +kernel
theorem dX12_longer_16 : decode cX12_longer 16 = .ok (.aload_n 0, 1) := by decide +kernel
theorem dX12_longer_17 : decode cX12_longer 17 = .ok (.iload_n 1, 1) := by decide +kernel
theorem dX12_longer_18 : decode cX12_longer 18 = .ok (.iload_n 2, 1) := by decide +kernel
theorem dX12_longer_19 : decode cX12_longer 19 = .ok (.invokevirtual 307, 3) := by decide +kernel
theorem dX12_longer_22 : decode cX12_longer 22 = .ok (.ifCond .ne 5, 3) := by decide +kernel
theorem dX12_longer_25 : decode cX12_longer 25 = .ok (.iconst 0, 1) := by decide +kernel
theorem dX12_longer_26 : decode cX12_longer 26 = .ok (.ireturn, 1) := by decide +kernel
theorem dX12_longer_27 : decode cX12_longer 27 = .ok (.iload_n 1, 1) := by decide +kernel
theorem dX12_longer_28 : decode cX12_longer 28 = .ok (.istore_n 3, 1) := by decide +kernel
theorem dX12_longer_29 : decode cX12_longer 29 = .ok (.aload_n 0, 1) := by decide +kernel
theorem dX12_longer_30 : decode cX12_longer 30 = .ok (.getfield 7, 3) := by decide +kernel
theorem dX12_longer_33 : decode cX12_longer 33 = .ok (.iload_n 3, 1) := by decide +kernel
theorem dX12_longer_34 : decode cX12_longer 34 = .ok (.iaload, 1) := by decide +kernel
theorem dX12_longer_35 : decode cX12_longer 35 = .ok (.ifCond .lt 38, 3) := by decide +kernel
theorem dX12_longer_38 : decode cX12_longer 38 = .ok (.aload_n 0, 1) := by decide +kernel
theorem dX12_longer_39 : decode cX12_longer 39 = .ok (.getfield 19, 3) := by decide +kernel
theorem dX12_longer_42 : decode cX12_longer 42 = .ok (.iload_n 3, 1) := by decide +kernel
theorem dX12_longer_43 : decode cX12_longer 43 = .ok (.aload_n 0, 1) := by decide +kernel
theorem dX12_longer_44 : decode cX12_longer 44 = .ok (.iload_n 3, 1) := by decide +kernel
theorem dX12_longer_45 : decode cX12_longer 45 = .ok (.invokevirtual 147, 3) := by decide +kernel
theorem dX12_longer_48 : decode cX12_longer 48 = .ok (.iload_n 2, 1) := by decide +kernel
theorem dX12_longer_49 : decode cX12_longer 49 = .ok (.if_icmp .ge 7, 3) := by decide +kernel
theorem dX12_longer_52 : decode cX12_longer 52 = .ok (.iload_n 2, 1) := by decide +kernel
theorem dX12_longer_53 : decode cX12_longer 53 = .ok (.goto 9, 3) := by decide +kernel
theorem dX12_longer_56 : decode cX12_longer 56 = .ok (.aload_n 0, 1) := by decide +kernel
theorem dX12_longer_57 : decode cX12_longer 57 = .ok (.getfield 19, 3) := by decide +kernel
theorem dX12_longer_60 : decode cX12_longer 60 = .ok (.iload_n 3, 1) := by decide +kernel
theorem dX12_longer_61 : decode cX12_longer 61 = .ok (.iaload, 1) := by decide +kernel
theorem dX12_longer_62 : decode cX12_longer 62 = .ok (.iastore, 1) := by decide +kernel
theorem dX12_longer_63 : decode cX12_longer 63 = .ok (.aload_n 0, 1) := by decide +kernel
theorem dX12_longer_64 : decode cX12_longer 64 = .ok (.getfield 7, 3) := by decide +kernel
theorem dX12_longer_67 : decode cX12_longer 67 = .ok (.iload_n 3, 1) := by decide +kernel
theorem dX12_longer_68 : decode cX12_longer 68 = .ok (.iaload, 1) := by decide +kernel
theorem dX12_longer_69 : decode cX12_longer 69 = .ok (.istore_n 3, 1) := by decide +kernel
theorem dX12_longer_70 : decode cX12_longer 70 = .ok (.goto (-41), 3) := by decide +kernel
theorem dX12_longer_73 : decode cX12_longer 73 = .ok (.aload_n 0, 1) := by decide +kernel
theorem dX12_longer_74 : decode cX12_longer 74 = .ok (.getfield 34, 3) := by decide +kernel
theorem dX12_longer_77 : decode cX12_longer 77 = .ok (.iload_n 1, 1) := by decide +kernel
theorem dX12_longer_78 : decode cX12_longer 78 = .ok (.iconst 0, 1) := by decide +kernel
theorem dX12_longer_79 : decode cX12_longer 79 = .ok (.iastore, 1) := by decide +kernel
theorem dX12_longer_80 : decode cX12_longer 80 = .ok (.iconst 1, 1) := by decide +kernel
theorem dX12_longer_81 : decode cX12_longer 81 = .ok (.ireturn, 1) := by decide +kernel
def vb_X12_longer_62 (k29 : Nat → Int32 → Int32 → Int32 → mj_M → Prop) (post : Bool → mj_M → Prop) (l0 : Nat) (l1 : Int32) (l2 : Int32) (l3 : Int32) (s0 : Nat) (s1 : Int32) (s2 : Int32) (M : mj_M) : Prop := mj_tag M s0 = 101 ∧ vp_in s1 (mj_len M s0) ∧ mj_tag M l0 = 13 ∧ mj_tag M (mj_r M l0 1) = 101 ∧ vp_in l3 (mj_len M (mj_r M l0 1)) ∧ k29 l0 l1 l2 (mj_i (mj_wi M s0 (s1 : Int32).toNatClampNeg s2) (mj_r M l0 1) (l3 : Int32).toNatClampNeg) (mj_wi M s0 (s1 : Int32).toNatClampNeg s2)
def vb_X12_longer_29 (post : Bool → mj_M → Prop) : Nat → Nat → Int32 → Int32 → Int32 → mj_M → Prop
  | 0 => fun _ _ _ _ _ => False
  | f + 1 => fun l0 l1 l2 l3 M => mj_tag M l0 = 13 ∧ mj_tag M (mj_r M l0 1) = 101 ∧ vp_in l3 (mj_len M (mj_r M l0 1)) ∧ if (mj_i M (mj_r M l0 1) (l3 : Int32).toNatClampNeg) < 0 then (mj_tag M (mj_r M l0 9) = 101 ∧ vp_in l1 (mj_len M (mj_r M l0 9)) ∧ post true (mj_wi M (mj_r M l0 9) (l1 : Int32).toNatClampNeg 0)) else (vc_X12_until l0 l3 M (fun r12 M13 => if l2 ≤ r12 then (mj_tag M13 l0 = 13 ∧ mj_tag M13 (mj_r M13 l0 4) = 101 ∧ vp_in l3 (mj_len M13 (mj_r M13 l0 4)) ∧ vb_X12_longer_62 (vb_X12_longer_29 post f) post l0 l1 l2 l3 (mj_r M l0 4) l3 (mj_i M13 (mj_r M13 l0 4) (l3 : Int32).toNatClampNeg) M13) else (vb_X12_longer_62 (vb_X12_longer_29 post f) post l0 l1 l2 l3 (mj_r M l0 4) l3 l2 M13)))
def vc_X12_longer (l0 : Nat) (l1 : Int32) (M : mj_M) (post : Bool → mj_M → Prop) : Prop := mj_tag M l0 = 13 ∧ mj_tag M (mj_r M l0 4) = 101 ∧ vp_in l1 (mj_len M (mj_r M l0 4)) ∧ vc_X12_lesser 73000 ((mj_i M (mj_r M l0 4) (l1 : Int32).toNatClampNeg) + 32850) M (fun r21 M22 => mj_tag M22 l0 = 13 ∧ vc_X12_canLonger l0 l1 r21 M22 (fun r24 M25 => if r24 = true then (∃ fe, vb_X12_longer_29 post fe l0 l1 r21 l1 M25) else (post false M25)))
set_option maxHeartbeats 4000000 in
set_option maxRecDepth 100000 in
theorem xb_X12_longer_62 {g : mj_G} {post : Bool → mj_M → Prop} (hC : mj_C g yX12_longer cX12_longer 4 (some .boolean) rm_X12_longer) (hE : mj_E g mj_jB post 0 0) {k29 : Nat → Int32 → Int32 → Int32 → mj_M → Prop} (hk29 : ∀ (l0 : Nat) (l1 : Int32) (l2 : Int32) (l3 : Int32) (M : mj_M), k29 l0 l1 l2 l3 M → mj_X g 29 [(0, vR l0), (1, vI l1), (2, vI l2), (3, vI l3)] [] M 0 0) (l0 : Nat) (l1 : Int32) (l2 : Int32) (l3 : Int32) (s0 : Nat) (s1 : Int32) (s2 : Int32) (M : mj_M) (h : vb_X12_longer_62 k29 post l0 l1 l2 l3 s0 s1 s2 M) : mj_X g 62 [(0, vR l0), (1, vI l1), (2, vI l2), (3, vI l3)] [vI s2, vI s1, vR s0] M 0 0 := by
  simp only [vb_X12_longer_62] at h
  obtain ⟨ht1, h⟩ := h
  obtain ⟨hi2, h⟩ := h
  refine mx_iastore hC ht1 hi2 dX12_longer_62 ?_
  refine mx_aload_n (j := 0) hC dX12_longer_63 rfl rfl ?_
  obtain ⟨ht3, h⟩ := h
  refine mx_get (v := vR (mj_r M l0 1)) hC tf_X12_7 ht3 rfl dX12_longer_64 ?_
  refine mx_iload_n (j := 3) hC dX12_longer_67 rfl rfl ?_
  obtain ⟨ht4, h⟩ := h
  obtain ⟨hi5, h⟩ := h
  refine mx_iaload hC ht4 hi5 dX12_longer_68 ?_
  refine mx_istore_n (L' := [(3, vI (mj_i (mj_wi M s0 (s1 : Int32).toNatClampNeg s2) (mj_r M l0 1) (l3 : Int32).toNatClampNeg)), (0, vR l0), (1, vI l1), (2, vI l2)]) hC dX12_longer_69 rfl (by decide) rfl ?_
  refine mx_goto (tgt := 29) hC dX12_longer_70 (by decide) ?_
  refine mx_sub (L' := [(0, vR l0), (1, vI l1), (2, vI l2), (3, vI (mj_i (mj_wi M s0 (s1 : Int32).toNatClampNeg s2) (mj_r M l0 1) (l3 : Int32).toNatClampNeg))]) [1, 2, 3, 0] rfl ?_
  exact show mj_X g 29 [(0, vR l0), (1, vI l1), (2, vI l2), (3, vI (mj_i (mj_wi M s0 (s1 : Int32).toNatClampNeg s2) (mj_r M l0 1) (l3 : Int32).toNatClampNeg))] [] (mj_wi M s0 (s1 : Int32).toNatClampNeg s2) 0 0 from (hk29 l0 l1 l2 (mj_i (mj_wi M s0 (s1 : Int32).toNatClampNeg s2) (mj_r M l0 1) (l3 : Int32).toNatClampNeg) (mj_wi M s0 (s1 : Int32).toNatClampNeg s2) h)
set_option maxHeartbeats 4000000 in
set_option maxRecDepth 100000 in
theorem xb_X12_longer_29 {g : mj_G} {post : Bool → mj_M → Prop} (hC : mj_C g yX12_longer cX12_longer 4 (some .boolean) rm_X12_longer) (hE : mj_E g mj_jB post 0 0) : ∀ (f : Nat) (l0 : Nat) (l1 : Int32) (l2 : Int32) (l3 : Int32) (M : mj_M), vb_X12_longer_29 post f l0 l1 l2 l3 M → mj_X g 29 [(0, vR l0), (1, vI l1), (2, vI l2), (3, vI l3)] [] M 0 0 := by
  intro f
  induction f with
  | zero => exact fun _ _ _ _ _ h => absurd h (fun z => z)
  | succ f ih =>
    intro l0 l1 l2 l3 M h
    simp only [vb_X12_longer_29] at h
    refine mx_aload_n (j := 0) hC dX12_longer_29 rfl rfl ?_
    obtain ⟨ht6, h⟩ := h
    refine mx_get (v := vR (mj_r M l0 1)) hC tf_X12_7 ht6 rfl dX12_longer_30 ?_
    refine mx_iload_n (j := 3) hC dX12_longer_33 rfl rfl ?_
    obtain ⟨ht7, h⟩ := h
    obtain ⟨hi8, h⟩ := h
    refine mx_iaload hC ht7 hi8 dX12_longer_34 ?_
    refine mx_iflt (tgt := 73) hC dX12_longer_35 (by decide) (fun hc9 => ?_) (fun hc9 => ?_)
    · replace h := mj_yy hc9 h
      refine mx_aload_n (j := 0) hC dX12_longer_73 rfl rfl ?_
      refine mx_get (v := vR (mj_r M l0 9)) hC tf_X12_34 ht6 rfl dX12_longer_74 ?_
      refine mx_iload_n (j := 1) hC dX12_longer_77 rfl rfl ?_
      refine mx_iconst (v := 0) hC dX12_longer_78 (by decide) ?_
      obtain ⟨ht10, h⟩ := h
      obtain ⟨hi11, h⟩ := h
      refine mx_iastore hC ht10 hi11 dX12_longer_79 ?_
      refine mx_iconst (v := 1) hC dX12_longer_80 (by decide) ?_
      exact mx_zret (b := true) hC hE rfl dX12_longer_81 h
    · replace h := mj_nn hc9 h
      refine mx_aload_n (j := 0) hC dX12_longer_38 rfl rfl ?_
      refine mx_get (v := vR (mj_r M l0 4)) hC tf_X12_19 ht6 rfl dX12_longer_39 ?_
      refine mx_iload_n (j := 3) hC dX12_longer_42 rfl rfl ?_
      refine mx_aload_n (j := 0) hC dX12_longer_43 rfl rfl ?_
      refine mx_iload_n (j := 3) hC dX12_longer_44 rfl rfl ?_
      refine mx_callV (inj := mj_jI) (As := [vI l3]) (st := [vI l3, vR (mj_r M l0 4)]) hC (ct_X12_until l0 l3 M _ h) ty_X12_until tw1415 ht6 rfl (Nat.le_of_ble_eq_true rfl) ⟨rfl, rfl, ⟨by decide, by decide⟩, by decide, by decide⟩ dX12_longer_45 (fun r12 M13 h => ?_)
      show mj_X g 48 [(0, vR l0), (1, vI l1), (2, vI l2), (3, vI l3)] [vI r12, vI l3, vR (mj_r M l0 4)] M13 0 0
      refine mx_iload_n (j := 2) hC dX12_longer_48 rfl rfl ?_
      refine mx_icmpge (tgt := 56) hC dX12_longer_49 (by decide) (fun hc14 => ?_) (fun hc14 => ?_)
      · replace h := mj_yy hc14 h
        refine mx_aload_n (j := 0) hC dX12_longer_56 rfl rfl ?_
        obtain ⟨ht15, h⟩ := h
        refine mx_get (v := vR (mj_r M13 l0 4)) hC tf_X12_19 ht15 rfl dX12_longer_57 ?_
        refine mx_iload_n (j := 3) hC dX12_longer_60 rfl rfl ?_
        obtain ⟨ht16, h⟩ := h
        obtain ⟨hi17, h⟩ := h
        refine mx_iaload hC ht16 hi17 dX12_longer_61 ?_
        refine mx_sub (L' := [(0, vR l0), (1, vI l1), (2, vI l2), (3, vI l3)]) [0, 1, 2, 3] rfl ?_
        exact show mj_X g 62 [(0, vR l0), (1, vI l1), (2, vI l2), (3, vI l3)] [vI (mj_i M13 (mj_r M13 l0 4) (l3 : Int32).toNatClampNeg), vI l3, vR (mj_r M l0 4)] M13 0 0 from (xb_X12_longer_62 hC hE ih l0 l1 l2 l3 (mj_r M l0 4) l3 (mj_i M13 (mj_r M13 l0 4) (l3 : Int32).toNatClampNeg) M13 h)
      · replace h := mj_nn hc14 h
        refine mx_iload_n (j := 2) hC dX12_longer_52 rfl rfl ?_
        refine mx_goto (tgt := 62) hC dX12_longer_53 (by decide) ?_
        refine mx_sub (L' := [(0, vR l0), (1, vI l1), (2, vI l2), (3, vI l3)]) [0, 1, 2, 3] rfl ?_
        exact show mj_X g 62 [(0, vR l0), (1, vI l1), (2, vI l2), (3, vI l3)] [vI l2, vI l3, vR (mj_r M l0 4)] M13 0 0 from (xb_X12_longer_62 hC hE ih l0 l1 l2 l3 (mj_r M l0 4) l3 l2 M13 h)
set_option maxHeartbeats 4000000 in
set_option maxRecDepth 100000 in
theorem ct_X12_longer {l : Launch} {base : Nat} {D : va_G} {A : ClassId × ClassId × ClassId} (l0 : Nat) (l1 : Int32) (M : mj_M) (post : Bool → mj_M → Prop) (h : vc_X12_longer l0 l1 M post) : mj_Met l base D A mj_jB yX12_longer cX12_longer 4 (some .boolean) rm_X12_longer 0 0 [vR l0, vI l1] M post := by
  refine mj_entry (by decide +kernel) (Nat.le_of_ble_eq_true rfl) (fun g hC hE h1 h2 h3 h4 => ?_)
  show mj_X g 0 [(0, vR l0), (1, vI l1)] [] M 0 0
  simp only [vc_X12_longer] at h
  refine mx_ldc (v := 73000) hC dX12_longer_0 tw1394 ?_
  refine mx_aload_n (j := 0) hC dX12_longer_2 rfl rfl ?_
  obtain ⟨ht18, h⟩ := h
  refine mx_get (v := vR (mj_r M l0 4)) hC tf_X12_19 ht18 rfl dX12_longer_3 ?_
  refine mx_iload_n (j := 1) hC dX12_longer_6 rfl rfl ?_
  obtain ⟨ht19, h⟩ := h
  obtain ⟨hi20, h⟩ := h
  refine mx_iaload hC ht19 hi20 dX12_longer_7 ?_
  refine mx_ldcw (v := 32850) hC dX12_longer_8 tw1648 ?_
  refine mx_iadd hC dX12_longer_11 ?_
  refine mx_callS (inj := mj_jI) (As := [vI 73000, vI ((mj_i M (mj_r M l0 4) (l1 : Int32).toNatClampNeg) + 32850)]) (st := []) hC (ct_X12_lesser 73000 ((mj_i M (mj_r M l0 4) (l1 : Int32).toNatClampNeg) + 32850) M _ h) ty_X12_lesser tw1429 rfl (Nat.le_of_ble_eq_true rfl) ⟨rfl, rfl, ⟨by decide, by decide⟩, by decide, by decide⟩ dX12_longer_12 (fun r21 M22 h => ?_)
  show mj_X g 15 [(0, vR l0), (1, vI l1)] [vI r21] M22 0 0
  refine mx_istore_n (L' := [(2, vI r21), (0, vR l0), (1, vI l1)]) hC dX12_longer_15 rfl (by decide) rfl ?_
  refine mx_aload_n (j := 1) hC dX12_longer_16 rfl rfl ?_
  refine mx_iload_n (j := 2) hC dX12_longer_17 rfl rfl ?_
  refine mx_iload_n (j := 0) hC dX12_longer_18 rfl rfl ?_
  obtain ⟨ht23, h⟩ := h
  refine mx_callV (inj := mj_jB) (As := [vI l1, vI r21]) (st := []) hC (ct_X12_canLonger l0 l1 r21 M22 _ h) ty_X12_canLonger tw1649 ht23 rfl (Nat.le_of_ble_eq_true rfl) ⟨rfl, rfl, ⟨by decide, by decide⟩, by decide, by decide⟩ dX12_longer_19 (fun r24 M25 h => ?_)
  show mj_X g 22 [(2, vI r21), (0, vR l0), (1, vI l1)] [vI (mj_b r24)] M25 0 0
  refine mx_ifneB (tgt := 27) hC dX12_longer_22 (by decide) (fun hc26 => ?_) (fun hc26 => ?_)
  · replace h := mj_yy hc26 h
    refine mx_iload_n (j := 2) hC dX12_longer_27 rfl rfl ?_
    refine mx_istore_n (L' := [(3, vI l1), (2, vI r21), (0, vR l0), (1, vI l1)]) hC dX12_longer_28 rfl (by decide) rfl ?_
    refine mx_sub (L' := [(0, vR l0), (1, vI l1), (2, vI r21), (3, vI l1)]) [2, 3, 1, 0] rfl ?_
    obtain ⟨fe, h⟩ := h
    exact show mj_X g 29 [(0, vR l0), (1, vI l1), (2, vI r21), (3, vI l1)] [] M25 0 0 from (xb_X12_longer_29 hC hE fe l0 l1 r21 l1 M25 h)
  · replace h := mj_nn hc26 h
    refine mx_iconst (v := 0) hC dX12_longer_25 (by decide) ?_
    exact mx_zret (b := false) hC hE rfl dX12_longer_26 h
def rm_X12_fall : Room := { frames := 1, cells := 0, slots := 0, locals := 23 }
theorem dX12_fall_0 : decode cX12_fall 0 = .ok (.iconst 0, 1) := by decide +kernel
theorem dX12_fall_1 : decode cX12_fall 1 = .ok (.istore_n 3, 1) := by decide +kernel
theorem dX12_fall_2 : decode cX12_fall 2 = .ok (.iconst 0, 1) := by decide +kernel
theorem dX12_fall_3 : decode cX12_fall 3 = .ok (.istore 4, 2) := by decide +kernel
theorem dX12_fall_5 : decode cX12_fall 5 = .ok (.iload 4, 2) := by decide +kernel
theorem dX12_fall_7 : decode cX12_fall 7 = .ok (.aload_n 0, 1) := by decide +kernel
theorem dX12_fall_8 : decode cX12_fall 8 = .ok (.getfield 130, 3) := by decide +kernel
theorem dX12_fall_11 : decode cX12_fall 11 = .ok (.if_icmp .ge 128, 3) := by decide +kernel
theorem dX12_fall_14 : decode cX12_fall 14 = .ok (.aload_n 0, 1) := by decide +kernel
theorem dX12_fall_15 : decode cX12_fall 15 = .ok (.getfield 25, 3) := by decide +kernel
theorem dX12_fall_18 : decode cX12_fall 18 = .ok (.iload 4, 2) := by decide +kernel
theorem dX12_fall_20 : decode cX12_fall 20 = .ok (.iaload, 1) := by decide +kernel
theorem dX12_fall_21 : decode cX12_fall 21 = .ok (.ifCond .ne 112, 3) := by decide +kernel
theorem dX12_fall_24 : decode cX12_fall 24 = .ok (.aload_n 0, 1) := by decide +kernel
theorem dX12_fall_25 : decode cX12_fall 25 = .ok (.getfield 19, 3) := by decide +kernel
theorem dX12_fall_28 : decode cX12_fall 28 = .ok (.iload 4, 2) := by decide +kernel
theorem dX12_fall_30 : decode cX12_fall 30 = .ok (.iaload, 1) := by decide +kernel
theorem dX12_fall_31 : decode cX12_fall 31 = .ok (.aload_n 0, 1) := by decide +kernel
theorem dX12_fall_32 : decode cX12_fall 32 = .ok (.getfield 151, 3) := by decide +kernel
theorem dX12_fall_35 : decode cX12_fall 35 = .ok (.if_icmp .le 98, 3) := by decide +kernel
theorem dX12_fall_38 : decode cX12_fall 38 = .ok (.aload_n 0, 1) := by decide +kernel
theorem dX12_fall_39 : decode cX12_fall 39 = .ok (.getfield 7, 3) := by decide +kernel
theorem dX12_fall_42 : decode cX12_fall 42 = .ok (.iload 4, 2) := by decide +kernel
theorem dX12_fall_44 : decode cX12_fall 44 = .ok (.iaload, 1) := by decide +kernel
theorem dX12_fall_45 : decode cX12_fall 45 = .ok (.ifCond .lt 88, 3) := by decide +kernel
theorem dX12_fall_48 : decode cX12_fall 48 = .ok (.aload_n 0, 1) := by decide +kernel
theorem dX12_fall_49 : decode cX12_fall 49 = .ok (.getfield 7, 3) := by decide +kernel
theorem dX12_fall_52 : decode cX12_fall 52 = .ok (.iload 4, 2) := by decide +kernel
theorem dX12_fall_54 : decode cX12_fall 54 = .ok (.iaload, 1) := by decide +kernel
theorem dX12_fall_55 : decode cX12_fall 55 = .ok (.iload_n 1, 1) := by decide +kernel
theorem dX12_fall_56 : decode cX12_fall 56 = .ok (.if_icmp .eq 34, 3) := by decide +kernel
theorem dX12_fall_59 : decode cX12_fall 59 = .ok (.aload_n 0, 1) := by decide +kernel
theorem dX12_fall_60 : decode cX12_fall 60 = .ok (.getfield 25, 3) := by decide +kernel
theorem dX12_fall_63 : decode cX12_fall 63 = .ok (.aload_n 0, 1) := by decide +kernel
theorem dX12_fall_64 : decode cX12_fall 64 = .ok (.getfield 7, 3) := by decide +kernel
theorem dX12_fall_67 : decode cX12_fall 67 = .ok (.iload 4, 2) := by decide +kernel
theorem dX12_fall_69 : decode cX12_fall 69 = .ok (.iaload, 1) := by decide +kernel
theorem dX12_fall_70 : decode cX12_fall 70 = .ok (.iaload, 1) := by decide +kernel
theorem dX12_fall_71 : decode cX12_fall 71 = .ok (.iconst 4, 1) := by decide +kernel
theorem dX12_fall_72 : decode cX12_fall 72 = .ok (.if_icmp .ne 61, 3) := by decide +kernel
theorem dX12_fall_75 : decode cX12_fall 75 = .ok (.aload_n 0, 1) := by decide +kernel
theorem dX12_fall_76 : decode cX12_fall 76 = .ok (.getfield 89, 3) := by decide +kernel
theorem dX12_fall_79 : decode cX12_fall 79 = .ok (.aload_n 0, 1) := by decide +kernel
theorem dX12_fall_80 : decode cX12_fall 80 = .ok (.getfield 7, 3) := by decide +kernel
theorem dX12_fall_83 : decode cX12_fall 83 = .ok (.iload 4, 2) := by decide +kernel
theorem dX12_fall_85 : decode cX12_fall 85 = .ok (.iaload, 1) := by decide +kernel
theorem dX12_fall_86 : decode cX12_fall 86 = .ok (.baload, 1) := by decide +kernel
theorem dX12_fall_87 : decode cX12_fall 87 = .ok (.ifCond .eq 46, 3) := by decide +kernel
theorem dX12_fall_90 : decode cX12_fall 90 = .ok (.aload_n 0, 1) := by decide +kernel
theorem dX12_fall_91 : decode cX12_fall 91 = .ok (.iload 4, 2) := by decide +kernel
theorem dX12_fall_93 : decode cX12_fall 93 = .ok (.iconst 4, 1) := by decide +kernel
theorem dX12_fall_94 : decode cX12_fall 94 = .ok (.aload_n 0, 1) := by decide +kernel
theorem dX12_fall_95 : decode cX12_fall 95 = .ok (.getfield 151, 3) := by decide +kernel
theorem dX12_fall_98 : decode cX12_fall 98 = .ok (.aload_n 0, 1) := by decide +kernel
theorem dX12_fall_99 : decode cX12_fall 99 = .ok (.getfield 16, 3) := by decide +kernel
theorem dX12_fall_102 : decode cX12_fall 102 = .ok (.iload 4, 2) := by decide +kernel
theorem dX12_fall_104 : decode cX12_fall 104 = .ok (.iaload, 1) := by decide +kernel
theorem dX12_fall_105 : decode cX12_fall 105 = .ok (.invokestatic 165, 3) := by decide +kernel
theorem dX12_fall_108 : decode cX12_fall 108 = .ok (.invokevirtual 197, 3) := by decide +kernel
theorem dX12_fall_111 : decode cX12_fall 111 = .ok (.aload_n 0, 1) := by decide +kernel
theorem dX12_fall_112 : decode cX12_fall 112 = .ok (.getfield 43, 3) := by decide +kernel
theorem dX12_fall_115 : decode cX12_fall 115 = .ok (.iload 4, 2) := by decide +kernel
theorem dX12_fall_117 : decode cX12_fall 117 = .ok (.iload_n 2, 1) := by decide +kernel
theorem dX12_fall_118 : decode cX12_fall 118 = .ok (.iastore, 1) := by decide +kernel
theorem dX12_fall_119 : decode cX12_fall 119 = .ok (.aload_n 0, 1) := by decide +kernel
theorem dX12_fall_120 : decode cX12_fall 120 = .ok (.getfield 89, 3) := by decide +kernel
theorem dX12_fall_123 : decode cX12_fall 123 = .ok (.iload 4, 2) := by decide +kernel
theorem dX12_fall_125 : decode cX12_fall 125 = .ok (.iconst 1, 1) := by decide +kernel
theorem dX12_fall_126 : decode cX12_fall 126 = .ok (.bastore, 1) := by decide +kernel
theorem dX12_fall_127 : decode cX12_fall 127 = .ok (.iinc 3 1, 3) := by decide +kernel
theorem dX12_fall_130 : decode cX12_fall 130 = .ok (.iconst (-1), 1) := by decide +kernel
theorem dX12_fall_131 : decode cX12_fall 131 = .ok (.istore 4, 2) := by decide +kernel
theorem dX12_fall_133 : decode cX12_fall 133 = .ok (.iinc 4 1, 3) := by decide +kernel
theorem dX12_fall_136 : decode cX12_fall 136 = .ok (.goto (-131), 3) := by decide +kernel
theorem dX12_fall_139 : decode cX12_fall 139 = .ok (.iload_n 3, 1) := by decide +kernel
theorem dX12_fall_140 : decode cX12_fall 140 = .ok (.ireturn, 1) := by decide +kernel
def vb_X12_fall_90 (k5 : Nat → Int32 → Int32 → Int32 → Int32 → mj_M → Prop) (post : Int32 → mj_M → Prop) (l0 : Nat) (l1 : Int32) (l2 : Int32) (l3 : Int32) (l4 : Int32) (M : mj_M) : Prop := mj_tag M l0 = 13 ∧ mj_tag M (mj_r M l0 3) = 101 ∧ vp_in l4 (mj_len M (mj_r M l0 3)) ∧ vc_X12_greater (mj_i M l0 0) (mj_i M (mj_r M l0 3) (l4 : Int32).toNatClampNeg) M (fun r4 M5 => mj_tag M5 l0 = 13 ∧ vc_X12_close l0 l4 4 r4 M5 (fun _ M7 => mj_tag M7 l0 = 13 ∧ mj_tag M7 (mj_r M7 l0 12) = 101 ∧ vp_in l4 (mj_len M7 (mj_r M7 l0 12)) ∧ mj_tag M7 (mj_r M7 l0 31) = 103 ∧ vp_in l4 (mj_len M7 (mj_r M7 l0 31)) ∧ k5 l0 l1 l2 (l3 + 1) (((-1)) + 1) (mj_wi (mj_wi M7 (mj_r M7 l0 12) (l4 : Int32).toNatClampNeg l2) (mj_r M7 l0 31) (l4 : Int32).toNatClampNeg (mj_b true))))
def vb_X12_fall_5 (post : Int32 → mj_M → Prop) : Nat → Nat → Int32 → Int32 → Int32 → Int32 → mj_M → Prop
  | 0 => fun _ _ _ _ _ _ => False
  | f + 1 => fun l0 l1 l2 l3 l4 M => mj_tag M l0 = 13 ∧ if (mj_i M l0 13) ≤ l4 then (post l3 M) else (mj_tag M (mj_r M l0 6) = 101 ∧ vp_in l4 (mj_len M (mj_r M l0 6)) ∧ if (mj_i M (mj_r M l0 6) (l4 : Int32).toNatClampNeg) = 0 then (mj_tag M (mj_r M l0 4) = 101 ∧ vp_in l4 (mj_len M (mj_r M l0 4)) ∧ if (mj_i M (mj_r M l0 4) (l4 : Int32).toNatClampNeg) ≤ (mj_i M l0 0) then (vb_X12_fall_5 post f l0 l1 l2 l3 (l4 + 1) M) else (mj_tag M (mj_r M l0 1) = 101 ∧ vp_in l4 (mj_len M (mj_r M l0 1)) ∧ if (mj_i M (mj_r M l0 1) (l4 : Int32).toNatClampNeg) < 0 then (vb_X12_fall_5 post f l0 l1 l2 l3 (l4 + 1) M) else (if (mj_i M (mj_r M l0 1) (l4 : Int32).toNatClampNeg) = l1 then (vb_X12_fall_90 (vb_X12_fall_5 post f) post l0 l1 l2 l3 l4 M) else (vp_in (mj_i M (mj_r M l0 1) (l4 : Int32).toNatClampNeg) (mj_len M (mj_r M l0 6)) ∧ if (mj_i M (mj_r M l0 6) (mj_i M (mj_r M l0 1) (l4 : Int32).toNatClampNeg : Int32).toNatClampNeg) = 4 then (mj_tag M (mj_r M l0 31) = 103 ∧ vp_in (mj_i M (mj_r M l0 1) (l4 : Int32).toNatClampNeg) (mj_len M (mj_r M l0 31)) ∧ if (mj_i M (mj_r M l0 31) (mj_i M (mj_r M l0 1) (l4 : Int32).toNatClampNeg : Int32).toNatClampNeg) = 0 then (vb_X12_fall_5 post f l0 l1 l2 l3 (l4 + 1) M) else (vb_X12_fall_90 (vb_X12_fall_5 post f) post l0 l1 l2 l3 l4 M)) else (vb_X12_fall_5 post f l0 l1 l2 l3 (l4 + 1) M))))) else (vb_X12_fall_5 post f l0 l1 l2 l3 (l4 + 1) M))
def vc_X12_fall (l0 : Nat) (l1 : Int32) (l2 : Int32) (M : mj_M) (post : Int32 → mj_M → Prop) : Prop := ∃ fe, vb_X12_fall_5 post fe l0 l1 l2 0 0 M
set_option maxHeartbeats 4000000 in
set_option maxRecDepth 100000 in
theorem xb_X12_fall_90 {g : mj_G} {post : Int32 → mj_M → Prop} (hC : mj_C g yX12_fall cX12_fall 5 (some .int) rm_X12_fall) (hE : mj_E g mj_jI post 0 0) {k5 : Nat → Int32 → Int32 → Int32 → Int32 → mj_M → Prop} (hk5 : ∀ (l0 : Nat) (l1 : Int32) (l2 : Int32) (l3 : Int32) (l4 : Int32) (M : mj_M), k5 l0 l1 l2 l3 l4 M → mj_X g 5 [(0, vR l0), (1, vI l1), (2, vI l2), (3, vI l3), (4, vI l4)] [] M 0 0) (l0 : Nat) (l1 : Int32) (l2 : Int32) (l3 : Int32) (l4 : Int32) (M : mj_M) (h : vb_X12_fall_90 k5 post l0 l1 l2 l3 l4 M) : mj_X g 90 [(0, vR l0), (1, vI l1), (2, vI l2), (3, vI l3), (4, vI l4)] [] M 0 0 := by
  simp only [vb_X12_fall_90] at h
  refine mx_aload_n (j := 0) hC dX12_fall_90 rfl rfl ?_
  refine mx_iload (j := 4) hC dX12_fall_91 rfl ?_
  refine mx_iconst (v := 4) hC dX12_fall_93 (by decide) ?_
  refine mx_aload_n (j := 0) hC dX12_fall_94 rfl rfl ?_
  obtain ⟨ht1, h⟩ := h
  refine mx_get (v := vI (mj_i M l0 0)) hC tf_X12_151 ht1 rfl dX12_fall_95 ?_
  refine mx_aload_n (j := 0) hC dX12_fall_98 rfl rfl ?_
  refine mx_get (v := vR (mj_r M l0 3)) hC tf_X12_16 ht1 rfl dX12_fall_99 ?_
  refine mx_iload (j := 4) hC dX12_fall_102 rfl ?_
  obtain ⟨ht2, h⟩ := h
  obtain ⟨hi3, h⟩ := h
  refine mx_iaload hC ht2 hi3 dX12_fall_104 ?_
  refine mx_callS (inj := mj_jI) (As := [vI (mj_i M l0 0), vI (mj_i M (mj_r M l0 3) (l4 : Int32).toNatClampNeg)]) (st := [vI 4, vI l4, vR l0]) hC (ct_X12_greater (mj_i M l0 0) (mj_i M (mj_r M l0 3) (l4 : Int32).toNatClampNeg) M _ h) ty_X12_greater tw1426 rfl (Nat.le_of_ble_eq_true rfl) ⟨rfl, rfl, ⟨by decide, by decide⟩, by decide, by decide⟩ dX12_fall_105 (fun r4 M5 h => ?_)
  show mj_X g 108 [(0, vR l0), (1, vI l1), (2, vI l2), (3, vI l3), (4, vI l4)] [vI r4, vI 4, vI l4, vR l0] M5 0 0
  obtain ⟨ht6, h⟩ := h
  refine mx_callV (inj := mj_jV) (As := [vI l4, vI 4, vI r4]) (st := []) hC (ct_X12_close l0 l4 4 r4 M5 _ h) ty_X12_close tw1460 ht6 rfl (Nat.le_of_ble_eq_true rfl) ⟨rfl, rfl, ⟨by decide, by decide⟩, by decide, by decide⟩ dX12_fall_108 (fun _ M7 h => ?_)
  show mj_X g 111 [(0, vR l0), (1, vI l1), (2, vI l2), (3, vI l3), (4, vI l4)] [] M7 0 0
  refine mx_aload_n (j := 0) hC dX12_fall_111 rfl rfl ?_
  obtain ⟨ht8, h⟩ := h
  refine mx_get (v := vR (mj_r M7 l0 12)) hC tf_X12_43 ht8 rfl dX12_fall_112 ?_
  refine mx_iload (j := 4) hC dX12_fall_115 rfl ?_
  refine mx_iload_n (j := 2) hC dX12_fall_117 rfl rfl ?_
  obtain ⟨ht9, h⟩ := h
  obtain ⟨hi10, h⟩ := h
  refine mx_iastore hC ht9 hi10 dX12_fall_118 ?_
  refine mx_aload_n (j := 0) hC dX12_fall_119 rfl rfl ?_
  refine mx_get (v := vR (mj_r M7 l0 31)) hC tf_X12_89 ht8 rfl dX12_fall_120 ?_
  refine mx_iload (j := 4) hC dX12_fall_123 rfl ?_
  refine mx_iconst (v := 1) hC dX12_fall_125 (by decide) ?_
  obtain ⟨ht11, h⟩ := h
  obtain ⟨hi12, h⟩ := h
  refine mx_zastore (b := true) hC ht11 hi12 dX12_fall_126 ?_
  refine mx_iinc (j := 3) (v := l3 + 1) (L' := [(3, vI (l3 + 1)), (0, vR l0), (1, vI l1), (2, vI l2), (4, vI l4)]) hC dX12_fall_127 rfl rfl (by decide) rfl ?_
  refine mx_iconst (v := (-1)) hC dX12_fall_130 (by decide) ?_
  refine mx_istore (L' := [(4, vI ((-1))), (3, vI (l3 + 1)), (0, vR l0), (1, vI l1), (2, vI l2)]) hC dX12_fall_131 (by decide) rfl ?_
  refine mx_iinc (j := 0) (v := ((-1)) + 1) (L' := [(4, vI (((-1)) + 1)), (3, vI (l3 + 1)), (0, vR l0), (1, vI l1), (2, vI l2)]) hC dX12_fall_133 rfl rfl (by decide) rfl ?_
  refine mx_goto (tgt := 5) hC dX12_fall_136 (by decide) ?_
  refine mx_sub (L' := [(0, vR l0), (1, vI l1), (2, vI l2), (3, vI (l3 + 1)), (4, vI (((-1)) + 1))]) [2, 3, 4, 1, 0] rfl ?_
  exact show mj_X g 5 [(0, vR l0), (1, vI l1), (2, vI l2), (3, vI (l3 + 1)), (4, vI (((-1)) + 1))] [] (mj_wi (mj_wi M7 (mj_r M7 l0 12) (l4 : Int32).toNatClampNeg l2) (mj_r M7 l0 31) (l4 : Int32).toNatClampNeg (mj_b true)) 0 0 from (hk5 l0 l1 l2 (l3 + 1) (((-1)) + 1) (mj_wi (mj_wi M7 (mj_r M7 l0 12) (l4 : Int32).toNatClampNeg l2) (mj_r M7 l0 31) (l4 : Int32).toNatClampNeg (mj_b true)) h)
set_option maxHeartbeats 4000000 in
set_option maxRecDepth 100000 in
theorem xb_X12_fall_5 {g : mj_G} {post : Int32 → mj_M → Prop} (hC : mj_C g yX12_fall cX12_fall 5 (some .int) rm_X12_fall) (hE : mj_E g mj_jI post 0 0) : ∀ (f : Nat) (l0 : Nat) (l1 : Int32) (l2 : Int32) (l3 : Int32) (l4 : Int32) (M : mj_M), vb_X12_fall_5 post f l0 l1 l2 l3 l4 M → mj_X g 5 [(0, vR l0), (1, vI l1), (2, vI l2), (3, vI l3), (4, vI l4)] [] M 0 0 := by
  intro f
  induction f with
  | zero => exact fun _ _ _ _ _ _ h => absurd h (fun z => z)
  | succ f ih =>
    intro l0 l1 l2 l3 l4 M h
    simp only [vb_X12_fall_5] at h
    refine mx_iload (j := 4) hC dX12_fall_5 rfl ?_
    refine mx_aload_n (j := 0) hC dX12_fall_7 rfl rfl ?_
    obtain ⟨ht13, h⟩ := h
    refine mx_get (v := vI (mj_i M l0 13)) hC tf_X12_130 ht13 rfl dX12_fall_8 ?_
    refine mx_icmpge (tgt := 139) hC dX12_fall_11 (by decide) (fun hc14 => ?_) (fun hc14 => ?_)
    · replace h := mj_yy hc14 h
      refine mx_iload_n (j := 3) hC dX12_fall_139 rfl rfl ?_
      exact mx_iret hC hE rfl dX12_fall_140 h
    · replace h := mj_nn hc14 h
      refine mx_aload_n (j := 0) hC dX12_fall_14 rfl rfl ?_
      refine mx_get (v := vR (mj_r M l0 6)) hC tf_X12_25 ht13 rfl dX12_fall_15 ?_
      refine mx_iload (j := 4) hC dX12_fall_18 rfl ?_
      obtain ⟨ht15, h⟩ := h
      obtain ⟨hi16, h⟩ := h
      refine mx_iaload hC ht15 hi16 dX12_fall_20 ?_
      refine mx_ifne (tgt := 133) hC dX12_fall_21 (by decide) (fun hc17 => ?_) (fun hc17 => ?_)
      · replace h := mj_nn hc17 h
        refine mx_iinc (j := 4) (v := l4 + 1) (L' := [(4, vI (l4 + 1)), (0, vR l0), (1, vI l1), (2, vI l2), (3, vI l3)]) hC dX12_fall_133 rfl rfl (by decide) rfl ?_
        refine mx_goto (tgt := 5) hC dX12_fall_136 (by decide) ?_
        refine mx_sub (L' := [(0, vR l0), (1, vI l1), (2, vI l2), (3, vI l3), (4, vI (l4 + 1))]) [1, 2, 3, 4, 0] rfl ?_
        exact show mj_X g 5 [(0, vR l0), (1, vI l1), (2, vI l2), (3, vI l3), (4, vI (l4 + 1))] [] M 0 0 from (ih l0 l1 l2 l3 (l4 + 1) M h)
      · replace h := mj_yy hc17 h
        refine mx_aload_n (j := 0) hC dX12_fall_24 rfl rfl ?_
        refine mx_get (v := vR (mj_r M l0 4)) hC tf_X12_19 ht13 rfl dX12_fall_25 ?_
        refine mx_iload (j := 4) hC dX12_fall_28 rfl ?_
        obtain ⟨ht18, h⟩ := h
        obtain ⟨hi19, h⟩ := h
        refine mx_iaload hC ht18 hi19 dX12_fall_30 ?_
        refine mx_aload_n (j := 0) hC dX12_fall_31 rfl rfl ?_
        refine mx_get (v := vI (mj_i M l0 0)) hC tf_X12_151 ht13 rfl dX12_fall_32 ?_
        refine mx_icmple (tgt := 133) hC dX12_fall_35 (by decide) (fun hc20 => ?_) (fun hc20 => ?_)
        · replace h := mj_yy hc20 h
          refine mx_iinc (j := 4) (v := l4 + 1) (L' := [(4, vI (l4 + 1)), (0, vR l0), (1, vI l1), (2, vI l2), (3, vI l3)]) hC dX12_fall_133 rfl rfl (by decide) rfl ?_
          refine mx_goto (tgt := 5) hC dX12_fall_136 (by decide) ?_
          refine mx_sub (L' := [(0, vR l0), (1, vI l1), (2, vI l2), (3, vI l3), (4, vI (l4 + 1))]) [1, 2, 3, 4, 0] rfl ?_
          exact show mj_X g 5 [(0, vR l0), (1, vI l1), (2, vI l2), (3, vI l3), (4, vI (l4 + 1))] [] M 0 0 from (ih l0 l1 l2 l3 (l4 + 1) M h)
        · replace h := mj_nn hc20 h
          refine mx_aload_n (j := 0) hC dX12_fall_38 rfl rfl ?_
          refine mx_get (v := vR (mj_r M l0 1)) hC tf_X12_7 ht13 rfl dX12_fall_39 ?_
          refine mx_iload (j := 4) hC dX12_fall_42 rfl ?_
          obtain ⟨ht21, h⟩ := h
          obtain ⟨hi22, h⟩ := h
          refine mx_iaload hC ht21 hi22 dX12_fall_44 ?_
          refine mx_iflt (tgt := 133) hC dX12_fall_45 (by decide) (fun hc23 => ?_) (fun hc23 => ?_)
          · replace h := mj_yy hc23 h
            refine mx_iinc (j := 4) (v := l4 + 1) (L' := [(4, vI (l4 + 1)), (0, vR l0), (1, vI l1), (2, vI l2), (3, vI l3)]) hC dX12_fall_133 rfl rfl (by decide) rfl ?_
            refine mx_goto (tgt := 5) hC dX12_fall_136 (by decide) ?_
            refine mx_sub (L' := [(0, vR l0), (1, vI l1), (2, vI l2), (3, vI l3), (4, vI (l4 + 1))]) [1, 2, 3, 4, 0] rfl ?_
            exact show mj_X g 5 [(0, vR l0), (1, vI l1), (2, vI l2), (3, vI l3), (4, vI (l4 + 1))] [] M 0 0 from (ih l0 l1 l2 l3 (l4 + 1) M h)
          · replace h := mj_nn hc23 h
            refine mx_aload_n (j := 0) hC dX12_fall_48 rfl rfl ?_
            refine mx_get (v := vR (mj_r M l0 1)) hC tf_X12_7 ht13 rfl dX12_fall_49 ?_
            refine mx_iload (j := 4) hC dX12_fall_52 rfl ?_
            refine mx_iaload hC ht21 hi22 dX12_fall_54 ?_
            refine mx_iload_n (j := 1) hC dX12_fall_55 rfl rfl ?_
            refine mx_icmpeq (tgt := 90) hC dX12_fall_56 (by decide) (fun hc24 => ?_) (fun hc24 => ?_)
            · replace h := mj_yy hc24 h
              refine mx_sub (L' := [(0, vR l0), (1, vI l1), (2, vI l2), (3, vI l3), (4, vI l4)]) [0, 1, 2, 3, 4] rfl ?_
              exact show mj_X g 90 [(0, vR l0), (1, vI l1), (2, vI l2), (3, vI l3), (4, vI l4)] [] M 0 0 from (xb_X12_fall_90 hC hE ih l0 l1 l2 l3 l4 M h)
            · replace h := mj_nn hc24 h
              refine mx_aload_n (j := 0) hC dX12_fall_59 rfl rfl ?_
              refine mx_get (v := vR (mj_r M l0 6)) hC tf_X12_25 ht13 rfl dX12_fall_60 ?_
              refine mx_aload_n (j := 0) hC dX12_fall_63 rfl rfl ?_
              refine mx_get (v := vR (mj_r M l0 1)) hC tf_X12_7 ht13 rfl dX12_fall_64 ?_
              refine mx_iload (j := 4) hC dX12_fall_67 rfl ?_
              refine mx_iaload hC ht21 hi22 dX12_fall_69 ?_
              obtain ⟨hi25, h⟩ := h
              refine mx_iaload hC ht15 hi25 dX12_fall_70 ?_
              refine mx_iconst (v := 4) hC dX12_fall_71 (by decide) ?_
              refine mx_icmpne (tgt := 133) hC dX12_fall_72 (by decide) (fun hc26 => ?_) (fun hc26 => ?_)
              · replace h := mj_nn hc26 h
                refine mx_iinc (j := 4) (v := l4 + 1) (L' := [(4, vI (l4 + 1)), (0, vR l0), (1, vI l1), (2, vI l2), (3, vI l3)]) hC dX12_fall_133 rfl rfl (by decide) rfl ?_
                refine mx_goto (tgt := 5) hC dX12_fall_136 (by decide) ?_
                refine mx_sub (L' := [(0, vR l0), (1, vI l1), (2, vI l2), (3, vI l3), (4, vI (l4 + 1))]) [1, 2, 3, 4, 0] rfl ?_
                exact show mj_X g 5 [(0, vR l0), (1, vI l1), (2, vI l2), (3, vI l3), (4, vI (l4 + 1))] [] M 0 0 from (ih l0 l1 l2 l3 (l4 + 1) M h)
              · replace h := mj_yy hc26 h
                refine mx_aload_n (j := 0) hC dX12_fall_75 rfl rfl ?_
                refine mx_get (v := vR (mj_r M l0 31)) hC tf_X12_89 ht13 rfl dX12_fall_76 ?_
                refine mx_aload_n (j := 0) hC dX12_fall_79 rfl rfl ?_
                refine mx_get (v := vR (mj_r M l0 1)) hC tf_X12_7 ht13 rfl dX12_fall_80 ?_
                refine mx_iload (j := 4) hC dX12_fall_83 rfl ?_
                refine mx_iaload hC ht21 hi22 dX12_fall_85 ?_
                obtain ⟨ht27, h⟩ := h
                obtain ⟨hi28, h⟩ := h
                refine mx_zaload hC ht27 hi28 dX12_fall_86 ?_
                refine mx_ifeq (tgt := 133) hC dX12_fall_87 (by decide) (fun hc29 => ?_) (fun hc29 => ?_)
                · replace h := mj_yy hc29 h
                  refine mx_iinc (j := 4) (v := l4 + 1) (L' := [(4, vI (l4 + 1)), (0, vR l0), (1, vI l1), (2, vI l2), (3, vI l3)]) hC dX12_fall_133 rfl rfl (by decide) rfl ?_
                  refine mx_goto (tgt := 5) hC dX12_fall_136 (by decide) ?_
                  refine mx_sub (L' := [(0, vR l0), (1, vI l1), (2, vI l2), (3, vI l3), (4, vI (l4 + 1))]) [1, 2, 3, 4, 0] rfl ?_
                  exact show mj_X g 5 [(0, vR l0), (1, vI l1), (2, vI l2), (3, vI l3), (4, vI (l4 + 1))] [] M 0 0 from (ih l0 l1 l2 l3 (l4 + 1) M h)
                · replace h := mj_nn hc29 h
                  refine mx_sub (L' := [(0, vR l0), (1, vI l1), (2, vI l2), (3, vI l3), (4, vI l4)]) [0, 1, 2, 3, 4] rfl ?_
                  exact show mj_X g 90 [(0, vR l0), (1, vI l1), (2, vI l2), (3, vI l3), (4, vI l4)] [] M 0 0 from (xb_X12_fall_90 hC hE ih l0 l1 l2 l3 l4 M h)
set_option maxHeartbeats 4000000 in
set_option maxRecDepth 100000 in
theorem ct_X12_fall {l : Launch} {base : Nat} {D : va_G} {A : ClassId × ClassId × ClassId} (l0 : Nat) (l1 : Int32) (l2 : Int32) (M : mj_M) (post : Int32 → mj_M → Prop) (h : vc_X12_fall l0 l1 l2 M post) : mj_Met l base D A mj_jI yX12_fall cX12_fall 5 (some .int) rm_X12_fall 0 0 [vR l0, vI l1, vI l2] M post := by
  refine mj_entry (by decide +kernel) (Nat.le_of_ble_eq_true rfl) (fun g hC hE h1 h2 h3 h4 => ?_)
  show mj_X g 0 [(0, vR l0), (1, vI l1), (2, vI l2)] [] M 0 0
  simp only [vc_X12_fall] at h
  refine mx_iconst (v := 0) hC dX12_fall_0 (by decide) ?_
  refine mx_istore_n (L' := [(3, vI 0), (0, vR l0), (1, vI l1), (2, vI l2)]) hC dX12_fall_1 rfl (by decide) rfl ?_
  refine mx_iconst (v := 0) hC dX12_fall_2 (by decide) ?_
  refine mx_istore (L' := [(4, vI 0), (3, vI 0), (0, vR l0), (1, vI l1), (2, vI l2)]) hC dX12_fall_3 (by decide) rfl ?_
  refine mx_sub (L' := [(0, vR l0), (1, vI l1), (2, vI l2), (3, vI 0), (4, vI 0)]) [2, 3, 4, 1, 0] rfl ?_
  obtain ⟨fe, h⟩ := h
  exact show mj_X g 5 [(0, vR l0), (1, vI l1), (2, vI l2), (3, vI 0), (4, vI 0)] [] M 0 0 from (xb_X12_fall_5 hC hE fe l0 l1 l2 0 0 M h)
theorem tw1669 : (Jvm.Cond.methodLink "LeaseLandModel" (310 : Nat) ({ cls := "LeaseLandModel", name := "fall", desc := "(II)I" } : Jvm.MethodName)) ∈ mj_tbl := mj_w 1722 (by decide +kernel) (by decide +kernel)
theorem tw1672 : (Jvm.Cond.code ({ cls := "LeaseLandModel", name := "fall", desc := "(II)I" } : Jvm.MethodName) prog_14_method_72_code (5 : Nat) (Option.some Jvm.ClassFile.FieldType.int)) ∈ mj_tbl := mj_w 1725 (by decide +kernel) (by decide +kernel)
theorem tw1671 : (Jvm.Cond.instanceMethod ({ cls := "LeaseLandModel", name := "fall", desc := "(II)I" } : Jvm.MethodName)) ∈ mj_tbl := mj_w 1724 (by decide +kernel) (by decide +kernel)
theorem ty_X12_fall : mj_YV 12 yX12_fall cX12_fall 5 (some .int) 2 := ⟨⟨tw1672, tw11, by decide +kernel, by decide +kernel, by decide +kernel⟩, tw1671, mj_w 38 (by decide +kernel) (by decide +kernel), _, rfl, rfl⟩
def rm_X12_fallAll : Room := { frames := 2, cells := 0, slots := 0, locals := 47 }
theorem dX12_fallAll_0 : decode cX12_fallAll 0 = .ok (.iconst 0, 1) := by decide +kernel
theorem dX12_fallAll_1 : decode cX12_fallAll 1 = .ok (.istore_n 3, 1) := by decide +kernel
theorem dX12_fallAll_2 : decode cX12_fallAll 2 = .ok (.iload_n 3, 1) := by decide +kernel
theorem dX12_fallAll_3 : decode cX12_fallAll 3 = .ok (.bipush 40, 2) := by decide +kernel
theorem dX12_fallAll_5 : decode cX12_fallAll 5 = .ok (.if_icmp .ge 16, 3) := by decide +kernel
theorem dX12_fallAll_8 : decode cX12_fallAll 8 = .ok (.aload_n 0, 1) := by decide +kernel
theorem dX12_fallAll_9 : decode cX12_fallAll 9 = .ok (.getfield 89, 3) := by decide +kernel
theorem dX12_fallAll_12 : decode cX12_fallAll 12 = .ok (.iload_n 3, 1) := by decide +kernel
theorem dX12_fallAll_13 : decode cX12_fallAll 13 = .ok (.iconst 0, 1) := by decide +kernel
theorem dX12_fallAll_14 : decode cX12_fallAll 14 = .ok (.bastore, 1) := by decide +kernel
theorem dX12_fallAll_15 : decode cX12_fallAll 15 = .ok (.iinc 3 1, 3) := by decide +kernel
theorem dX12_fallAll_18 : decode cX12_fallAll 18 = .ok (.goto (-16), 3) := by decide +kernel
theorem dX12_fallAll_21 : decode cX12_fallAll 21 = .ok (.aload_n 0, 1) := by decide +kernel
theorem dX12_fallAll_22 : decode cX12_fallAll 22 = .ok (.iload_n 1, 1) := by decide +kernel
theorem dX12_fallAll_23 : decode cX12_fallAll 23 = .ok (.iload_n 2, 1) := by decide +kernel
theorem dX12_fallAll_24 : decode cX12_fallAll 24 = .ok (.invokevirtual 310, 3) := by decide +kernel
theorem dX12_fallAll_27 : decode cX12_fallAll 27 = .ok (.ireturn, 1) := by decide +kernel
def vb_X12_fallAll_2 (post : Int32 → mj_M → Prop) : Nat → Nat → Int32 → Int32 → Int32 → mj_M → Prop
  | 0 => fun _ _ _ _ _ => False
  | f + 1 => fun l0 l1 l2 l3 M => if 40 ≤ l3 then (mj_tag M l0 = 13 ∧ vc_X12_fall l0 l1 l2 M (fun r3 M4 => post r3 M4)) else (mj_tag M l0 = 13 ∧ mj_tag M (mj_r M l0 31) = 103 ∧ vp_in l3 (mj_len M (mj_r M l0 31)) ∧ vb_X12_fallAll_2 post f l0 l1 l2 (l3 + 1) (mj_wi M (mj_r M l0 31) (l3 : Int32).toNatClampNeg (mj_b false)))
def vc_X12_fallAll (l0 : Nat) (l1 : Int32) (l2 : Int32) (M : mj_M) (post : Int32 → mj_M → Prop) : Prop := ∃ fe, vb_X12_fallAll_2 post fe l0 l1 l2 0 M
set_option maxHeartbeats 4000000 in
set_option maxRecDepth 100000 in
theorem xb_X12_fallAll_2 {g : mj_G} {post : Int32 → mj_M → Prop} (hC : mj_C g yX12_fallAll cX12_fallAll 4 (some .int) rm_X12_fallAll) (hE : mj_E g mj_jI post 0 0) : ∀ (f : Nat) (l0 : Nat) (l1 : Int32) (l2 : Int32) (l3 : Int32) (M : mj_M), vb_X12_fallAll_2 post f l0 l1 l2 l3 M → mj_X g 2 [(0, vR l0), (1, vI l1), (2, vI l2), (3, vI l3)] [] M 0 0 := by
  intro f
  induction f with
  | zero => exact fun _ _ _ _ _ h => absurd h (fun z => z)
  | succ f ih =>
    intro l0 l1 l2 l3 M h
    simp only [vb_X12_fallAll_2] at h
    refine mx_iload_n (j := 3) hC dX12_fallAll_2 rfl rfl ?_
    refine mx_bipush (v := 40) hC dX12_fallAll_3 (by decide) ?_
    refine mx_icmpge (tgt := 21) hC dX12_fallAll_5 (by decide) (fun hc1 => ?_) (fun hc1 => ?_)
    · replace h := mj_yy hc1 h
      refine mx_aload_n (j := 0) hC dX12_fallAll_21 rfl rfl ?_
      refine mx_iload_n (j := 1) hC dX12_fallAll_22 rfl rfl ?_
      refine mx_iload_n (j := 2) hC dX12_fallAll_23 rfl rfl ?_
      obtain ⟨ht2, h⟩ := h
      refine mx_callV (inj := mj_jI) (As := [vI l1, vI l2]) (st := []) hC (ct_X12_fall l0 l1 l2 M _ h) ty_X12_fall tw1669 ht2 rfl (Nat.le_of_ble_eq_true rfl) ⟨rfl, rfl, ⟨by decide, by decide⟩, by decide, by decide⟩ dX12_fallAll_24 (fun r3 M4 h => ?_)
      show mj_X g 27 [(0, vR l0), (1, vI l1), (2, vI l2), (3, vI l3)] [vI r3] M4 0 0
      exact mx_iret hC hE rfl dX12_fallAll_27 h
    · replace h := mj_nn hc1 h
      refine mx_aload_n (j := 0) hC dX12_fallAll_8 rfl rfl ?_
      obtain ⟨ht5, h⟩ := h
      refine mx_get (v := vR (mj_r M l0 31)) hC tf_X12_89 ht5 rfl dX12_fallAll_9 ?_
      refine mx_iload_n (j := 3) hC dX12_fallAll_12 rfl rfl ?_
      refine mx_iconst (v := 0) hC dX12_fallAll_13 (by decide) ?_
      obtain ⟨ht6, h⟩ := h
      obtain ⟨hi7, h⟩ := h
      refine mx_zastore (b := false) hC ht6 hi7 dX12_fallAll_14 ?_
      refine mx_iinc (j := 3) (v := l3 + 1) (L' := [(3, vI (l3 + 1)), (0, vR l0), (1, vI l1), (2, vI l2)]) hC dX12_fallAll_15 rfl rfl (by decide) rfl ?_
      refine mx_goto (tgt := 2) hC dX12_fallAll_18 (by decide) ?_
      refine mx_sub (L' := [(0, vR l0), (1, vI l1), (2, vI l2), (3, vI (l3 + 1))]) [1, 2, 3, 0] rfl ?_
      exact show mj_X g 2 [(0, vR l0), (1, vI l1), (2, vI l2), (3, vI (l3 + 1))] [] (mj_wi M (mj_r M l0 31) (l3 : Int32).toNatClampNeg (mj_b false)) 0 0 from (ih l0 l1 l2 (l3 + 1) (mj_wi M (mj_r M l0 31) (l3 : Int32).toNatClampNeg (mj_b false)) h)
set_option maxHeartbeats 4000000 in
set_option maxRecDepth 100000 in
theorem ct_X12_fallAll {l : Launch} {base : Nat} {D : va_G} {A : ClassId × ClassId × ClassId} (l0 : Nat) (l1 : Int32) (l2 : Int32) (M : mj_M) (post : Int32 → mj_M → Prop) (h : vc_X12_fallAll l0 l1 l2 M post) : mj_Met l base D A mj_jI yX12_fallAll cX12_fallAll 4 (some .int) rm_X12_fallAll 0 0 [vR l0, vI l1, vI l2] M post := by
  refine mj_entry (by decide +kernel) (Nat.le_of_ble_eq_true rfl) (fun g hC hE h1 h2 h3 h4 => ?_)
  show mj_X g 0 [(0, vR l0), (1, vI l1), (2, vI l2)] [] M 0 0
  simp only [vc_X12_fallAll] at h
  refine mx_iconst (v := 0) hC dX12_fallAll_0 (by decide) ?_
  refine mx_istore_n (L' := [(3, vI 0), (0, vR l0), (1, vI l1), (2, vI l2)]) hC dX12_fallAll_1 rfl (by decide) rfl ?_
  refine mx_sub (L' := [(0, vR l0), (1, vI l1), (2, vI l2), (3, vI 0)]) [1, 2, 3, 0] rfl ?_
  obtain ⟨fe, h⟩ := h
  exact show mj_X g 2 [(0, vR l0), (1, vI l1), (2, vI l2), (3, vI 0)] [] M 0 0 from (xb_X12_fallAll_2 hC hE fe l0 l1 l2 0 M h)

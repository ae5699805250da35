/-! methods 6. By program (wip/gen) out of the bytecode: vc_KEY: what must hold of a call; ct_KEY: then the machine does it. -/
theorem tw908 : (Jvm.Cond.methodLink "LeaseLand" (393 : Nat) ({ cls := "java/util/Arrays", name := "fill", desc := "([II)V" } : Jvm.MethodName)) ∈ mj_tbl := mj_w 914 (by decide +kernel) (by decide +kernel)
theorem tw909 : (Jvm.Cond.methodLink "LeaseLand" (399 : Nat) ({ cls := "LeaseLand$Holding", name := "hasFloor", desc := "(I)Z" } : Jvm.MethodName)) ∈ mj_tbl := mj_w 915 (by decide +kernel) (by decide +kernel)
theorem tw910 : (Jvm.Cond.methodLink "LeaseLand" (402 : Nat) ({ cls := "LeaseLand$Land", name := "lastOf", desc := "(I)LLeaseLand$Holding;" } : Jvm.MethodName)) ∈ mj_tbl := mj_w 916 (by decide +kernel) (by decide +kernel)
theorem tw913 : (Jvm.Cond.code ({ cls := "LeaseLand$Land", name := "lastOf", desc := "(I)LLeaseLand$Holding;" } : Jvm.MethodName) prog_6_method_31_code (5 : Nat) (Option.some (Jvm.ClassFile.FieldType.object "LeaseLand$Holding"))) ∈ mj_tbl := mj_w 919 (by decide +kernel) (by decide +kernel)
theorem tw911 : (Jvm.Cond.instanceMethod ({ cls := "LeaseLand$Land", name := "lastOf", desc := "(I)LLeaseLand$Holding;" } : Jvm.MethodName)) ∈ mj_tbl := mj_w 917 (by decide +kernel) (by decide +kernel)
theorem tw912 : (Jvm.Cond.selects "LeaseLand$Land" ({ cls := "LeaseLand$Land", name := "lastOf", desc := "(I)LLeaseLand$Holding;" } : Jvm.MethodName) ({ cls := "LeaseLand$Land", name := "lastOf", desc := "(I)LLeaseLand$Holding;" } : Jvm.MethodName)) ∈ mj_tbl := mj_w 918 (by decide +kernel) (by decide +kernel)
theorem ty_X4_lastOf : mj_YV 4 yX4_lastOf cX4_lastOf 5 (some (.object "LeaseLand$Holding")) 1 := ⟨⟨tw913, tw2, by decide +kernel, by decide +kernel, by decide +kernel⟩, tw911, tw912, _, rfl, rfl⟩
def rm_X11_countJoined : Room := { frames := 10, cells := 0, slots := 0, locals := 297 }
theorem dX11_countJoined_0 : decode cX11_countJoined 0 = .ok (.aload_n 0, 1) := by decide +kernel
theorem dX11_countJoined_1 : decode cX11_countJoined 1 = .ok (.getfield 58, 3) := by decide +kernel
theorem dX11_countJoined_4 : decode cX11_countJoined 4 = .ok (.iconst 0, 1) := by decide +kernel
theorem dX11_countJoined_5 : decode cX11_countJoined 5 = .ok (.invokestatic 393, 3) := by decide +kernel
theorem dX11_countJoined_8 : decode cX11_countJoined 8 = .ok (.aload_n 0, 1) := by decide +kernel
theorem dX11_countJoined_9 : decode cX11_countJoined 9 = .ok (.getfield 19, 3) := by decide +kernel
theorem dX11_countJoined_12 : decode cX11_countJoined 12 = .ok (.iconst 3, 1) := by decide +kernel
theorem dX11_countJoined_13 : decode cX11_countJoined 13 = .ok (.aload_n 0, 1) := by decide +kernel
theorem dX11_countJoined_14 : decode cX11_countJoined 14 = .ok (.getfield 10, 3) := by decide +kernel
theorem dX11_countJoined_17 : decode cX11_countJoined 17 = .ok (.getfield 66, 3) := by decide +kernel
theorem dX11_countJoined_20 : decode cX11_countJoined 20 = .ok (.invokevirtual 223, 3) := by decide +kernel
theorem dX11_countJoined_23 : decode cX11_countJoined 23 = .ok (.astore_n 2, 1) := by decide +kernel
theorem dX11_countJoined_24 : decode cX11_countJoined 24 = .ok (.iconst 0, 1) := by decide +kernel
theorem dX11_countJoined_25 : decode cX11_countJoined 25 = .ok (.istore_n 3, 1) := by decide +kernel
theorem dX11_countJoined_26 : decode cX11_countJoined 26 = .ok (.iload_n 3, 1) := by decide +kernel
theorem dX11_countJoined_27 : decode cX11_countJoined 27 = .ok (.bipush 12, 2) := by decide +kernel
theorem dX11_countJoined_29 : decode cX11_countJoined 29 = .ok (.if_icmp .ge 103, 3) := by decide +kernel
theorem dX11_countJoined_32 : decode cX11_countJoined 32 = .ok (.aload_n 1, 1) := by decide +kernel
theorem dX11_countJoined_33 : decode cX11_countJoined 33 = .ok (.iload_n 3, 1) := by decide +kernel
theorem dX11_countJoined_34 : decode cX11_countJoined 34 = .ok (.invokevirtual 399, 3) := by decide +kernel
theorem dX11_countJoined_37 : decode cX11_countJoined 37 = .ok (.ifCond .eq 14, 3) := by decide +kernel
theorem dX11_countJoined_40 : decode cX11_countJoined 40 = .ok (.aload_n 0, 1) := by decide +kernel
theorem dX11_countJoined_41 : decode cX11_countJoined 41 = .ok (.getfield 10, 3) := by decide +kernel
theorem dX11_countJoined_44 : decode cX11_countJoined 44 = .ok (.iload_n 3, 1) := by decide +kernel
theorem dX11_countJoined_45 : decode cX11_countJoined 45 = .ok (.invokevirtual 402, 3) := by decide +kernel
theorem dX11_countJoined_48 : decode cX11_countJoined 48 = .ok (.goto 4, 3) := by decide +kernel
theorem dX11_countJoined_51 : decode cX11_countJoined 51 = .ok (.aconst_null, 1) := by decide +kernel
theorem dX11_countJoined_52 : decode cX11_countJoined 52 = .ok (.astore 4, 2) := by decide +kernel
theorem dX11_countJoined_54 : decode cX11_countJoined 54 = .ok (.aload 4, 2) := by decide +kernel
theorem dX11_countJoined_56 : decode cX11_countJoined 56 = .ok (.ifnull 15, 3) := by decide +kernel
theorem dX11_countJoined_59 : decode cX11_countJoined 59 = .ok (.aload 4, 2) := by decide +kernel
theorem dX11_countJoined_61 : decode cX11_countJoined 61 = .ok (.getfield 132, 3) := by decide +kernel
theorem dX11_countJoined_64 : decode cX11_countJoined 64 = .ok (.ifnull 7, 3) := by decide +kernel
theorem dX11_countJoined_67 : decode cX11_countJoined 67 = .ok (.iconst 1, 1) := by decide +kernel
theorem dX11_countJoined_68 : decode cX11_countJoined 68 = .ok (.goto 4, 3) := by decide +kernel
theorem dX11_countJoined_71 : decode cX11_countJoined 71 = .ok (.iconst 0, 1) := by decide +kernel
theorem dX11_countJoined_72 : decode cX11_countJoined 72 = .ok (.istore 5, 2) := by decide +kernel
theorem dX11_countJoined_74 : decode cX11_countJoined 74 = .ok (.iload 5, 2) := by decide +kernel
theorem dX11_countJoined_76 : decode cX11_countJoined 76 = .ok (.ifCond .eq 50, 3) := by decide +kernel
theorem dX11_countJoined_79 : decode cX11_countJoined 79 = .ok (.aload_n 2, 1) := by decide +kernel
theorem dX11_countJoined_80 : decode cX11_countJoined 80 = .ok (.ifnull 46, 3) := by decide +kernel
theorem dX11_countJoined_83 : decode cX11_countJoined 83 = .ok (.aload_n 0, 1) := by decide +kernel
theorem dX11_countJoined_84 : decode cX11_countJoined 84 = .ok (.getfield 26, 3) := by decide +kernel
theorem dX11_countJoined_87 : decode cX11_countJoined 87 = .ok (.aload_n 2, 1) := by decide +kernel
theorem dX11_countJoined_88 : decode cX11_countJoined 88 = .ok (.getfield 231, 3) := by decide +kernel
theorem dX11_countJoined_91 : decode cX11_countJoined 91 = .ok (.aload_n 0, 1) := by decide +kernel
theorem dX11_countJoined_92 : decode cX11_countJoined 92 = .ok (.getfield 10, 3) := by decide +kernel
theorem dX11_countJoined_95 : decode cX11_countJoined 95 = .ok (.aload 4, 2) := by decide +kernel
theorem dX11_countJoined_97 : decode cX11_countJoined 97 = .ok (.aload_n 0, 1) := by decide +kernel
theorem dX11_countJoined_98 : decode cX11_countJoined 98 = .ok (.getfield 10, 3) := by decide +kernel
theorem dX11_countJoined_101 : decode cX11_countJoined 101 = .ok (.getfield 66, 3) := by decide +kernel
theorem dX11_countJoined_104 : decode cX11_countJoined 104 = .ok (.bipush (-6), 2) := by decide +kernel
theorem dX11_countJoined_106 : decode cX11_countJoined 106 = .ok (.invokevirtual 236, 3) := by decide +kernel
theorem dX11_countJoined_109 : decode cX11_countJoined 109 = .ok (.ifCond .eq 17, 3) := by decide +kernel
theorem dX11_countJoined_112 : decode cX11_countJoined 112 = .ok (.aload_n 0, 1) := by decide +kernel
theorem dX11_countJoined_113 : decode cX11_countJoined 113 = .ok (.getfield 58, 3) := by decide +kernel
theorem dX11_countJoined_116 : decode cX11_countJoined 116 = .ok (.aload 4, 2) := by decide +kernel
theorem dX11_countJoined_118 : decode cX11_countJoined 118 = .ok (.getfield 115, 3) := by decide +kernel
theorem dX11_countJoined_121 : decode cX11_countJoined 121 = .ok (.dup2, 1) := by decide +kernel
theorem dX11_countJoined_122 : decode cX11_countJoined 122 = .ok (.iaload, 1) := by decide +kernel
theorem dX11_countJoined_123 : decode cX11_countJoined 123 = .ok (.iconst 1, 1) := by decide +kernel
theorem dX11_countJoined_124 : decode cX11_countJoined 124 = .ok (.iadd, 1) := by decide +kernel
theorem dX11_countJoined_125 : decode cX11_countJoined 125 = .ok (.iastore, 1) := by decide +kernel
theorem dX11_countJoined_126 : decode cX11_countJoined 126 = .ok (.iinc 3 1, 3) := by decide +kernel
theorem dX11_countJoined_129 : decode cX11_countJoined 129 = .ok (.goto (-103), 3) := by decide +kernel
theorem dX11_countJoined_132 : decode cX11_countJoined 132 = .ok (.return_, 1) := by decide +kernel
def vb_X11_countJoined_72 (k26 : Nat → Nat → Nat → Int32 → mj_M → Prop) (post : Unit → mj_M → Prop) (l0 : Nat) (l1 : Nat) (l2 : Nat) (l3 : Int32) (l4 : Nat) (s0 : Bool) (M : mj_M) : Prop := if s0 = true then (if l2 = 0 then (k26 l0 l1 l2 (l3 + 1) M) else (mj_tag M l0 = 12 ∧ mj_tag M l2 = 1 ∧ mj_tag M (mj_r M l0 0) = 5 ∧ mj_tag M (mj_r M l0 2) = 9 ∧ vc_X8_isSo (mj_r M l0 2) (mj_r M l2 2) (mj_r M l0 0) l4 (mj_i M (mj_r M l0 0) 0) ((-6)) M (fun r7 M8 => if r7 = true then (mj_tag M8 l0 = 12 ∧ mj_tag M8 l4 = 4 ∧ mj_tag M8 (mj_r M8 l0 7) = 101 ∧ vp_in (mj_i M8 l4 8) (mj_len M8 (mj_r M8 l0 7)) ∧ k26 l0 l1 l2 (l3 + 1) (mj_wi M8 (mj_r M8 l0 7) (mj_i M8 l4 8 : Int32).toNatClampNeg ((mj_i M8 (mj_r M8 l0 7) (mj_i M8 l4 8 : Int32).toNatClampNeg) + 1))) else (k26 l0 l1 l2 (l3 + 1) M8)))) else (k26 l0 l1 l2 (l3 + 1) M)
def vb_X11_countJoined_71 (k26 : Nat → Nat → Nat → Int32 → mj_M → Prop) (post : Unit → mj_M → Prop) (l0 : Nat) (l1 : Nat) (l2 : Nat) (l3 : Int32) (l4 : Nat) (M : mj_M) : Prop := vb_X11_countJoined_72 k26 post l0 l1 l2 l3 l4 false M
def vb_X11_countJoined_52 (k26 : Nat → Nat → Nat → Int32 → mj_M → Prop) (post : Unit → mj_M → Prop) (l0 : Nat) (l1 : Nat) (l2 : Nat) (l3 : Int32) (s0 : Nat) (M : mj_M) : Prop := if s0 = 0 then (vb_X11_countJoined_71 k26 post l0 l1 l2 l3 s0 M) else (mj_tag M s0 = 4 ∧ if (mj_r M s0 2) = 0 then (vb_X11_countJoined_71 k26 post l0 l1 l2 l3 s0 M) else (vb_X11_countJoined_72 k26 post l0 l1 l2 l3 s0 true M))
def vb_X11_countJoined_26 (post : Unit → mj_M → Prop) : Nat → Nat → Nat → Nat → Int32 → mj_M → Prop
  | 0 => fun _ _ _ _ _ => False
  | f + 1 => fun l0 l1 l2 l3 M => if 12 ≤ l3 then (post () M) else (mj_tag M l1 = 4 ∧ vc_X3_hasFloor l1 l3 M (fun r19 M20 => if r19 = true then (mj_tag M20 l0 = 12 ∧ mj_tag M20 (mj_r M20 l0 0) = 5 ∧ vc_X4_lastOf (mj_r M20 l0 0) l3 M20 (fun r24 M25 => vb_X11_countJoined_52 (vb_X11_countJoined_26 post f) post l0 l1 l2 l3 r24 M25)) else (vb_X11_countJoined_52 (vb_X11_countJoined_26 post f) post l0 l1 l2 l3 0 M20)))
def vc_X11_countJoined (l0 : Nat) (l1 : Nat) (M : mj_M) (post : Unit → mj_M → Prop) : Prop := mj_tag M l0 = 12 ∧ vc_J7_fill_53178 (mj_r M l0 7) 0 M (fun _ M27 => mj_tag M27 l0 = 12 ∧ mj_tag M27 (mj_r M27 l0 0) = 5 ∧ mj_tag M27 (mj_r M27 l0 1) = 2 ∧ vc_X1_inForce (mj_r M27 l0 1) 3 (mj_i M27 (mj_r M27 l0 0) 0) M27 (fun r31 M32 => vb_X11_countJoined_26 post 60 l0 l1 r31 0 M32))
set_option maxHeartbeats 4000000 in
set_option maxRecDepth 100000 in
theorem xb_X11_countJoined_72 {g : mj_G} {post : Unit → mj_M → Prop} (hC : mj_C g yX11_countJoined cX11_countJoined 6 (none) rm_X11_countJoined) (hE : mj_E g mj_jV post 0 0) {k26 : Nat → Nat → Nat → Int32 → mj_M → Prop} (hk26 : ∀ (l0 : Nat) (l1 : Nat) (l2 : Nat) (l3 : Int32) (M : mj_M), k26 l0 l1 l2 l3 M → mj_X g 26 [(0, vR l0), (1, vR l1), (2, vR l2), (3, vI l3)] [] M 0 0) (l0 : Nat) (l1 : Nat) (l2 : Nat) (l3 : Int32) (l4 : Nat) (s0 : Bool) (M : mj_M) (h : vb_X11_countJoined_72 k26 post l0 l1 l2 l3 l4 s0 M) : mj_X g 72 [(0, vR l0), (1, vR l1), (2, vR l2), (3, vI l3), (4, vR l4)] [vI (mj_b s0)] M 0 0 := by
  simp only [vb_X11_countJoined_72] at h
  refine mx_istore (L' := [(5, vI (mj_b s0)), (0, vR l0), (1, vR l1), (2, vR l2), (3, vI l3), (4, vR l4)]) hC dX11_countJoined_72 (by decide) rfl ?_
  refine mx_iload (j := 0) hC dX11_countJoined_74 rfl ?_
  refine mx_ifeqB (tgt := 126) hC dX11_countJoined_76 (by decide) (fun hc1 => ?_) (fun hc1 => ?_)
  · replace h := mj_nn hc1 h
    refine mx_iinc (j := 4) (v := l3 + 1) (L' := [(3, vI (l3 + 1)), (5, vI (mj_b s0)), (0, vR l0), (1, vR l1), (2, vR l2), (4, vR l4)]) hC dX11_countJoined_126 rfl rfl (by decide) rfl ?_
    refine mx_goto (tgt := 26) hC dX11_countJoined_129 (by decide) ?_
    refine mx_sub (L' := [(0, vR l0), (1, vR l1), (2, vR l2), (3, vI (l3 + 1))]) [2, 3, 4, 0] rfl ?_
    exact show mj_X g 26 [(0, vR l0), (1, vR l1), (2, vR l2), (3, vI (l3 + 1))] [] M 0 0 from (hk26 l0 l1 l2 (l3 + 1) M h)
  · replace h := mj_yy hc1 h
    refine mx_aload_n (j := 3) hC dX11_countJoined_79 rfl rfl ?_
    refine mx_ifnull (tgt := 126) hC dX11_countJoined_80 (by decide) (fun hc2 => ?_) (fun hc2 => ?_)
    · replace h := mj_yy hc2 h
      refine mx_iinc (j := 4) (v := l3 + 1) (L' := [(3, vI (l3 + 1)), (5, vI (mj_b s0)), (0, vR l0), (1, vR l1), (2, vR l2), (4, vR l4)]) hC dX11_countJoined_126 rfl rfl (by decide) rfl ?_
      refine mx_goto (tgt := 26) hC dX11_countJoined_129 (by decide) ?_
      refine mx_sub (L' := [(0, vR l0), (1, vR l1), (2, vR l2), (3, vI (l3 + 1))]) [2, 3, 4, 0] rfl ?_
      exact show mj_X g 26 [(0, vR l0), (1, vR l1), (2, vR l2), (3, vI (l3 + 1))] [] M 0 0 from (hk26 l0 l1 l2 (l3 + 1) M h)
    · replace h := mj_nn hc2 h
      refine mx_aload_n (j := 1) hC dX11_countJoined_83 rfl rfl ?_
      obtain ⟨ht3, h⟩ := h
      refine mx_get (v := vR (mj_r M l0 2)) hC tf_X11_26 ht3 rfl dX11_countJoined_84 ?_
      refine mx_aload_n (j := 3) hC dX11_countJoined_87 rfl rfl ?_
      obtain ⟨ht4, h⟩ := h
      refine mx_get (v := vR (mj_r M l2 2)) hC tf_X11_231 ht4 rfl dX11_countJoined_88 ?_
      refine mx_aload_n (j := 1) hC dX11_countJoined_91 rfl rfl ?_
      refine mx_get (v := vR (mj_r M l0 0)) hC tf_X11_10 ht3 rfl dX11_countJoined_92 ?_
      refine mx_aload (j := 5) hC dX11_countJoined_95 rfl ?_
      refine mx_aload_n (j := 1) hC dX11_countJoined_97 rfl rfl ?_
      refine mx_get (v := vR (mj_r M l0 0)) hC tf_X11_10 ht3 rfl dX11_countJoined_98 ?_
      obtain ⟨ht5, h⟩ := h
      refine mx_get (v := vI (mj_i M (mj_r M l0 0) 0)) hC tf_X11_66 ht5 rfl dX11_countJoined_101 ?_
      refine mx_bipush (v := (-6)) hC dX11_countJoined_104 (by decide) ?_
      obtain ⟨ht6, h⟩ := h
      refine mx_callV (inj := mj_jB) (As := [vR (mj_r M l2 2), vR (mj_r M l0 0), vR l4, vI (mj_i M (mj_r M l0 0) 0), vI ((-6))]) (st := []) hC (ct_X8_isSo (mj_r M l0 2) (mj_r M l2 2) (mj_r M l0 0) l4 (mj_i M (mj_r M l0 0) 0) ((-6)) M _ h) ty_X8_isSo tw657 ht6 rfl (Nat.le_of_ble_eq_true rfl) ⟨rfl, rfl, ⟨by decide, by decide⟩, by decide, by decide⟩ dX11_countJoined_106 (fun r7 M8 h => ?_)
      show mj_X g 109 [(5, vI (mj_b s0)), (0, vR l0), (1, vR l1), (2, vR l2), (3, vI l3), (4, vR l4)] [vI (mj_b r7)] M8 0 0
      refine mx_ifeqB (tgt := 126) hC dX11_countJoined_109 (by decide) (fun hc9 => ?_) (fun hc9 => ?_)
      · replace h := mj_nn hc9 h
        refine mx_iinc (j := 4) (v := l3 + 1) (L' := [(3, vI (l3 + 1)), (5, vI (mj_b s0)), (0, vR l0), (1, vR l1), (2, vR l2), (4, vR l4)]) hC dX11_countJoined_126 rfl rfl (by decide) rfl ?_
        refine mx_goto (tgt := 26) hC dX11_countJoined_129 (by decide) ?_
        refine mx_sub (L' := [(0, vR l0), (1, vR l1), (2, vR l2), (3, vI (l3 + 1))]) [2, 3, 4, 0] rfl ?_
        exact show mj_X g 26 [(0, vR l0), (1, vR l1), (2, vR l2), (3, vI (l3 + 1))] [] M8 0 0 from (hk26 l0 l1 l2 (l3 + 1) M8 h)
      · replace h := mj_yy hc9 h
        refine mx_aload_n (j := 1) hC dX11_countJoined_112 rfl rfl ?_
        obtain ⟨ht10, h⟩ := h
        refine mx_get (v := vR (mj_r M8 l0 7)) hC tf_X11_58 ht10 rfl dX11_countJoined_113 ?_
        refine mx_aload (j := 5) hC dX11_countJoined_116 rfl ?_
        obtain ⟨ht11, h⟩ := h
        refine mx_get (v := vI (mj_i M8 l4 8)) hC tf_X11_115 ht11 rfl dX11_countJoined_118 ?_
        refine mx_dup2 hC dX11_countJoined_121 rfl rfl ?_
        obtain ⟨ht12, h⟩ := h
        obtain ⟨hi13, h⟩ := h
        refine mx_iaload hC ht12 hi13 dX11_countJoined_122 ?_
        refine mx_iconst (v := 1) hC dX11_countJoined_123 (by decide) ?_
        refine mx_iadd hC dX11_countJoined_124 ?_
        refine mx_iastore hC ht12 hi13 dX11_countJoined_125 ?_
        refine mx_iinc (j := 4) (v := l3 + 1) (L' := [(3, vI (l3 + 1)), (5, vI (mj_b s0)), (0, vR l0), (1, vR l1), (2, vR l2), (4, vR l4)]) hC dX11_countJoined_126 rfl rfl (by decide) rfl ?_
        refine mx_goto (tgt := 26) hC dX11_countJoined_129 (by decide) ?_
        refine mx_sub (L' := [(0, vR l0), (1, vR l1), (2, vR l2), (3, vI (l3 + 1))]) [2, 3, 4, 0] rfl ?_
        exact show mj_X g 26 [(0, vR l0), (1, vR l1), (2, vR l2), (3, vI (l3 + 1))] [] (mj_wi M8 (mj_r M8 l0 7) (mj_i M8 l4 8 : Int32).toNatClampNeg ((mj_i M8 (mj_r M8 l0 7) (mj_i M8 l4 8 : Int32).toNatClampNeg) + 1)) 0 0 from (hk26 l0 l1 l2 (l3 + 1) (mj_wi M8 (mj_r M8 l0 7) (mj_i M8 l4 8 : Int32).toNatClampNeg ((mj_i M8 (mj_r M8 l0 7) (mj_i M8 l4 8 : Int32).toNatClampNeg) + 1)) h)
set_option maxHeartbeats 4000000 in
set_option maxRecDepth 100000 in
theorem xb_X11_countJoined_71 {g : mj_G} {post : Unit → mj_M → Prop} (hC : mj_C g yX11_countJoined cX11_countJoined 6 (none) rm_X11_countJoined) (hE : mj_E g mj_jV post 0 0) {k26 : Nat → Nat → Nat → Int32 → mj_M → Prop} (hk26 : ∀ (l0 : Nat) (l1 : Nat) (l2 : Nat) (l3 : Int32) (M : mj_M), k26 l0 l1 l2 l3 M → mj_X g 26 [(0, vR l0), (1, vR l1), (2, vR l2), (3, vI l3)] [] M 0 0) (l0 : Nat) (l1 : Nat) (l2 : Nat) (l3 : Int32) (l4 : Nat) (M : mj_M) (h : vb_X11_countJoined_71 k26 post l0 l1 l2 l3 l4 M) : mj_X g 71 [(0, vR l0), (1, vR l1), (2, vR l2), (3, vI l3), (4, vR l4)] [] M 0 0 := by
  simp only [vb_X11_countJoined_71] at h
  refine mx_iconst (v := 0) hC dX11_countJoined_71 (by decide) ?_
  refine mx_sub (L' := [(0, vR l0), (1, vR l1), (2, vR l2), (3, vI l3), (4, vR l4)]) [0, 1, 2, 3, 4] rfl ?_
  exact show mj_X g 72 [(0, vR l0), (1, vR l1), (2, vR l2), (3, vI l3), (4, vR l4)] [vI (mj_b false)] M 0 0 from (xb_X11_countJoined_72 hC hE hk26 l0 l1 l2 l3 l4 false M h)
set_option maxHeartbeats 4000000 in
set_option maxRecDepth 100000 in
theorem xb_X11_countJoined_52 {g : mj_G} {post : Unit → mj_M → Prop} (hC : mj_C g yX11_countJoined cX11_countJoined 6 (none) rm_X11_countJoined) (hE : mj_E g mj_jV post 0 0) {k26 : Nat → Nat → Nat → Int32 → mj_M → Prop} (hk26 : ∀ (l0 : Nat) (l1 : Nat) (l2 : Nat) (l3 : Int32) (M : mj_M), k26 l0 l1 l2 l3 M → mj_X g 26 [(0, vR l0), (1, vR l1), (2, vR l2), (3, vI l3)] [] M 0 0) (l0 : Nat) (l1 : Nat) (l2 : Nat) (l3 : Int32) (s0 : Nat) (M : mj_M) (h : vb_X11_countJoined_52 k26 post l0 l1 l2 l3 s0 M) : mj_X g 52 [(0, vR l0), (1, vR l1), (2, vR l2), (3, vI l3)] [vR s0] M 0 0 := by
  simp only [vb_X11_countJoined_52] at h
  refine mx_astore (L' := [(4, vR s0), (0, vR l0), (1, vR l1), (2, vR l2), (3, vI l3)]) hC dX11_countJoined_52 (by decide) rfl ?_
  refine mx_aload (j := 0) hC dX11_countJoined_54 rfl ?_
  refine mx_ifnull (tgt := 71) hC dX11_countJoined_56 (by decide) (fun hc14 => ?_) (fun hc14 => ?_)
  · replace h := mj_yy hc14 h
    refine mx_sub (L' := [(0, vR l0), (1, vR l1), (2, vR l2), (3, vI l3), (4, vR s0)]) [1, 2, 3, 4, 0] rfl ?_
    exact show mj_X g 71 [(0, vR l0), (1, vR l1), (2, vR l2), (3, vI l3), (4, vR s0)] [] M 0 0 from (xb_X11_countJoined_71 hC hE hk26 l0 l1 l2 l3 s0 M h)
  · replace h := mj_nn hc14 h
    refine mx_aload (j := 0) hC dX11_countJoined_59 rfl ?_
    obtain ⟨ht15, h⟩ := h
    refine mx_get (v := vR (mj_r M s0 2)) hC tf_X11_132 ht15 rfl dX11_countJoined_61 ?_
    refine mx_ifnull (tgt := 71) hC dX11_countJoined_64 (by decide) (fun hc16 => ?_) (fun hc16 => ?_)
    · replace h := mj_yy hc16 h
      refine mx_sub (L' := [(0, vR l0), (1, vR l1), (2, vR l2), (3, vI l3), (4, vR s0)]) [1, 2, 3, 4, 0] rfl ?_
      exact show mj_X g 71 [(0, vR l0), (1, vR l1), (2, vR l2), (3, vI l3), (4, vR s0)] [] M 0 0 from (xb_X11_countJoined_71 hC hE hk26 l0 l1 l2 l3 s0 M h)
    · replace h := mj_nn hc16 h
      refine mx_iconst (v := 1) hC dX11_countJoined_67 (by decide) ?_
      refine mx_goto (tgt := 72) hC dX11_countJoined_68 (by decide) ?_
      refine mx_sub (L' := [(0, vR l0), (1, vR l1), (2, vR l2), (3, vI l3), (4, vR s0)]) [1, 2, 3, 4, 0] rfl ?_
      exact show mj_X g 72 [(0, vR l0), (1, vR l1), (2, vR l2), (3, vI l3), (4, vR s0)] [vI (mj_b true)] M 0 0 from (xb_X11_countJoined_72 hC hE hk26 l0 l1 l2 l3 s0 true M h)
set_option maxHeartbeats 4000000 in
set_option maxRecDepth 100000 in
theorem xb_X11_countJoined_26 {g : mj_G} {post : Unit → mj_M → Prop} (hC : mj_C g yX11_countJoined cX11_countJoined 6 (none) rm_X11_countJoined) (hE : mj_E g mj_jV post 0 0) : ∀ (f : Nat) (l0 : Nat) (l1 : Nat) (l2 : Nat) (l3 : Int32) (M : mj_M), vb_X11_countJoined_26 post f l0 l1 l2 l3 M → mj_X g 26 [(0, vR l0), (1, vR l1), (2, vR l2), (3, vI l3)] [] M 0 0 := by
  intro f
  induction f with
  | zero => exact fun _ _ _ _ _ h => absurd h (fun z => z)
  | succ f ih =>
    intro l0 l1 l2 l3 M h
    simp only [vb_X11_countJoined_26] at h
    refine mx_iload_n (j := 3) hC dX11_countJoined_26 rfl rfl ?_
    refine mx_bipush (v := 12) hC dX11_countJoined_27 (by decide) ?_
    refine mx_icmpge (tgt := 132) hC dX11_countJoined_29 (by decide) (fun hc17 => ?_) (fun hc17 => ?_)
    · replace h := mj_yy hc17 h
      exact mx_vret hC hE rfl dX11_countJoined_132 h
    · replace h := mj_nn hc17 h
      refine mx_aload_n (j := 1) hC dX11_countJoined_32 rfl rfl ?_
      refine mx_iload_n (j := 3) hC dX11_countJoined_33 rfl rfl ?_
      obtain ⟨ht18, h⟩ := h
      refine mx_callV (inj := mj_jB) (As := [vI l3]) (st := []) hC (ct_X3_hasFloor l1 l3 M _ h) ty_X3_hasFloor tw909 ht18 rfl (Nat.le_of_ble_eq_true rfl) ⟨rfl, rfl, ⟨by decide, by decide⟩, by decide, by decide⟩ dX11_countJoined_34 (fun r19 M20 h => ?_)
      show mj_X g 37 [(0, vR l0), (1, vR l1), (2, vR l2), (3, vI l3)] [vI (mj_b r19)] M20 0 0
      refine mx_ifeqB (tgt := 51) hC dX11_countJoined_37 (by decide) (fun hc21 => ?_) (fun hc21 => ?_)
      · replace h := mj_nn hc21 h
        refine mx_null hC dX11_countJoined_51 ?_
        refine mx_sub (L' := [(0, vR l0), (1, vR l1), (2, vR l2), (3, vI l3)]) [0, 1, 2, 3] rfl ?_
        exact show mj_X g 52 [(0, vR l0), (1, vR l1), (2, vR l2), (3, vI l3)] [vR 0] M20 0 0 from (xb_X11_countJoined_52 hC hE ih l0 l1 l2 l3 0 M20 h)
      · replace h := mj_yy hc21 h
        refine mx_aload_n (j := 0) hC dX11_countJoined_40 rfl rfl ?_
        obtain ⟨ht22, h⟩ := h
        refine mx_get (v := vR (mj_r M20 l0 0)) hC tf_X11_10 ht22 rfl dX11_countJoined_41 ?_
        refine mx_iload_n (j := 3) hC dX11_countJoined_44 rfl rfl ?_
        obtain ⟨ht23, h⟩ := h
        refine mx_callV (inj := mj_jR) (As := [vI l3]) (st := []) hC (ct_X4_lastOf (mj_r M20 l0 0) l3 M20 _ h) ty_X4_lastOf tw910 ht23 rfl (Nat.le_of_ble_eq_true rfl) ⟨rfl, rfl, ⟨by decide, by decide⟩, by decide, by decide⟩ dX11_countJoined_45 (fun r24 M25 h => ?_)
        show mj_X g 48 [(0, vR l0), (1, vR l1), (2, vR l2), (3, vI l3)] [vR r24] M25 0 0
        refine mx_goto (tgt := 52) hC dX11_countJoined_48 (by decide) ?_
        refine mx_sub (L' := [(0, vR l0), (1, vR l1), (2, vR l2), (3, vI l3)]) [0, 1, 2, 3] rfl ?_
        exact show mj_X g 52 [(0, vR l0), (1, vR l1), (2, vR l2), (3, vI l3)] [vR r24] M25 0 0 from (xb_X11_countJoined_52 hC hE ih l0 l1 l2 l3 r24 M25 h)
set_option maxHeartbeats 4000000 in
set_option maxRecDepth 100000 in
theorem ct_X11_countJoined {l : Launch} {base : Nat} {D : va_G} {A : mj_AT} (l0 : Nat) (l1 : Nat) (M : mj_M) (post : Unit → mj_M → Prop) (h : vc_X11_countJoined l0 l1 M post) : mj_Met l base D A mj_jV yX11_countJoined cX11_countJoined 6 (none) rm_X11_countJoined 0 0 [vR l0, vR l1] M post := by
  refine mj_entry (by decide +kernel) (Nat.le_of_ble_eq_true rfl) (fun g hC hE h1 h2 h3 h4 => ?_)
  show mj_X g 0 [(0, vR l0), (1, vR l1)] [] M 0 0
  simp only [vc_X11_countJoined] at h
  refine mx_aload_n (j := 0) hC dX11_countJoined_0 rfl rfl ?_
  obtain ⟨ht26, h⟩ := h
  refine mx_get (v := vR (mj_r M l0 7)) hC tf_X11_58 ht26 rfl dX11_countJoined_1 ?_
  refine mx_iconst (v := 0) hC dX11_countJoined_4 (by decide) ?_
  refine mx_callS (inj := mj_jV) (As := [vR (mj_r M l0 7), vI 0]) (st := []) hC (ct_J7_fill_53178 (mj_r M l0 7) 0 M _ h) ty_J7_fill_53178 tw908 rfl (Nat.le_of_ble_eq_true rfl) ⟨rfl, rfl, ⟨by decide, by decide⟩, by decide, by decide⟩ dX11_countJoined_5 (fun _ M27 h => ?_)
  show mj_X g 8 [(0, vR l0), (1, vR l1)] [] M27 0 0
  refine mx_aload_n (j := 0) hC dX11_countJoined_8 rfl rfl ?_
  obtain ⟨ht28, h⟩ := h
  refine mx_get (v := vR (mj_r M27 l0 1)) hC tf_X11_19 ht28 rfl dX11_countJoined_9 ?_
  refine mx_iconst (v := 3) hC dX11_countJoined_12 (by decide) ?_
  refine mx_aload_n (j := 0) hC dX11_countJoined_13 rfl rfl ?_
  refine mx_get (v := vR (mj_r M27 l0 0)) hC tf_X11_10 ht28 rfl dX11_countJoined_14 ?_
  obtain ⟨ht29, h⟩ := h
  refine mx_get (v := vI (mj_i M27 (mj_r M27 l0 0) 0)) hC tf_X11_66 ht29 rfl dX11_countJoined_17 ?_
  obtain ⟨ht30, h⟩ := h
  refine mx_callV (inj := mj_jR) (As := [vI 3, vI (mj_i M27 (mj_r M27 l0 0) 0)]) (st := []) hC (ct_X1_inForce (mj_r M27 l0 1) 3 (mj_i M27 (mj_r M27 l0 0) 0) M27 _ h) ty_X1_inForce tw645 ht30 rfl (Nat.le_of_ble_eq_true rfl) ⟨rfl, rfl, ⟨by decide, by decide⟩, by decide, by decide⟩ dX11_countJoined_20 (fun r31 M32 h => ?_)
  show mj_X g 23 [(0, vR l0), (1, vR l1)] [vR r31] M32 0 0
  refine mx_astore_n (L' := [(2, vR r31), (0, vR l0), (1, vR l1)]) hC dX11_countJoined_23 rfl (by decide) rfl ?_
  refine mx_iconst (v := 0) hC dX11_countJoined_24 (by decide) ?_
  refine mx_istore_n (L' := [(3, vI 0), (2, vR r31), (0, vR l0), (1, vR l1)]) hC dX11_countJoined_25 rfl (by decide) rfl ?_
  refine mx_sub (L' := [(0, vR l0), (1, vR l1), (2, vR r31), (3, vI 0)]) [2, 3, 1, 0] rfl ?_
  exact show mj_X g 26 [(0, vR l0), (1, vR l1), (2, vR r31), (3, vI 0)] [] M32 0 0 from (xb_X11_countJoined_26 hC hE 60 l0 l1 r31 0 M32 h)
theorem tw919 : (Jvm.Cond.methodLink "LeaseLand" (388 : Nat) ({ cls := "java/lang/Integer", name := "bitCount", desc := "(I)I" } : Jvm.MethodName)) ∈ mj_tbl := mj_w 925 (by decide +kernel) (by decide +kernel)
def rm_X11_mayBuy : Room := { frames := 1, cells := 0, slots := 0, locals := 20 }
theorem dX11_mayBuy_0 : decode cX11_mayBuy 0 = .ok (.iconst 0, 1) := by decide +kernel
theorem dX11_mayBuy_1 : decode cX11_mayBuy 1 = .ok (.istore_n 3, 1) := by decide +kernel
theorem dX11_mayBuy_2 : decode cX11_mayBuy 2 = .ok (.iconst 0, 1) := by decide +kernel
theorem dX11_mayBuy_3 : decode cX11_mayBuy 3 = .ok (.istore 4, 2) := by decide +kernel
theorem dX11_mayBuy_5 : decode cX11_mayBuy 5 = .ok (.iconst 0, 1) := by decide +kernel
theorem dX11_mayBuy_6 : decode cX11_mayBuy 6 = .ok (.istore 5, 2) := by decide +kernel
theorem dX11_mayBuy_8 : decode cX11_mayBuy 8 = .ok (.iload 5, 2) := by decide +kernel
theorem dX11_mayBuy_10 : decode cX11_mayBuy 10 = .ok (.bipush 10, 2) := by decide +kernel
theorem dX11_mayBuy_12 : decode cX11_mayBuy 12 = .ok (.if_icmp .ge 45, 3) := by decide +kernel
theorem dX11_mayBuy_15 : decode cX11_mayBuy 15 = .ok (.iload_n 3, 1) := by decide +kernel
theorem dX11_mayBuy_16 : decode cX11_mayBuy 16 = .ok (.aload_n 0, 1) := by decide +kernel
theorem dX11_mayBuy_17 : decode cX11_mayBuy 17 = .ok (.getfield 58, 3) := by decide +kernel
theorem dX11_mayBuy_20 : decode cX11_mayBuy 20 = .ok (.iload 5, 2) := by decide +kernel
theorem dX11_mayBuy_22 : decode cX11_mayBuy 22 = .ok (.iaload, 1) := by decide +kernel
theorem dX11_mayBuy_23 : decode cX11_mayBuy 23 = .ok (.iadd, 1) := by decide +kernel
theorem dX11_mayBuy_24 : decode cX11_mayBuy 24 = .ok (.istore_n 3, 1) := by decide +kernel
theorem dX11_mayBuy_25 : decode cX11_mayBuy 25 = .ok (.iload 4, 2) := by decide +kernel
theorem dX11_mayBuy_27 : decode cX11_mayBuy 27 = .ok (.iload_n 2, 1) := by decide +kernel
theorem dX11_mayBuy_28 : decode cX11_mayBuy 28 = .ok (.iload 5, 2) := by decide +kernel
theorem dX11_mayBuy_30 : decode cX11_mayBuy 30 = .ok (.ishr, 1) := by decide +kernel
theorem dX11_mayBuy_31 : decode cX11_mayBuy 31 = .ok (.iconst 1, 1) := by decide +kernel
theorem dX11_mayBuy_32 : decode cX11_mayBuy 32 = .ok (.iand, 1) := by decide +kernel
theorem dX11_mayBuy_33 : decode cX11_mayBuy 33 = .ok (.iconst 1, 1) := by decide +kernel
theorem dX11_mayBuy_34 : decode cX11_mayBuy 34 = .ok (.if_icmp .ne 13, 3) := by decide +kernel
theorem dX11_mayBuy_37 : decode cX11_mayBuy 37 = .ok (.aload_n 0, 1) := by decide +kernel
theorem dX11_mayBuy_38 : decode cX11_mayBuy 38 = .ok (.getfield 58, 3) := by decide +kernel
theorem dX11_mayBuy_41 : decode cX11_mayBuy 41 = .ok (.iload 5, 2) := by decide +kernel
theorem dX11_mayBuy_43 : decode cX11_mayBuy 43 = .ok (.iaload, 1) := by decide +kernel
theorem dX11_mayBuy_44 : decode cX11_mayBuy 44 = .ok (.goto 4, 3) := by decide +kernel
theorem dX11_mayBuy_47 : decode cX11_mayBuy 47 = .ok (.iconst 0, 1) := by decide +kernel
theorem dX11_mayBuy_48 : decode cX11_mayBuy 48 = .ok (.iadd, 1) := by decide +kernel
theorem dX11_mayBuy_49 : decode cX11_mayBuy 49 = .ok (.istore 4, 2) := by decide +kernel
theorem dX11_mayBuy_51 : decode cX11_mayBuy 51 = .ok (.iinc 5 1, 3) := by decide +kernel
theorem dX11_mayBuy_54 : decode cX11_mayBuy 54 = .ok (.goto (-46), 3) := by decide +kernel
theorem dX11_mayBuy_57 : decode cX11_mayBuy 57 = .ok (.aload_n 1, 1) := by decide +kernel
theorem dX11_mayBuy_58 : decode cX11_mayBuy 58 = .ok (.getfield 147, 3) := by decide +kernel
theorem dX11_mayBuy_61 : decode cX11_mayBuy 61 = .ok (.invokestatic 388, 3) := by decide +kernel
theorem dX11_mayBuy_64 : decode cX11_mayBuy 64 = .ok (.istore 5, 2) := by decide +kernel
theorem dX11_mayBuy_66 : decode cX11_mayBuy 66 = .ok (.iconst 3, 1) := by decide +kernel
theorem dX11_mayBuy_67 : decode cX11_mayBuy 67 = .ok (.iload_n 3, 1) := by decide +kernel
theorem dX11_mayBuy_68 : decode cX11_mayBuy 68 = .ok (.imul, 1) := by decide +kernel
theorem dX11_mayBuy_69 : decode cX11_mayBuy 69 = .ok (.iconst 2, 1) := by decide +kernel
theorem dX11_mayBuy_70 : decode cX11_mayBuy 70 = .ok (.iload 5, 2) := by decide +kernel
theorem dX11_mayBuy_72 : decode cX11_mayBuy 72 = .ok (.imul, 1) := by decide +kernel
theorem dX11_mayBuy_73 : decode cX11_mayBuy 73 = .ok (.if_icmp .lt 16, 3) := by decide +kernel
theorem dX11_mayBuy_76 : decode cX11_mayBuy 76 = .ok (.iconst 2, 1) := by decide +kernel
theorem dX11_mayBuy_77 : decode cX11_mayBuy 77 = .ok (.iload 4, 2) := by decide +kernel
theorem dX11_mayBuy_79 : decode cX11_mayBuy 79 = .ok (.imul, 1) := by decide +kernel
theorem dX11_mayBuy_80 : decode cX11_mayBuy 80 = .ok (.iload 5, 2) := by decide +kernel
theorem dX11_mayBuy_82 : decode cX11_mayBuy 82 = .ok (.if_icmp .lt 7, 3) := by decide +kernel
theorem dX11_mayBuy_85 : decode cX11_mayBuy 85 = .ok (.iconst 1, 1) := by decide +kernel
theorem dX11_mayBuy_86 : decode cX11_mayBuy 86 = .ok (.goto 4, 3) := by decide +kernel
theorem dX11_mayBuy_89 : decode cX11_mayBuy 89 = .ok (.iconst 0, 1) := by decide +kernel
theorem dX11_mayBuy_90 : decode cX11_mayBuy 90 = .ok (.ireturn, 1) := by decide +kernel
def vb_X11_mayBuy_8 (post : Bool → mj_M → Prop) : Nat → Nat → Nat → Int32 → Int32 → Int32 → Int32 → mj_M → Prop
  | 0 => fun _ _ _ _ _ _ _ => False
  | f + 1 => fun l0 l1 l2 l3 l4 l5 M => if 10 ≤ l5 then (mj_tag M l1 = 4 ∧ vc_J6_bitCount_0f7a4 (mj_i M l1 3) M (fun r3 M4 => if (3 * l3) < (2 * r3) then (post false M4) else (if (2 * l4) < r3 then (post false M4) else (post true M4)))) else (mj_tag M l0 = 12 ∧ mj_tag M (mj_r M l0 7) = 101 ∧ vp_in l5 (mj_len M (mj_r M l0 7)) ∧ if ((l2 >>> (l5 &&& 31)) &&& 1) = 1 then (vb_X11_mayBuy_8 post f l0 l1 l2 (l3 + (mj_i M (mj_r M l0 7) (l5 : Int32).toNatClampNeg)) (l4 + (mj_i M (mj_r M l0 7) (l5 : Int32).toNatClampNeg)) (l5 + 1) M) else (vb_X11_mayBuy_8 post f l0 l1 l2 (l3 + (mj_i M (mj_r M l0 7) (l5 : Int32).toNatClampNeg)) (l4 + 0) (l5 + 1) M))
def vc_X11_mayBuy (l0 : Nat) (l1 : Nat) (l2 : Int32) (M : mj_M) (post : Bool → mj_M → Prop) : Prop := vb_X11_mayBuy_8 post 60 l0 l1 l2 0 0 0 M
set_option maxHeartbeats 4000000 in
set_option maxRecDepth 100000 in
theorem xb_X11_mayBuy_8 {g : mj_G} {post : Bool → mj_M → Prop} (hC : mj_C g yX11_mayBuy cX11_mayBuy 6 (some .boolean) rm_X11_mayBuy) (hE : mj_E g mj_jB post 0 0) : ∀ (f : Nat) (l0 : Nat) (l1 : Nat) (l2 : Int32) (l3 : Int32) (l4 : Int32) (l5 : Int32) (M : mj_M), vb_X11_mayBuy_8 post f l0 l1 l2 l3 l4 l5 M → mj_X g 8 [(0, vR l0), (1, vR l1), (2, vI l2), (3, vI l3), (4, vI l4), (5, vI l5)] [] M 0 0 := by
  intro f
  induction f with
  | zero => exact fun _ _ _ _ _ _ _ h => absurd h (fun z => z)
  | succ f ih =>
    intro l0 l1 l2 l3 l4 l5 M h
    simp only [vb_X11_mayBuy_8] at h
    refine mx_iload (j := 5) hC dX11_mayBuy_8 rfl ?_
    refine mx_bipush (v := 10) hC dX11_mayBuy_10 (by decide) ?_
    refine mx_icmpge (tgt := 57) hC dX11_mayBuy_12 (by decide) (fun hc1 => ?_) (fun hc1 => ?_)
    · replace h := mj_yy hc1 h
      refine mx_aload_n (j := 1) hC dX11_mayBuy_57 rfl rfl ?_
      obtain ⟨ht2, h⟩ := h
      refine mx_get (v := vI (mj_i M l1 3)) hC tf_X11_147 ht2 rfl dX11_mayBuy_58 ?_
      refine mx_callS (inj := mj_jI) (As := [vI (mj_i M l1 3)]) (st := []) hC (ct_J6_bitCount_0f7a4 (mj_i M l1 3) M _ h) ty_J6_bitCount_0f7a4 tw919 rfl (Nat.le_of_ble_eq_true rfl) ⟨rfl, rfl, ⟨by decide, by decide⟩, by decide, by decide⟩ dX11_mayBuy_61 (fun r3 M4 h => ?_)
      show mj_X g 64 [(0, vR l0), (1, vR l1), (2, vI l2), (3, vI l3), (4, vI l4), (5, vI l5)] [vI r3] M4 0 0
      refine mx_istore (L' := [(5, vI r3), (0, vR l0), (1, vR l1), (2, vI l2), (3, vI l3), (4, vI l4)]) hC dX11_mayBuy_64 (by decide) rfl ?_
      refine mx_iconst (v := 3) hC dX11_mayBuy_66 (by decide) ?_
      refine mx_iload_n (j := 4) hC dX11_mayBuy_67 rfl rfl ?_
      refine mx_imul hC dX11_mayBuy_68 ?_
      refine mx_iconst (v := 2) hC dX11_mayBuy_69 (by decide) ?_
      refine mx_iload (j := 0) hC dX11_mayBuy_70 rfl ?_
      refine mx_imul hC dX11_mayBuy_72 ?_
      refine mx_icmplt (tgt := 89) hC dX11_mayBuy_73 (by decide) (fun hc5 => ?_) (fun hc5 => ?_)
      · replace h := mj_yy hc5 h
        refine mx_iconst (v := 0) hC dX11_mayBuy_89 (by decide) ?_
        exact mx_zret (b := false) hC hE rfl dX11_mayBuy_90 h
      · replace h := mj_nn hc5 h
        refine mx_iconst (v := 2) hC dX11_mayBuy_76 (by decide) ?_
        refine mx_iload (j := 5) hC dX11_mayBuy_77 rfl ?_
        refine mx_imul hC dX11_mayBuy_79 ?_
        refine mx_iload (j := 0) hC dX11_mayBuy_80 rfl ?_
        refine mx_icmplt (tgt := 89) hC dX11_mayBuy_82 (by decide) (fun hc6 => ?_) (fun hc6 => ?_)
        · replace h := mj_yy hc6 h
          refine mx_iconst (v := 0) hC dX11_mayBuy_89 (by decide) ?_
          exact mx_zret (b := false) hC hE rfl dX11_mayBuy_90 h
        · replace h := mj_nn hc6 h
          refine mx_iconst (v := 1) hC dX11_mayBuy_85 (by decide) ?_
          refine mx_goto (tgt := 90) hC dX11_mayBuy_86 (by decide) ?_
          exact mx_zret (b := true) hC hE rfl dX11_mayBuy_90 h
    · replace h := mj_nn hc1 h
      refine mx_iload_n (j := 3) hC dX11_mayBuy_15 rfl rfl ?_
      refine mx_aload_n (j := 0) hC dX11_mayBuy_16 rfl rfl ?_
      obtain ⟨ht7, h⟩ := h
      refine mx_get (v := vR (mj_r M l0 7)) hC tf_X11_58 ht7 rfl dX11_mayBuy_17 ?_
      refine mx_iload (j := 5) hC dX11_mayBuy_20 rfl ?_
      obtain ⟨ht8, h⟩ := h
      obtain ⟨hi9, h⟩ := h
      refine mx_iaload hC ht8 hi9 dX11_mayBuy_22 ?_
      refine mx_iadd hC dX11_mayBuy_23 ?_
      refine mx_istore_n (L' := [(3, vI (l3 + (mj_i M (mj_r M l0 7) (l5 : Int32).toNatClampNeg))), (0, vR l0), (1, vR l1), (2, vI l2), (4, vI l4), (5, vI l5)]) hC dX11_mayBuy_24 rfl (by decide) rfl ?_
      refine mx_iload (j := 4) hC dX11_mayBuy_25 rfl ?_
      refine mx_iload_n (j := 3) hC dX11_mayBuy_27 rfl rfl ?_
      refine mx_iload (j := 5) hC dX11_mayBuy_28 rfl ?_
      refine mx_ishr hC dX11_mayBuy_30 ?_
      refine mx_iconst (v := 1) hC dX11_mayBuy_31 (by decide) ?_
      refine mx_iand hC dX11_mayBuy_32 ?_
      refine mx_iconst (v := 1) hC dX11_mayBuy_33 (by decide) ?_
      refine mx_icmpne (tgt := 47) hC dX11_mayBuy_34 (by decide) (fun hc10 => ?_) (fun hc10 => ?_)
      · replace h := mj_nn hc10 h
        refine mx_iconst (v := 0) hC dX11_mayBuy_47 (by decide) ?_
        refine mx_iadd hC dX11_mayBuy_48 ?_
        refine mx_istore (L' := [(4, vI (l4 + 0)), (3, vI (l3 + (mj_i M (mj_r M l0 7) (l5 : Int32).toNatClampNeg))), (0, vR l0), (1, vR l1), (2, vI l2), (5, vI l5)]) hC dX11_mayBuy_49 (by decide) rfl ?_
        refine mx_iinc (j := 5) (v := l5 + 1) (L' := [(5, vI (l5 + 1)), (4, vI (l4 + 0)), (3, vI (l3 + (mj_i M (mj_r M l0 7) (l5 : Int32).toNatClampNeg))), (0, vR l0), (1, vR l1), (2, vI l2)]) hC dX11_mayBuy_51 rfl rfl (by decide) rfl ?_
        refine mx_goto (tgt := 8) hC dX11_mayBuy_54 (by decide) ?_
        refine mx_sub (L' := [(0, vR l0), (1, vR l1), (2, vI l2), (3, vI (l3 + (mj_i M (mj_r M l0 7) (l5 : Int32).toNatClampNeg))), (4, vI (l4 + 0)), (5, vI (l5 + 1))]) [3, 4, 5, 2, 1, 0] rfl ?_
        exact show mj_X g 8 [(0, vR l0), (1, vR l1), (2, vI l2), (3, vI (l3 + (mj_i M (mj_r M l0 7) (l5 : Int32).toNatClampNeg))), (4, vI (l4 + 0)), (5, vI (l5 + 1))] [] M 0 0 from (ih l0 l1 l2 (l3 + (mj_i M (mj_r M l0 7) (l5 : Int32).toNatClampNeg)) (l4 + 0) (l5 + 1) M h)
      · replace h := mj_yy hc10 h
        refine mx_aload_n (j := 1) hC dX11_mayBuy_37 rfl rfl ?_
        refine mx_get (v := vR (mj_r M l0 7)) hC tf_X11_58 ht7 rfl dX11_mayBuy_38 ?_
        refine mx_iload (j := 5) hC dX11_mayBuy_41 rfl ?_
        refine mx_iaload hC ht8 hi9 dX11_mayBuy_43 ?_
        refine mx_goto (tgt := 48) hC dX11_mayBuy_44 (by decide) ?_
        refine mx_iadd hC dX11_mayBuy_48 ?_
        refine mx_istore (L' := [(4, vI (l4 + (mj_i M (mj_r M l0 7) (l5 : Int32).toNatClampNeg))), (3, vI (l3 + (mj_i M (mj_r M l0 7) (l5 : Int32).toNatClampNeg))), (0, vR l0), (1, vR l1), (2, vI l2), (5, vI l5)]) hC dX11_mayBuy_49 (by decide) rfl ?_
        refine mx_iinc (j := 5) (v := l5 + 1) (L' := [(5, vI (l5 + 1)), (4, vI (l4 + (mj_i M (mj_r M l0 7) (l5 : Int32).toNatClampNeg))), (3, vI (l3 + (mj_i M (mj_r M l0 7) (l5 : Int32).toNatClampNeg))), (0, vR l0), (1, vR l1), (2, vI l2)]) hC dX11_mayBuy_51 rfl rfl (by decide) rfl ?_
        refine mx_goto (tgt := 8) hC dX11_mayBuy_54 (by decide) ?_
        refine mx_sub (L' := [(0, vR l0), (1, vR l1), (2, vI l2), (3, vI (l3 + (mj_i M (mj_r M l0 7) (l5 : Int32).toNatClampNeg))), (4, vI (l4 + (mj_i M (mj_r M l0 7) (l5 : Int32).toNatClampNeg))), (5, vI (l5 + 1))]) [3, 4, 5, 2, 1, 0] rfl ?_
        exact show mj_X g 8 [(0, vR l0), (1, vR l1), (2, vI l2), (3, vI (l3 + (mj_i M (mj_r M l0 7) (l5 : Int32).toNatClampNeg))), (4, vI (l4 + (mj_i M (mj_r M l0 7) (l5 : Int32).toNatClampNeg))), (5, vI (l5 + 1))] [] M 0 0 from (ih l0 l1 l2 (l3 + (mj_i M (mj_r M l0 7) (l5 : Int32).toNatClampNeg)) (l4 + (mj_i M (mj_r M l0 7) (l5 : Int32).toNatClampNeg)) (l5 + 1) M h)
set_option maxHeartbeats 4000000 in
set_option maxRecDepth 100000 in
theorem ct_X11_mayBuy {l : Launch} {base : Nat} {D : va_G} {A : mj_AT} (l0 : Nat) (l1 : Nat) (l2 : Int32) (M : mj_M) (post : Bool → mj_M → Prop) (h : vc_X11_mayBuy l0 l1 l2 M post) : mj_Met l base D A mj_jB yX11_mayBuy cX11_mayBuy 6 (some .boolean) rm_X11_mayBuy 0 0 [vR l0, vR l1, vI l2] M post := by
  refine mj_entry (by decide +kernel) (Nat.le_of_ble_eq_true rfl) (fun g hC hE h1 h2 h3 h4 => ?_)
  show mj_X g 0 [(0, vR l0), (1, vR l1), (2, vI l2)] [] M 0 0
  simp only [vc_X11_mayBuy] at h
  refine mx_iconst (v := 0) hC dX11_mayBuy_0 (by decide) ?_
  refine mx_istore_n (L' := [(3, vI 0), (0, vR l0), (1, vR l1), (2, vI l2)]) hC dX11_mayBuy_1 rfl (by decide) rfl ?_
  refine mx_iconst (v := 0) hC dX11_mayBuy_2 (by decide) ?_
  refine mx_istore (L' := [(4, vI 0), (3, vI 0), (0, vR l0), (1, vR l1), (2, vI l2)]) hC dX11_mayBuy_3 (by decide) rfl ?_
  refine mx_iconst (v := 0) hC dX11_mayBuy_5 (by decide) ?_
  refine mx_istore (L' := [(5, vI 0), (4, vI 0), (3, vI 0), (0, vR l0), (1, vR l1), (2, vI l2)]) hC dX11_mayBuy_6 (by decide) rfl ?_
  refine mx_sub (L' := [(0, vR l0), (1, vR l1), (2, vI l2), (3, vI 0), (4, vI 0), (5, vI 0)]) [3, 4, 5, 2, 1, 0] rfl ?_
  exact show mj_X g 8 [(0, vR l0), (1, vR l1), (2, vI l2), (3, vI 0), (4, vI 0), (5, vI 0)] [] M 0 0 from (xb_X11_mayBuy_8 hC hE 60 l0 l1 l2 0 0 0 M h)
theorem tw897 : (Jvm.Cond.methodLink "LeaseLand" (376 : Nat) ({ cls := "LeaseLand$Land", name := "findWhole", desc := "(I)LLeaseLand$Holding;" } : Jvm.MethodName)) ∈ mj_tbl := mj_w 903 (by decide +kernel) (by decide +kernel)
theorem tw901 : (Jvm.Cond.methodLink "LeaseLand" (379 : Nat) ({ cls := "LeaseLand", name := "isPersons", desc := "(I)Z" } : Jvm.MethodName)) ∈ mj_tbl := mj_w 907 (by decide +kernel) (by decide +kernel)
theorem tw904 : (Jvm.Cond.methodLink "LeaseLand" (382 : Nat) ({ cls := "LeaseLand", name := "countJoined", desc := "(LLeaseLand$Holding;)V" } : Jvm.MethodName)) ∈ mj_tbl := mj_w 910 (by decide +kernel) (by decide +kernel)
theorem tw915 : (Jvm.Cond.methodLink "LeaseLand" (385 : Nat) ({ cls := "LeaseLand", name := "mayBuy", desc := "(LLeaseLand$Holding;I)Z" } : Jvm.MethodName)) ∈ mj_tbl := mj_w 921 (by decide +kernel) (by decide +kernel)
theorem tw907 : (Jvm.Cond.code ({ cls := "LeaseLand", name := "countJoined", desc := "(LLeaseLand$Holding;)V" } : Jvm.MethodName) prog_1_method_48_code (6 : Nat) (Option.none : Option Jvm.ClassFile.FieldType)) ∈ mj_tbl := mj_w 913 (by decide +kernel) (by decide +kernel)
theorem tw906 : (Jvm.Cond.instanceMethod ({ cls := "LeaseLand", name := "countJoined", desc := "(LLeaseLand$Holding;)V" } : Jvm.MethodName)) ∈ mj_tbl := mj_w 912 (by decide +kernel) (by decide +kernel)
theorem ty_X11_countJoined : mj_YV 11 yX11_countJoined cX11_countJoined 6 (none) 1 := ⟨⟨tw907, tw1, by decide +kernel, by decide +kernel, by decide +kernel⟩, tw906, mj_w 4 (by decide +kernel) (by decide +kernel), _, rfl, rfl⟩
theorem tw903 : (Jvm.Cond.code ({ cls := "LeaseLand", name := "isPersons", desc := "(I)Z" } : Jvm.MethodName) prog_1_method_63_code (1 : Nat) (Option.some Jvm.ClassFile.FieldType.boolean)) ∈ mj_tbl := mj_w 909 (by decide +kernel) (by decide +kernel)
theorem tw902 : (Jvm.Cond.static ({ cls := "LeaseLand", name := "isPersons", desc := "(I)Z" } : Jvm.MethodName)) ∈ mj_tbl := mj_w 908 (by decide +kernel) (by decide +kernel)
theorem ty_X11_isPersons : mj_YS yX11_isPersons cX11_isPersons 1 (some .boolean) 1 := ⟨⟨tw903, tw1, by decide +kernel, by decide +kernel, by decide +kernel⟩, tw902⟩
theorem tw918 : (Jvm.Cond.code ({ cls := "LeaseLand", name := "mayBuy", desc := "(LLeaseLand$Holding;I)Z" } : Jvm.MethodName) prog_1_method_49_code (6 : Nat) (Option.some Jvm.ClassFile.FieldType.boolean)) ∈ mj_tbl := mj_w 924 (by decide +kernel) (by decide +kernel)
theorem tw917 : (Jvm.Cond.instanceMethod ({ cls := "LeaseLand", name := "mayBuy", desc := "(LLeaseLand$Holding;I)Z" } : Jvm.MethodName)) ∈ mj_tbl := mj_w 923 (by decide +kernel) (by decide +kernel)
theorem ty_X11_mayBuy : mj_YV 11 yX11_mayBuy cX11_mayBuy 6 (some .boolean) 2 := ⟨⟨tw918, tw1, by decide +kernel, by decide +kernel, by decide +kernel⟩, tw917, mj_w 5 (by decide +kernel) (by decide +kernel), _, rfl, rfl⟩
theorem tw900 : (Jvm.Cond.code ({ cls := "LeaseLand$Land", name := "findWhole", desc := "(I)LLeaseLand$Holding;" } : Jvm.MethodName) prog_6_method_6_code (3 : Nat) (Option.some (Jvm.ClassFile.FieldType.object "LeaseLand$Holding"))) ∈ mj_tbl := mj_w 906 (by decide +kernel) (by decide +kernel)
theorem tw898 : (Jvm.Cond.instanceMethod ({ cls := "LeaseLand$Land", name := "findWhole", desc := "(I)LLeaseLand$Holding;" } : Jvm.MethodName)) ∈ mj_tbl := mj_w 904 (by decide +kernel) (by decide +kernel)
theorem tw899 : (Jvm.Cond.selects "LeaseLand$Land" ({ cls := "LeaseLand$Land", name := "findWhole", desc := "(I)LLeaseLand$Holding;" } : Jvm.MethodName) ({ cls := "LeaseLand$Land", name := "findWhole", desc := "(I)LLeaseLand$Holding;" } : Jvm.MethodName)) ∈ mj_tbl := mj_w 905 (by decide +kernel) (by decide +kernel)
theorem ty_X4_findWhole : mj_YV 4 yX4_findWhole cX4_findWhole 3 (some (.object "LeaseLand$Holding")) 1 := ⟨⟨tw900, tw2, by decide +kernel, by decide +kernel, by decide +kernel⟩, tw898, tw899, _, rfl, rfl⟩
def rm_X11_may : Room := { frames := 11, cells := 0, slots := 0, locals := 322 }
theorem dX11_may_0 : decode cX11_may 0 = .ok (.aload_n 0, 1) := by decide +kernel
theorem dX11_may_1 : decode cX11_may 1 = .ok (.getfield 10, 3) := by decide +kernel
theorem dX11_may_4 : decode cX11_may 4 = .ok (.iload_n 1, 1) := by decide +kernel
theorem dX11_may_5 : decode cX11_may 5 = .ok (.invokevirtual 376, 3) := by decide +kernel
theorem dX11_may_8 : decode cX11_may 8 = .ok (.astore_n 3, 1) := by decide +kernel
theorem dX11_may_9 : decode cX11_may 9 = .ok (.aload_n 3, 1) := by decide +kernel
theorem dX11_may_10 : decode cX11_may 10 = .ok (.ifnonnull 5, 3) := by decide +kernel
theorem dX11_may_13 : decode cX11_may 13 = .ok (.iconst (-1), 1) := by decide +kernel
theorem dX11_may_14 : decode cX11_may 14 = .ok (.ireturn, 1) := by decide +kernel
theorem dX11_may_15 : decode cX11_may 15 = .ok (.iload_n 2, 1) := by decide +kernel
theorem dX11_may_16 : decode cX11_may 16 = .ok (.invokestatic 379, 3) := by decide +kernel
theorem dX11_may_19 : decode cX11_may 19 = .ok (.ifCond .ne 6, 3) := by decide +kernel
theorem dX11_may_22 : decode cX11_may 22 = .ok (.bipush (-2), 2) := by decide +kernel
theorem dX11_may_24 : decode cX11_may 24 = .ok (.ireturn, 1) := by decide +kernel
theorem dX11_may_25 : decode cX11_may 25 = .ok (.aload_n 0, 1) := by decide +kernel
theorem dX11_may_26 : decode cX11_may 26 = .ok (.aload_n 3, 1) := by decide +kernel
theorem dX11_may_27 : decode cX11_may 27 = .ok (.invokevirtual 382, 3) := by decide +kernel
theorem dX11_may_30 : decode cX11_may 30 = .ok (.aload_n 0, 1) := by decide +kernel
theorem dX11_may_31 : decode cX11_may 31 = .ok (.aload_n 3, 1) := by decide +kernel
theorem dX11_may_32 : decode cX11_may 32 = .ok (.iload_n 2, 1) := by decide +kernel
theorem dX11_may_33 : decode cX11_may 33 = .ok (.invokevirtual 385, 3) := by decide +kernel
theorem dX11_may_36 : decode cX11_may 36 = .ok (.ifCond .eq 7, 3) := by decide +kernel
theorem dX11_may_39 : decode cX11_may 39 = .ok (.iconst 1, 1) := by decide +kernel
theorem dX11_may_40 : decode cX11_may 40 = .ok (.goto 4, 3) := by decide +kernel
theorem dX11_may_43 : decode cX11_may 43 = .ok (.iconst 0, 1) := by decide +kernel
theorem dX11_may_44 : decode cX11_may 44 = .ok (.ireturn, 1) := by decide +kernel
def vc_X11_may (l0 : Nat) (l1 : Int32) (l2 : Int32) (M : mj_M) (post : Int32 → mj_M → Prop) : Prop := mj_tag M l0 = 12 ∧ mj_tag M (mj_r M l0 0) = 5 ∧ vc_X4_findWhole (mj_r M l0 0) l1 M (fun r3 M4 => if r3 = 0 then (post ((-1)) M4) else (vc_X11_isPersons l2 M4 (fun r6 M7 => if r6 = true then (mj_tag M7 l0 = 12 ∧ vc_X11_countJoined l0 r3 M7 (fun _ M10 => mj_tag M10 l0 = 12 ∧ vc_X11_mayBuy l0 r3 l2 M10 (fun r12 M13 => if r12 = true then (post 1 M13) else (post 0 M13)))) else (post ((-2)) M7))))
set_option maxHeartbeats 4000000 in
set_option maxRecDepth 100000 in
theorem ct_X11_may {l : Launch} {base : Nat} {D : va_G} {A : mj_AT} (l0 : Nat) (l1 : Int32) (l2 : Int32) (M : mj_M) (post : Int32 → mj_M → Prop) (h : vc_X11_may l0 l1 l2 M post) : mj_Met l base D A mj_jI yX11_may cX11_may 4 (some .int) rm_X11_may 0 0 [vR l0, vI l1, vI l2] M post := by
  refine mj_entry (by decide +kernel) (Nat.le_of_ble_eq_true rfl) (fun g hC hE h1 h2 h3 h4 => ?_)
  show mj_X g 0 [(0, vR l0), (1, vI l1), (2, vI l2)] [] M 0 0
  simp only [vc_X11_may] at h
  refine mx_aload_n (j := 0) hC dX11_may_0 rfl rfl ?_
  obtain ⟨ht1, h⟩ := h
  refine mx_get (v := vR (mj_r M l0 0)) hC tf_X11_10 ht1 rfl dX11_may_1 ?_
  refine mx_iload_n (j := 1) hC dX11_may_4 rfl rfl ?_
  obtain ⟨ht2, h⟩ := h
  refine mx_callV (inj := mj_jR) (As := [vI l1]) (st := []) hC (ct_X4_findWhole (mj_r M l0 0) l1 M _ h) ty_X4_findWhole tw897 ht2 rfl (Nat.le_of_ble_eq_true rfl) ⟨rfl, rfl, ⟨by decide, by decide⟩, by decide, by decide⟩ dX11_may_5 (fun r3 M4 h => ?_)
  show mj_X g 8 [(0, vR l0), (1, vI l1), (2, vI l2)] [vR r3] M4 0 0
  refine mx_astore_n (L' := [(3, vR r3), (0, vR l0), (1, vI l1), (2, vI l2)]) hC dX11_may_8 rfl (by decide) rfl ?_
  refine mx_aload_n (j := 0) hC dX11_may_9 rfl rfl ?_
  refine mx_ifnonnull (tgt := 15) hC dX11_may_10 (by decide) (fun hc5 => ?_) (fun hc5 => ?_)
  · replace h := mj_nn hc5 h
    refine mx_iload_n (j := 3) hC dX11_may_15 rfl rfl ?_
    refine mx_callS (inj := mj_jB) (As := [vI l2]) (st := []) hC (ct_X11_isPersons l2 M4 _ h) ty_X11_isPersons tw901 rfl (Nat.le_of_ble_eq_true rfl) ⟨rfl, rfl, ⟨by decide, by decide⟩, by decide, by decide⟩ dX11_may_16 (fun r6 M7 h => ?_)
    show mj_X g 19 [(3, vR r3), (0, vR l0), (1, vI l1), (2, vI l2)] [vI (mj_b r6)] M7 0 0
    refine mx_ifneB (tgt := 25) hC dX11_may_19 (by decide) (fun hc8 => ?_) (fun hc8 => ?_)
    · replace h := mj_yy hc8 h
      refine mx_aload_n (j := 1) hC dX11_may_25 rfl rfl ?_
      refine mx_aload_n (j := 0) hC dX11_may_26 rfl rfl ?_
      obtain ⟨ht9, h⟩ := h
      refine mx_callV (inj := mj_jV) (As := [vR r3]) (st := []) hC (ct_X11_countJoined l0 r3 M7 _ h) ty_X11_countJoined tw904 ht9 rfl (Nat.le_of_ble_eq_true rfl) ⟨rfl, rfl, ⟨by decide, by decide⟩, by decide, by decide⟩ dX11_may_27 (fun _ M10 h => ?_)
      show mj_X g 30 [(3, vR r3), (0, vR l0), (1, vI l1), (2, vI l2)] [] M10 0 0
      refine mx_aload_n (j := 1) hC dX11_may_30 rfl rfl ?_
      refine mx_aload_n (j := 0) hC dX11_may_31 rfl rfl ?_
      refine mx_iload_n (j := 3) hC dX11_may_32 rfl rfl ?_
      obtain ⟨ht11, h⟩ := h
      refine mx_callV (inj := mj_jB) (As := [vR r3, vI l2]) (st := []) hC (ct_X11_mayBuy l0 r3 l2 M10 _ h) ty_X11_mayBuy tw915 ht11 rfl (Nat.le_of_ble_eq_true rfl) ⟨rfl, rfl, ⟨by decide, by decide⟩, by decide, by decide⟩ dX11_may_33 (fun r12 M13 h => ?_)
      show mj_X g 36 [(3, vR r3), (0, vR l0), (1, vI l1), (2, vI l2)] [vI (mj_b r12)] M13 0 0
      refine mx_ifeqB (tgt := 43) hC dX11_may_36 (by decide) (fun hc14 => ?_) (fun hc14 => ?_)
      · replace h := mj_nn hc14 h
        refine mx_iconst (v := 0) hC dX11_may_43 (by decide) ?_
        exact mx_iret hC hE rfl dX11_may_44 h
      · replace h := mj_yy hc14 h
        refine mx_iconst (v := 1) hC dX11_may_39 (by decide) ?_
        refine mx_goto (tgt := 44) hC dX11_may_40 (by decide) ?_
        exact mx_iret hC hE rfl dX11_may_44 h
    · replace h := mj_nn hc8 h
      refine mx_bipush (v := (-2)) hC dX11_may_22 (by decide) ?_
      exact mx_iret hC hE rfl dX11_may_24 h
  · replace h := mj_yy hc5 h
    refine mx_iconst (v := (-1)) hC dX11_may_13 (by decide) ?_
    exact mx_iret hC hE rfl dX11_may_14 h
def rm_X11_more : Room := { frames := 11, cells := 0, slots := 0, locals := 322 }
theorem dX11_more_0 : decode cX11_more 0 = .ok (.aload_n 0, 1) := by decide +kernel
theorem dX11_more_1 : decode cX11_more 1 = .ok (.getfield 10, 3) := by decide +kernel
theorem dX11_more_4 : decode cX11_more 4 = .ok (.iload_n 1, 1) := by decide +kernel
theorem dX11_more_5 : decode cX11_more 5 = .ok (.invokevirtual 376, 3) := by decide +kernel
theorem dX11_more_8 : decode cX11_more 8 = .ok (.astore_n 3, 1) := by decide +kernel
theorem dX11_more_9 : decode cX11_more 9 = .ok (.aload_n 3, 1) := by decide +kernel
theorem dX11_more_10 : decode cX11_more 10 = .ok (.ifnonnull 5, 3) := by decide +kernel
theorem dX11_more_13 : decode cX11_more 13 = .ok (.iconst (-1), 1) := by decide +kernel
theorem dX11_more_14 : decode cX11_more 14 = .ok (.ireturn, 1) := by decide +kernel
theorem dX11_more_15 : decode cX11_more 15 = .ok (.iload_n 2, 1) := by decide +kernel
theorem dX11_more_16 : decode cX11_more 16 = .ok (.invokestatic 379, 3) := by decide +kernel
theorem dX11_more_19 : decode cX11_more 19 = .ok (.ifCond .ne 6, 3) := by decide +kernel
theorem dX11_more_22 : decode cX11_more 22 = .ok (.bipush (-2), 2) := by decide +kernel
theorem dX11_more_24 : decode cX11_more 24 = .ok (.ireturn, 1) := by decide +kernel
theorem dX11_more_25 : decode cX11_more 25 = .ok (.aload_n 0, 1) := by decide +kernel
theorem dX11_more_26 : decode cX11_more 26 = .ok (.aload_n 3, 1) := by decide +kernel
theorem dX11_more_27 : decode cX11_more 27 = .ok (.invokevirtual 382, 3) := by decide +kernel
theorem dX11_more_30 : decode cX11_more 30 = .ok (.bipush (-6), 2) := by decide +kernel
theorem dX11_more_32 : decode cX11_more 32 = .ok (.istore 4, 2) := by decide +kernel
theorem dX11_more_34 : decode cX11_more 34 = .ok (.bipush 11, 2) := by decide +kernel
theorem dX11_more_36 : decode cX11_more 36 = .ok (.istore 5, 2) := by decide +kernel
theorem dX11_more_38 : decode cX11_more 38 = .ok (.iconst 0, 1) := by decide +kernel
theorem dX11_more_39 : decode cX11_more 39 = .ok (.istore 6, 2) := by decide +kernel
theorem dX11_more_41 : decode cX11_more 41 = .ok (.iload 6, 2) := by decide +kernel
theorem dX11_more_43 : decode cX11_more 43 = .ok (.sipush 1024, 3) := by decide +kernel
theorem dX11_more_46 : decode cX11_more 46 = .ok (.if_icmp .ge 50, 3) := by decide +kernel
theorem dX11_more_49 : decode cX11_more 49 = .ok (.iload 6, 2) := by decide +kernel
theorem dX11_more_51 : decode cX11_more 51 = .ok (.invokestatic 388, 3) := by decide +kernel
theorem dX11_more_54 : decode cX11_more 54 = .ok (.istore 7, 2) := by decide +kernel
theorem dX11_more_56 : decode cX11_more 56 = .ok (.iload 7, 2) := by decide +kernel
theorem dX11_more_58 : decode cX11_more 58 = .ok (.iload 5, 2) := by decide +kernel
theorem dX11_more_60 : decode cX11_more 60 = .ok (.if_icmp .ge 30, 3) := by decide +kernel
theorem dX11_more_63 : decode cX11_more 63 = .ok (.iload 6, 2) := by decide +kernel
theorem dX11_more_65 : decode cX11_more 65 = .ok (.iload_n 2, 1) := by decide +kernel
theorem dX11_more_66 : decode cX11_more 66 = .ok (.iand, 1) := by decide +kernel
theorem dX11_more_67 : decode cX11_more 67 = .ok (.ifCond .ne 23, 3) := by decide +kernel
theorem dX11_more_70 : decode cX11_more 70 = .ok (.aload_n 0, 1) := by decide +kernel
theorem dX11_more_71 : decode cX11_more 71 = .ok (.aload_n 3, 1) := by decide +kernel
theorem dX11_more_72 : decode cX11_more 72 = .ok (.iload_n 2, 1) := by decide +kernel
theorem dX11_more_73 : decode cX11_more 73 = .ok (.iload 6, 2) := by decide +kernel
theorem dX11_more_75 : decode cX11_more 75 = .ok (.ior, 1) := by decide +kernel
theorem dX11_more_76 : decode cX11_more 76 = .ok (.invokevirtual 385, 3) := by decide +kernel
theorem dX11_more_79 : decode cX11_more 79 = .ok (.ifCond .eq 11, 3) := by decide +kernel
theorem dX11_more_82 : decode cX11_more 82 = .ok (.iload 6, 2) := by decide +kernel
theorem dX11_more_84 : decode cX11_more 84 = .ok (.istore 4, 2) := by decide +kernel
theorem dX11_more_86 : decode cX11_more 86 = .ok (.iload 7, 2) := by decide +kernel
theorem dX11_more_88 : decode cX11_more 88 = .ok (.istore 5, 2) := by decide +kernel
theorem dX11_more_90 : decode cX11_more 90 = .ok (.iinc 6 1, 3) := by decide +kernel
theorem dX11_more_93 : decode cX11_more 93 = .ok (.goto (-52), 3) := by decide +kernel
theorem dX11_more_96 : decode cX11_more 96 = .ok (.iload 4, 2) := by decide +kernel
theorem dX11_more_98 : decode cX11_more 98 = .ok (.ireturn, 1) := by decide +kernel
def vb_X11_more_41 (post : Int32 → mj_M → Prop) : Nat → Nat → Int32 → Nat → Int32 → Int32 → Int32 → mj_M → Prop
  | 0 => fun _ _ _ _ _ _ _ => False
  | f + 1 => fun l0 l2 l3 l4 l5 l6 M => if 1024 ≤ l6 then (post l4 M) else (vc_J6_bitCount_0f7a4 l6 M (fun r2 M3 => if l5 ≤ r2 then (vb_X11_more_41 post f l0 l2 l3 l4 l5 (l6 + 1) M3) else (if (l6 &&& l2) = 0 then (mj_tag M3 l0 = 12 ∧ vc_X11_mayBuy l0 l3 (l2 ||| l6) M3 (fun r7 M8 => if r7 = true then (vb_X11_more_41 post f l0 l2 l3 l6 r2 (l6 + 1) M8) else (vb_X11_more_41 post f l0 l2 l3 l4 l5 (l6 + 1) M8))) else (vb_X11_more_41 post f l0 l2 l3 l4 l5 (l6 + 1) M3))))
def vc_X11_more (l0 : Nat) (l1 : Int32) (l2 : Int32) (M : mj_M) (post : Int32 → mj_M → Prop) : Prop := mj_tag M l0 = 12 ∧ mj_tag M (mj_r M l0 0) = 5 ∧ vc_X4_findWhole (mj_r M l0 0) l1 M (fun r12 M13 => if r12 = 0 then (post ((-1)) M13) else (vc_X11_isPersons l2 M13 (fun r15 M16 => if r15 = true then (mj_tag M16 l0 = 12 ∧ vc_X11_countJoined l0 r12 M16 (fun _ M19 => vb_X11_more_41 post 1100 l0 l2 r12 ((-6)) 11 0 M19)) else (post ((-2)) M16))))
set_option maxHeartbeats 4000000 in
set_option maxRecDepth 100000 in
theorem xb_X11_more_41 {g : mj_G} {post : Int32 → mj_M → Prop} (hC : mj_C g yX11_more cX11_more 8 (some .int) rm_X11_more) (hE : mj_E g mj_jI post 0 0) : ∀ (f : Nat) (l0 : Nat) (l2 : Int32) (l3 : Nat) (l4 : Int32) (l5 : Int32) (l6 : Int32) (M : mj_M), vb_X11_more_41 post f l0 l2 l3 l4 l5 l6 M → mj_X g 41 [(0, vR l0), (2, vI l2), (3, vR l3), (4, vI l4), (5, vI l5), (6, vI l6)] [] M 0 0 := by
  intro f
  induction f with
  | zero => exact fun _ _ _ _ _ _ _ h => absurd h (fun z => z)
  | succ f ih =>
    intro l0 l2 l3 l4 l5 l6 M h
    simp only [vb_X11_more_41] at h
    refine mx_iload (j := 5) hC dX11_more_41 rfl ?_
    refine mx_sipush (v := 1024) hC dX11_more_43 (by decide) ?_
    refine mx_icmpge (tgt := 96) hC dX11_more_46 (by decide) (fun hc1 => ?_) (fun hc1 => ?_)
    · replace h := mj_yy hc1 h
      refine mx_iload (j := 3) hC dX11_more_96 rfl ?_
      exact mx_iret hC hE rfl dX11_more_98 h
    · replace h := mj_nn hc1 h
      refine mx_iload (j := 5) hC dX11_more_49 rfl ?_
      refine mx_callS (inj := mj_jI) (As := [vI l6]) (st := []) hC (ct_J6_bitCount_0f7a4 l6 M _ h) ty_J6_bitCount_0f7a4 tw919 rfl (Nat.le_of_ble_eq_true rfl) ⟨rfl, rfl, ⟨by decide, by decide⟩, by decide, by decide⟩ dX11_more_51 (fun r2 M3 h => ?_)
      show mj_X g 54 [(0, vR l0), (2, vI l2), (3, vR l3), (4, vI l4), (5, vI l5), (6, vI l6)] [vI r2] M3 0 0
      refine mx_istore (L' := [(7, vI r2), (0, vR l0), (2, vI l2), (3, vR l3), (4, vI l4), (5, vI l5), (6, vI l6)]) hC dX11_more_54 (by decide) rfl ?_
      refine mx_iload (j := 0) hC dX11_more_56 rfl ?_
      refine mx_iload (j := 5) hC dX11_more_58 rfl ?_
      refine mx_icmpge (tgt := 90) hC dX11_more_60 (by decide) (fun hc4 => ?_) (fun hc4 => ?_)
      · replace h := mj_yy hc4 h
        refine mx_iinc (j := 6) (v := l6 + 1) (L' := [(6, vI (l6 + 1)), (7, vI r2), (0, vR l0), (2, vI l2), (3, vR l3), (4, vI l4), (5, vI l5)]) hC dX11_more_90 rfl rfl (by decide) rfl ?_
        refine mx_goto (tgt := 41) hC dX11_more_93 (by decide) ?_
        refine mx_sub (L' := [(0, vR l0), (2, vI l2), (3, vR l3), (4, vI l4), (5, vI l5), (6, vI (l6 + 1))]) [2, 3, 4, 5, 6, 0] rfl ?_
        exact show mj_X g 41 [(0, vR l0), (2, vI l2), (3, vR l3), (4, vI l4), (5, vI l5), (6, vI (l6 + 1))] [] M3 0 0 from (ih l0 l2 l3 l4 l5 (l6 + 1) M3 h)
      · replace h := mj_nn hc4 h
        refine mx_iload (j := 6) hC dX11_more_63 rfl ?_
        refine mx_iload_n (j := 2) hC dX11_more_65 rfl rfl ?_
        refine mx_iand hC dX11_more_66 ?_
        refine mx_ifne (tgt := 90) hC dX11_more_67 (by decide) (fun hc5 => ?_) (fun hc5 => ?_)
        · replace h := mj_nn hc5 h
          refine mx_iinc (j := 6) (v := l6 + 1) (L' := [(6, vI (l6 + 1)), (7, vI r2), (0, vR l0), (2, vI l2), (3, vR l3), (4, vI l4), (5, vI l5)]) hC dX11_more_90 rfl rfl (by decide) rfl ?_
          refine mx_goto (tgt := 41) hC dX11_more_93 (by decide) ?_
          refine mx_sub (L' := [(0, vR l0), (2, vI l2), (3, vR l3), (4, vI l4), (5, vI l5), (6, vI (l6 + 1))]) [2, 3, 4, 5, 6, 0] rfl ?_
          exact show mj_X g 41 [(0, vR l0), (2, vI l2), (3, vR l3), (4, vI l4), (5, vI l5), (6, vI (l6 + 1))] [] M3 0 0 from (ih l0 l2 l3 l4 l5 (l6 + 1) M3 h)
        · replace h := mj_yy hc5 h
          refine mx_aload_n (j := 1) hC dX11_more_70 rfl rfl ?_
          refine mx_aload_n (j := 3) hC dX11_more_71 rfl rfl ?_
          refine mx_iload_n (j := 2) hC dX11_more_72 rfl rfl ?_
          refine mx_iload (j := 6) hC dX11_more_73 rfl ?_
          refine mx_ior hC dX11_more_75 ?_
          obtain ⟨ht6, h⟩ := h
          refine mx_callV (inj := mj_jB) (As := [vR l3, vI (l2 ||| l6)]) (st := []) hC (ct_X11_mayBuy l0 l3 (l2 ||| l6) M3 _ h) ty_X11_mayBuy tw915 ht6 rfl (Nat.le_of_ble_eq_true rfl) ⟨rfl, rfl, ⟨by decide, by decide⟩, by decide, by decide⟩ dX11_more_76 (fun r7 M8 h => ?_)
          show mj_X g 79 [(7, vI r2), (0, vR l0), (2, vI l2), (3, vR l3), (4, vI l4), (5, vI l5), (6, vI l6)] [vI (mj_b r7)] M8 0 0
          refine mx_ifeqB (tgt := 90) hC dX11_more_79 (by decide) (fun hc9 => ?_) (fun hc9 => ?_)
          · replace h := mj_nn hc9 h
            refine mx_iinc (j := 6) (v := l6 + 1) (L' := [(6, vI (l6 + 1)), (7, vI r2), (0, vR l0), (2, vI l2), (3, vR l3), (4, vI l4), (5, vI l5)]) hC dX11_more_90 rfl rfl (by decide) rfl ?_
            refine mx_goto (tgt := 41) hC dX11_more_93 (by decide) ?_
            refine mx_sub (L' := [(0, vR l0), (2, vI l2), (3, vR l3), (4, vI l4), (5, vI l5), (6, vI (l6 + 1))]) [2, 3, 4, 5, 6, 0] rfl ?_
            exact show mj_X g 41 [(0, vR l0), (2, vI l2), (3, vR l3), (4, vI l4), (5, vI l5), (6, vI (l6 + 1))] [] M8 0 0 from (ih l0 l2 l3 l4 l5 (l6 + 1) M8 h)
          · replace h := mj_yy hc9 h
            refine mx_iload (j := 6) hC dX11_more_82 rfl ?_
            refine mx_istore (L' := [(4, vI l6), (7, vI r2), (0, vR l0), (2, vI l2), (3, vR l3), (5, vI l5), (6, vI l6)]) hC dX11_more_84 (by decide) rfl ?_
            refine mx_iload (j := 1) hC dX11_more_86 rfl ?_
            refine mx_istore (L' := [(5, vI r2), (4, vI l6), (7, vI r2), (0, vR l0), (2, vI l2), (3, vR l3), (6, vI l6)]) hC dX11_more_88 (by decide) rfl ?_
            refine mx_iinc (j := 6) (v := l6 + 1) (L' := [(6, vI (l6 + 1)), (5, vI r2), (4, vI l6), (7, vI r2), (0, vR l0), (2, vI l2), (3, vR l3)]) hC dX11_more_90 rfl rfl (by decide) rfl ?_
            refine mx_goto (tgt := 41) hC dX11_more_93 (by decide) ?_
            refine mx_sub (L' := [(0, vR l0), (2, vI l2), (3, vR l3), (4, vI l6), (5, vI r2), (6, vI (l6 + 1))]) [4, 5, 6, 2, 1, 0] rfl ?_
            exact show mj_X g 41 [(0, vR l0), (2, vI l2), (3, vR l3), (4, vI l6), (5, vI r2), (6, vI (l6 + 1))] [] M8 0 0 from (ih l0 l2 l3 l6 r2 (l6 + 1) M8 h)
set_option maxHeartbeats 4000000 in
set_option maxRecDepth 100000 in
theorem ct_X11_more {l : Launch} {base : Nat} {D : va_G} {A : mj_AT} (l0 : Nat) (l1 : Int32) (l2 : Int32) (M : mj_M) (post : Int32 → mj_M → Prop) (h : vc_X11_more l0 l1 l2 M post) : mj_Met l base D A mj_jI yX11_more cX11_more 8 (some .int) rm_X11_more 0 0 [vR l0, vI l1, vI l2] M post := by
  refine mj_entry (by decide +kernel) (Nat.le_of_ble_eq_true rfl) (fun g hC hE h1 h2 h3 h4 => ?_)
  show mj_X g 0 [(0, vR l0), (1, vI l1), (2, vI l2)] [] M 0 0
  simp only [vc_X11_more] at h
  refine mx_aload_n (j := 0) hC dX11_more_0 rfl rfl ?_
  obtain ⟨ht10, h⟩ := h
  refine mx_get (v := vR (mj_r M l0 0)) hC tf_X11_10 ht10 rfl dX11_more_1 ?_
  refine mx_iload_n (j := 1) hC dX11_more_4 rfl rfl ?_
  obtain ⟨ht11, h⟩ := h
  refine mx_callV (inj := mj_jR) (As := [vI l1]) (st := []) hC (ct_X4_findWhole (mj_r M l0 0) l1 M _ h) ty_X4_findWhole tw897 ht11 rfl (Nat.le_of_ble_eq_true rfl) ⟨rfl, rfl, ⟨by decide, by decide⟩, by decide, by decide⟩ dX11_more_5 (fun r12 M13 h => ?_)
  show mj_X g 8 [(0, vR l0), (1, vI l1), (2, vI l2)] [vR r12] M13 0 0
  refine mx_astore_n (L' := [(3, vR r12), (0, vR l0), (1, vI l1), (2, vI l2)]) hC dX11_more_8 rfl (by decide) rfl ?_
  refine mx_aload_n (j := 0) hC dX11_more_9 rfl rfl ?_
  refine mx_ifnonnull (tgt := 15) hC dX11_more_10 (by decide) (fun hc14 => ?_) (fun hc14 => ?_)
  · replace h := mj_nn hc14 h
    refine mx_iload_n (j := 3) hC dX11_more_15 rfl rfl ?_
    refine mx_callS (inj := mj_jB) (As := [vI l2]) (st := []) hC (ct_X11_isPersons l2 M13 _ h) ty_X11_isPersons tw901 rfl (Nat.le_of_ble_eq_true rfl) ⟨rfl, rfl, ⟨by decide, by decide⟩, by decide, by decide⟩ dX11_more_16 (fun r15 M16 h => ?_)
    show mj_X g 19 [(3, vR r12), (0, vR l0), (1, vI l1), (2, vI l2)] [vI (mj_b r15)] M16 0 0
    refine mx_ifneB (tgt := 25) hC dX11_more_19 (by decide) (fun hc17 => ?_) (fun hc17 => ?_)
    · replace h := mj_yy hc17 h
      refine mx_aload_n (j := 1) hC dX11_more_25 rfl rfl ?_
      refine mx_aload_n (j := 0) hC dX11_more_26 rfl rfl ?_
      obtain ⟨ht18, h⟩ := h
      refine mx_callV (inj := mj_jV) (As := [vR r12]) (st := []) hC (ct_X11_countJoined l0 r12 M16 _ h) ty_X11_countJoined tw904 ht18 rfl (Nat.le_of_ble_eq_true rfl) ⟨rfl, rfl, ⟨by decide, by decide⟩, by decide, by decide⟩ dX11_more_27 (fun _ M19 h => ?_)
      show mj_X g 30 [(3, vR r12), (0, vR l0), (1, vI l1), (2, vI l2)] [] M19 0 0
      refine mx_bipush (v := (-6)) hC dX11_more_30 (by decide) ?_
      refine mx_istore (L' := [(4, vI ((-6))), (3, vR r12), (0, vR l0), (1, vI l1), (2, vI l2)]) hC dX11_more_32 (by decide) rfl ?_
      refine mx_bipush (v := 11) hC dX11_more_34 (by decide) ?_
      refine mx_istore (L' := [(5, vI 11), (4, vI ((-6))), (3, vR r12), (0, vR l0), (1, vI l1), (2, vI l2)]) hC dX11_more_36 (by decide) rfl ?_
      refine mx_iconst (v := 0) hC dX11_more_38 (by decide) ?_
      refine mx_istore (L' := [(6, vI 0), (5, vI 11), (4, vI ((-6))), (3, vR r12), (0, vR l0), (1, vI l1), (2, vI l2)]) hC dX11_more_39 (by decide) rfl ?_
      refine mx_sub (L' := [(0, vR l0), (2, vI l2), (3, vR r12), (4, vI ((-6))), (5, vI 11), (6, vI 0)]) [4, 6, 3, 2, 1, 0] rfl ?_
      exact show mj_X g 41 [(0, vR l0), (2, vI l2), (3, vR r12), (4, vI ((-6))), (5, vI 11), (6, vI 0)] [] M19 0 0 from (xb_X11_more_41 hC hE 1100 l0 l2 r12 ((-6)) 11 0 M19 h)
    · replace h := mj_nn hc17 h
      refine mx_bipush (v := (-2)) hC dX11_more_22 (by decide) ?_
      exact mx_iret hC hE rfl dX11_more_24 h
  · replace h := mj_yy hc14 h
    refine mx_iconst (v := (-1)) hC dX11_more_13 (by decide) ?_
    exact mx_iret hC hE rfl dX11_more_14 h
def rm_X11_breach : Room := { frames := 3, cells := 0, slots := 0, locals := 62 }
theorem dX11_breach_0 : decode cX11_breach 0 = .ok (.aload_n 0, 1) := by decide +kernel
theorem dX11_breach_1 : decode cX11_breach 1 = .ok (.getfield 10, 3) := by decide +kernel
theorem dX11_breach_4 : decode cX11_breach 4 = .ok (.iload_n 1, 1) := by decide +kernel
theorem dX11_breach_5 : decode cX11_breach 5 = .ok (.invokevirtual 121, 3) := by decide +kernel
theorem dX11_breach_8 : decode cX11_breach 8 = .ok (.astore_n 3, 1) := by decide +kernel
theorem dX11_breach_9 : decode cX11_breach 9 = .ok (.aload_n 3, 1) := by decide +kernel
theorem dX11_breach_10 : decode cX11_breach 10 = .ok (.ifnonnull 5, 3) := by decide +kernel
theorem dX11_breach_13 : decode cX11_breach 13 = .ok (.iconst (-1), 1) := by decide +kernel
theorem dX11_breach_14 : decode cX11_breach 14 = .ok (.ireturn, 1) := by decide +kernel
theorem dX11_breach_15 : decode cX11_breach 15 = .ok (.aload_n 0, 1) := by decide +kernel
theorem dX11_breach_16 : decode cX11_breach 16 = .ok (.getfield 10, 3) := by decide +kernel
theorem dX11_breach_19 : decode cX11_breach 19 = .ok (.aload_n 3, 1) := by decide +kernel
theorem dX11_breach_20 : decode cX11_breach 20 = .ok (.invokevirtual 111, 3) := by decide +kernel
theorem dX11_breach_23 : decode cX11_breach 23 = .ok (.ifCond .ne 6, 3) := by decide +kernel
theorem dX11_breach_26 : decode cX11_breach 26 = .ok (.bipush (-3), 2) := by decide +kernel
theorem dX11_breach_28 : decode cX11_breach 28 = .ok (.ireturn, 1) := by decide +kernel
theorem dX11_breach_29 : decode cX11_breach 29 = .ok (.iload_n 2, 1) := by decide +kernel
theorem dX11_breach_30 : decode cX11_breach 30 = .ok (.aload_n 3, 1) := by decide +kernel
theorem dX11_breach_31 : decode cX11_breach 31 = .ok (.getfield 169, 3) := by decide +kernel
theorem dX11_breach_34 : decode cX11_breach 34 = .ok (.bipush (-6), 2) := by decide +kernel
theorem dX11_breach_36 : decode cX11_breach 36 = .ok (.if_icmp .eq 7, 3) := by decide +kernel
theorem dX11_breach_39 : decode cX11_breach 39 = .ok (.iconst 1, 1) := by decide +kernel
theorem dX11_breach_40 : decode cX11_breach 40 = .ok (.goto 4, 3) := by decide +kernel
theorem dX11_breach_43 : decode cX11_breach 43 = .ok (.iconst 0, 1) := by decide +kernel
theorem dX11_breach_44 : decode cX11_breach 44 = .ok (.if_icmp .ne 5, 3) := by decide +kernel
theorem dX11_breach_47 : decode cX11_breach 47 = .ok (.iconst 0, 1) := by decide +kernel
theorem dX11_breach_48 : decode cX11_breach 48 = .ok (.ireturn, 1) := by decide +kernel
theorem dX11_breach_49 : decode cX11_breach 49 = .ok (.aload_n 3, 1) := by decide +kernel
theorem dX11_breach_50 : decode cX11_breach 50 = .ok (.iload_n 2, 1) := by decide +kernel
theorem dX11_breach_51 : decode cX11_breach 51 = .ok (.ifCond .eq 13, 3) := by decide +kernel
theorem dX11_breach_54 : decode cX11_breach 54 = .ok (.aload_n 0, 1) := by decide +kernel
theorem dX11_breach_55 : decode cX11_breach 55 = .ok (.getfield 10, 3) := by decide +kernel
theorem dX11_breach_58 : decode cX11_breach 58 = .ok (.getfield 66, 3) := by decide +kernel
theorem dX11_breach_61 : decode cX11_breach 61 = .ok (.goto 5, 3) := by decide +kernel
theorem dX11_breach_64 : decode cX11_breach 64 = .ok (.bipush (-6), 2) := by decide +kernel
theorem dX11_breach_66 : decode cX11_breach 66 = .ok (.putfield 169, 3) := by decide +kernel
theorem dX11_breach_69 : decode cX11_breach 69 = .ok (.iconst 1, 1) := by decide +kernel
theorem dX11_breach_70 : decode cX11_breach 70 = .ok (.ireturn, 1) := by decide +kernel
def vb_X11_breach_44 (post : Int32 → mj_M → Prop) (l0 : Nat) (l2 : Bool) (l3 : Nat) (s0 : Bool) (s1 : Bool) (M : mj_M) : Prop := if (mj_b s0) = (mj_b s1) then (post 0 M) else (if l2 = true then (mj_tag M l0 = 12 ∧ mj_tag M (mj_r M l0 0) = 5 ∧ mj_tag M l3 = 4 ∧ post 1 (mj_wi M l3 12 (mj_i M (mj_r M l0 0) 0))) else (mj_tag M l3 = 4 ∧ post 1 (mj_wi M l3 12 ((-6)))))
def vc_X11_breach (l0 : Nat) (l1 : Int32) (l2 : Bool) (M : mj_M) (post : Int32 → mj_M → Prop) : Prop := mj_tag M l0 = 12 ∧ mj_tag M (mj_r M l0 0) = 5 ∧ vc_X4_findLease (mj_r M l0 0) l1 M (fun r9 M10 => if r9 = 0 then (post ((-1)) M10) else (mj_tag M10 l0 = 12 ∧ mj_tag M10 (mj_r M10 l0 0) = 5 ∧ vc_X4_isInForce (mj_r M10 l0 0) r9 M10 (fun r14 M15 => if r14 = true then (mj_tag M15 r9 = 4 ∧ if (mj_i M15 r9 12) = ((-6)) then (vb_X11_breach_44 post l0 l2 r9 l2 false M15) else (vb_X11_breach_44 post l0 l2 r9 l2 true M15)) else (post ((-3)) M15))))
set_option maxHeartbeats 4000000 in
set_option maxRecDepth 100000 in
theorem xb_X11_breach_44 {g : mj_G} {post : Int32 → mj_M → Prop} (hC : mj_C g yX11_breach cX11_breach 4 (some .int) rm_X11_breach) (hE : mj_E g mj_jI post 0 0) (l0 : Nat) (l2 : Bool) (l3 : Nat) (s0 : Bool) (s1 : Bool) (M : mj_M) (h : vb_X11_breach_44 post l0 l2 l3 s0 s1 M) : mj_X g 44 [(0, vR l0), (2, vI (mj_b l2)), (3, vR l3)] [vI (mj_b s1), vI (mj_b s0)] M 0 0 := by
  simp only [vb_X11_breach_44] at h
  refine mx_icmpne (tgt := 49) hC dX11_breach_44 (by decide) (fun hc1 => ?_) (fun hc1 => ?_)
  · replace h := mj_nn hc1 h
    refine mx_aload_n (j := 2) hC dX11_breach_49 rfl rfl ?_
    refine mx_iload_n (j := 1) hC dX11_breach_50 rfl rfl ?_
    refine mx_ifeqB (tgt := 64) hC dX11_breach_51 (by decide) (fun hc2 => ?_) (fun hc2 => ?_)
    · replace h := mj_nn hc2 h
      refine mx_bipush (v := (-6)) hC dX11_breach_64 (by decide) ?_
      obtain ⟨ht3, h⟩ := h
      refine mx_put (v := vI ((-6))) (M1 := mj_wi M l3 12 ((-6))) hC tf_X11_169 ht3 (Or.inl rfl) ⟨rfl, rfl⟩ (mj_off_wi _ _ _ _) mj_put_wi dX11_breach_66 ?_
      refine mx_iconst (v := 1) hC dX11_breach_69 (by decide) ?_
      exact mx_iret hC hE rfl dX11_breach_70 h
    · replace h := mj_yy hc2 h
      refine mx_aload_n (j := 0) hC dX11_breach_54 rfl rfl ?_
      obtain ⟨ht4, h⟩ := h
      refine mx_get (v := vR (mj_r M l0 0)) hC tf_X11_10 ht4 rfl dX11_breach_55 ?_
      obtain ⟨ht5, h⟩ := h
      refine mx_get (v := vI (mj_i M (mj_r M l0 0) 0)) hC tf_X11_66 ht5 rfl dX11_breach_58 ?_
      refine mx_goto (tgt := 66) hC dX11_breach_61 (by decide) ?_
      obtain ⟨ht6, h⟩ := h
      refine mx_put (v := vI (mj_i M (mj_r M l0 0) 0)) (M1 := mj_wi M l3 12 (mj_i M (mj_r M l0 0) 0)) hC tf_X11_169 ht6 (Or.inl rfl) ⟨rfl, rfl⟩ (mj_off_wi _ _ _ _) mj_put_wi dX11_breach_66 ?_
      refine mx_iconst (v := 1) hC dX11_breach_69 (by decide) ?_
      exact mx_iret hC hE rfl dX11_breach_70 h
  · replace h := mj_yy hc1 h
    refine mx_iconst (v := 0) hC dX11_breach_47 (by decide) ?_
    exact mx_iret hC hE rfl dX11_breach_48 h
set_option maxHeartbeats 4000000 in
set_option maxRecDepth 100000 in
theorem ct_X11_breach {l : Launch} {base : Nat} {D : va_G} {A : mj_AT} (l0 : Nat) (l1 : Int32) (l2 : Bool) (M : mj_M) (post : Int32 → mj_M → Prop) (h : vc_X11_breach l0 l1 l2 M post) : mj_Met l base D A mj_jI yX11_breach cX11_breach 4 (some .int) rm_X11_breach 0 0 [vR l0, vI l1, vI (mj_b l2)] M post := by
  refine mj_entry (by decide +kernel) (Nat.le_of_ble_eq_true rfl) (fun g hC hE h1 h2 h3 h4 => ?_)
  show mj_X g 0 [(0, vR l0), (1, vI l1), (2, vI (mj_b l2))] [] M 0 0
  simp only [vc_X11_breach] at h
  refine mx_aload_n (j := 0) hC dX11_breach_0 rfl rfl ?_
  obtain ⟨ht7, h⟩ := h
  refine mx_get (v := vR (mj_r M l0 0)) hC tf_X11_10 ht7 rfl dX11_breach_1 ?_
  refine mx_iload_n (j := 1) hC dX11_breach_4 rfl rfl ?_
  obtain ⟨ht8, h⟩ := h
  refine mx_callV (inj := mj_jR) (As := [vI l1]) (st := []) hC (ct_X4_findLease (mj_r M l0 0) l1 M _ h) ty_X4_findLease tw447 ht8 rfl (Nat.le_of_ble_eq_true rfl) ⟨rfl, rfl, ⟨by decide, by decide⟩, by decide, by decide⟩ dX11_breach_5 (fun r9 M10 h => ?_)
  show mj_X g 8 [(0, vR l0), (1, vI l1), (2, vI (mj_b l2))] [vR r9] M10 0 0
  refine mx_astore_n (L' := [(3, vR r9), (0, vR l0), (1, vI l1), (2, vI (mj_b l2))]) hC dX11_breach_8 rfl (by decide) rfl ?_
  refine mx_aload_n (j := 0) hC dX11_breach_9 rfl rfl ?_
  refine mx_ifnonnull (tgt := 15) hC dX11_breach_10 (by decide) (fun hc11 => ?_) (fun hc11 => ?_)
  · replace h := mj_nn hc11 h
    refine mx_aload_n (j := 1) hC dX11_breach_15 rfl rfl ?_
    obtain ⟨ht12, h⟩ := h
    refine mx_get (v := vR (mj_r M10 l0 0)) hC tf_X11_10 ht12 rfl dX11_breach_16 ?_
    refine mx_aload_n (j := 0) hC dX11_breach_19 rfl rfl ?_
    obtain ⟨ht13, h⟩ := h
    refine mx_callV (inj := mj_jB) (As := [vR r9]) (st := []) hC (ct_X4_isInForce (mj_r M10 l0 0) r9 M10 _ h) ty_X4_isInForce tw649 ht13 rfl (Nat.le_of_ble_eq_true rfl) ⟨rfl, rfl, ⟨by decide, by decide⟩, by decide, by decide⟩ dX11_breach_20 (fun r14 M15 h => ?_)
    show mj_X g 23 [(3, vR r9), (0, vR l0), (1, vI l1), (2, vI (mj_b l2))] [vI (mj_b r14)] M15 0 0
    refine mx_ifneB (tgt := 29) hC dX11_breach_23 (by decide) (fun hc16 => ?_) (fun hc16 => ?_)
    · replace h := mj_yy hc16 h
      refine mx_iload_n (j := 3) hC dX11_breach_29 rfl rfl ?_
      refine mx_aload_n (j := 0) hC dX11_breach_30 rfl rfl ?_
      obtain ⟨ht17, h⟩ := h
      refine mx_get (v := vI (mj_i M15 r9 12)) hC tf_X11_169 ht17 rfl dX11_breach_31 ?_
      refine mx_bipush (v := (-6)) hC dX11_breach_34 (by decide) ?_
      refine mx_icmpeq (tgt := 43) hC dX11_breach_36 (by decide) (fun hc18 => ?_) (fun hc18 => ?_)
      · replace h := mj_yy hc18 h
        refine mx_iconst (v := 0) hC dX11_breach_43 (by decide) ?_
        refine mx_sub (L' := [(0, vR l0), (2, vI (mj_b l2)), (3, vR r9)]) [1, 3, 0] rfl ?_
        exact show mj_X g 44 [(0, vR l0), (2, vI (mj_b l2)), (3, vR r9)] [vI (mj_b false), vI (mj_b l2)] M15 0 0 from (xb_X11_breach_44 hC hE l0 l2 r9 l2 false M15 h)
      · replace h := mj_nn hc18 h
        refine mx_iconst (v := 1) hC dX11_breach_39 (by decide) ?_
        refine mx_goto (tgt := 44) hC dX11_breach_40 (by decide) ?_
        refine mx_sub (L' := [(0, vR l0), (2, vI (mj_b l2)), (3, vR r9)]) [1, 3, 0] rfl ?_
        exact show mj_X g 44 [(0, vR l0), (2, vI (mj_b l2)), (3, vR r9)] [vI (mj_b true), vI (mj_b l2)] M15 0 0 from (xb_X11_breach_44 hC hE l0 l2 r9 l2 true M15 h)
    · replace h := mj_nn hc16 h
      refine mx_bipush (v := (-3)) hC dX11_breach_26 (by decide) ?_
      exact mx_iret hC hE rfl dX11_breach_28 h
  · replace h := mj_yy hc11 h
    refine mx_iconst (v := (-1)) hC dX11_breach_13 (by decide) ?_
    exact mx_iret hC hE rfl dX11_breach_14 h
theorem tw932 : (Jvm.Cond.methodLink "LeaseLand" (136 : Nat) ({ cls := "LeaseLand$Land", name := "close", desc := "(LLeaseLand$Holding;I)V" } : Jvm.MethodName)) ∈ mj_tbl := mj_w 938 (by decide +kernel) (by decide +kernel)
theorem tw933 : (Jvm.Cond.methodLink "LeaseLand" (405 : Nat) ({ cls := "LeaseLand$Land", name := "letFall", desc := "(LLeaseLand$Holding;LLeaseLand$Holding;)I" } : Jvm.MethodName)) ∈ mj_tbl := mj_w 939 (by decide +kernel) (by decide +kernel)
def rm_X11_forfeit : Room := { frames := 3, cells := 0, slots := 0, locals := 67 }
theorem dX11_forfeit_0 : decode cX11_forfeit 0 = .ok (.aload_n 0, 1) := by decide +kernel
theorem dX11_forfeit_1 : decode cX11_forfeit 1 = .ok (.getfield 10, 3) := by decide +kernel
theorem dX11_forfeit_4 : decode cX11_forfeit 4 = .ok (.iload_n 1, 1) := by decide +kernel
theorem dX11_forfeit_5 : decode cX11_forfeit 5 = .ok (.invokevirtual 121, 3) := by decide +kernel
theorem dX11_forfeit_8 : decode cX11_forfeit 8 = .ok (.astore_n 2, 1) := by decide +kernel
theorem dX11_forfeit_9 : decode cX11_forfeit 9 = .ok (.aload_n 2, 1) := by decide +kernel
theorem dX11_forfeit_10 : decode cX11_forfeit 10 = .ok (.ifnonnull 5, 3) := by decide +kernel
theorem dX11_forfeit_13 : decode cX11_forfeit 13 = .ok (.iconst (-1), 1) := by decide +kernel
theorem dX11_forfeit_14 : decode cX11_forfeit 14 = .ok (.ireturn, 1) := by decide +kernel
theorem dX11_forfeit_15 : decode cX11_forfeit 15 = .ok (.aload_n 0, 1) := by decide +kernel
theorem dX11_forfeit_16 : decode cX11_forfeit 16 = .ok (.getfield 10, 3) := by decide +kernel
theorem dX11_forfeit_19 : decode cX11_forfeit 19 = .ok (.aload_n 2, 1) := by decide +kernel
theorem dX11_forfeit_20 : decode cX11_forfeit 20 = .ok (.invokevirtual 111, 3) := by decide +kernel
theorem dX11_forfeit_23 : decode cX11_forfeit 23 = .ok (.ifCond .ne 6, 3) := by decide +kernel
theorem dX11_forfeit_26 : decode cX11_forfeit 26 = .ok (.bipush (-3), 2) := by decide +kernel
theorem dX11_forfeit_28 : decode cX11_forfeit 28 = .ok (.ireturn, 1) := by decide +kernel
theorem dX11_forfeit_29 : decode cX11_forfeit 29 = .ok (.aload_n 2, 1) := by decide +kernel
theorem dX11_forfeit_30 : decode cX11_forfeit 30 = .ok (.getfield 169, 3) := by decide +kernel
theorem dX11_forfeit_33 : decode cX11_forfeit 33 = .ok (.bipush (-6), 2) := by decide +kernel
theorem dX11_forfeit_35 : decode cX11_forfeit 35 = .ok (.if_icmp .eq 20, 3) := by decide +kernel
theorem dX11_forfeit_38 : decode cX11_forfeit 38 = .ok (.aload_n 0, 1) := by decide +kernel
theorem dX11_forfeit_39 : decode cX11_forfeit 39 = .ok (.getfield 10, 3) := by decide +kernel
theorem dX11_forfeit_42 : decode cX11_forfeit 42 = .ok (.getfield 66, 3) := by decide +kernel
theorem dX11_forfeit_45 : decode cX11_forfeit 45 = .ok (.aload_n 2, 1) := by decide +kernel
theorem dX11_forfeit_46 : decode cX11_forfeit 46 = .ok (.getfield 169, 3) := by decide +kernel
theorem dX11_forfeit_49 : decode cX11_forfeit 49 = .ok (.isub, 1) := by decide +kernel
theorem dX11_forfeit_50 : decode cX11_forfeit 50 = .ok (.bipush 30, 2) := by decide +kernel
theorem dX11_forfeit_52 : decode cX11_forfeit 52 = .ok (.if_icmp .ge 6, 3) := by decide +kernel
theorem dX11_forfeit_55 : decode cX11_forfeit 55 = .ok (.bipush (-5), 2) := by decide +kernel
theorem dX11_forfeit_57 : decode cX11_forfeit 57 = .ok (.ireturn, 1) := by decide +kernel
theorem dX11_forfeit_58 : decode cX11_forfeit 58 = .ok (.aload_n 0, 1) := by decide +kernel
theorem dX11_forfeit_59 : decode cX11_forfeit 59 = .ok (.getfield 10, 3) := by decide +kernel
theorem dX11_forfeit_62 : decode cX11_forfeit 62 = .ok (.aload_n 2, 1) := by decide +kernel
theorem dX11_forfeit_63 : decode cX11_forfeit 63 = .ok (.iconst 2, 1) := by decide +kernel
theorem dX11_forfeit_64 : decode cX11_forfeit 64 = .ok (.invokevirtual 136, 3) := by decide +kernel
theorem dX11_forfeit_67 : decode cX11_forfeit 67 = .ok (.aload_n 0, 1) := by decide +kernel
theorem dX11_forfeit_68 : decode cX11_forfeit 68 = .ok (.getfield 10, 3) := by decide +kernel
theorem dX11_forfeit_71 : decode cX11_forfeit 71 = .ok (.aload_n 2, 1) := by decide +kernel
theorem dX11_forfeit_72 : decode cX11_forfeit 72 = .ok (.aload_n 2, 1) := by decide +kernel
theorem dX11_forfeit_73 : decode cX11_forfeit 73 = .ok (.invokevirtual 405, 3) := by decide +kernel
theorem dX11_forfeit_76 : decode cX11_forfeit 76 = .ok (.ireturn, 1) := by decide +kernel
def vc_X11_forfeit (l0 : Nat) (l1 : Int32) (M : mj_M) (post : Int32 → mj_M → Prop) : Prop := mj_tag M l0 = 12 ∧ mj_tag M (mj_r M l0 0) = 5 ∧ vc_X4_findLease (mj_r M l0 0) l1 M (fun r3 M4 => if r3 = 0 then (post ((-1)) M4) else (mj_tag M4 l0 = 12 ∧ mj_tag M4 (mj_r M4 l0 0) = 5 ∧ vc_X4_isInForce (mj_r M4 l0 0) r3 M4 (fun r8 M9 => if r8 = true then (mj_tag M9 r3 = 4 ∧ if (mj_i M9 r3 12) = ((-6)) then (post ((-5)) M9) else (mj_tag M9 l0 = 12 ∧ mj_tag M9 (mj_r M9 l0 0) = 5 ∧ if 30 ≤ ((mj_i M9 (mj_r M9 l0 0) 0) - (mj_i M9 r3 12)) then (vc_X4_close (mj_r M9 l0 0) r3 2 M9 (fun _ M16 => mj_tag M16 l0 = 12 ∧ mj_tag M16 (mj_r M16 l0 0) = 5 ∧ vc_X4_letFall (mj_r M16 l0 0) r3 r3 M16 (fun r19 M20 => post r19 M20))) else (post ((-5)) M9))) else (post ((-3)) M9))))
set_option maxHeartbeats 4000000 in
set_option maxRecDepth 100000 in
theorem ct_X11_forfeit {l : Launch} {base : Nat} {D : va_G} {A : mj_AT} (l0 : Nat) (l1 : Int32) (M : mj_M) (post : Int32 → mj_M → Prop) (h : vc_X11_forfeit l0 l1 M post) : mj_Met l base D A mj_jI yX11_forfeit cX11_forfeit 3 (some .int) rm_X11_forfeit 0 0 [vR l0, vI l1] M post := by
  refine mj_entry (by decide +kernel) (Nat.le_of_ble_eq_true rfl) (fun g hC hE h1 h2 h3 h4 => ?_)
  show mj_X g 0 [(0, vR l0), (1, vI l1)] [] M 0 0
  simp only [vc_X11_forfeit] at h
  refine mx_aload_n (j := 0) hC dX11_forfeit_0 rfl rfl ?_
  obtain ⟨ht1, h⟩ := h
  refine mx_get (v := vR (mj_r M l0 0)) hC tf_X11_10 ht1 rfl dX11_forfeit_1 ?_
  refine mx_iload_n (j := 1) hC dX11_forfeit_4 rfl rfl ?_
  obtain ⟨ht2, h⟩ := h
  refine mx_callV (inj := mj_jR) (As := [vI l1]) (st := []) hC (ct_X4_findLease (mj_r M l0 0) l1 M _ h) ty_X4_findLease tw447 ht2 rfl (Nat.le_of_ble_eq_true rfl) ⟨rfl, rfl, ⟨by decide, by decide⟩, by decide, by decide⟩ dX11_forfeit_5 (fun r3 M4 h => ?_)
  show mj_X g 8 [(0, vR l0), (1, vI l1)] [vR r3] M4 0 0
  refine mx_astore_n (L' := [(2, vR r3), (0, vR l0), (1, vI l1)]) hC dX11_forfeit_8 rfl (by decide) rfl ?_
  refine mx_aload_n (j := 0) hC dX11_forfeit_9 rfl rfl ?_
  refine mx_ifnonnull (tgt := 15) hC dX11_forfeit_10 (by decide) (fun hc5 => ?_) (fun hc5 => ?_)
  · replace h := mj_nn hc5 h
    refine mx_aload_n (j := 1) hC dX11_forfeit_15 rfl rfl ?_
    obtain ⟨ht6, h⟩ := h
    refine mx_get (v := vR (mj_r M4 l0 0)) hC tf_X11_10 ht6 rfl dX11_forfeit_16 ?_
    refine mx_aload_n (j := 0) hC dX11_forfeit_19 rfl rfl ?_
    obtain ⟨ht7, h⟩ := h
    refine mx_callV (inj := mj_jB) (As := [vR r3]) (st := []) hC (ct_X4_isInForce (mj_r M4 l0 0) r3 M4 _ h) ty_X4_isInForce tw649 ht7 rfl (Nat.le_of_ble_eq_true rfl) ⟨rfl, rfl, ⟨by decide, by decide⟩, by decide, by decide⟩ dX11_forfeit_20 (fun r8 M9 h => ?_)
    show mj_X g 23 [(2, vR r3), (0, vR l0), (1, vI l1)] [vI (mj_b r8)] M9 0 0
    refine mx_ifneB (tgt := 29) hC dX11_forfeit_23 (by decide) (fun hc10 => ?_) (fun hc10 => ?_)
    · replace h := mj_yy hc10 h
      refine mx_aload_n (j := 0) hC dX11_forfeit_29 rfl rfl ?_
      obtain ⟨ht11, h⟩ := h
      refine mx_get (v := vI (mj_i M9 r3 12)) hC tf_X11_169 ht11 rfl dX11_forfeit_30 ?_
      refine mx_bipush (v := (-6)) hC dX11_forfeit_33 (by decide) ?_
      refine mx_icmpeq (tgt := 55) hC dX11_forfeit_35 (by decide) (fun hc12 => ?_) (fun hc12 => ?_)
      · replace h := mj_yy hc12 h
        refine mx_bipush (v := (-5)) hC dX11_forfeit_55 (by decide) ?_
        exact mx_iret hC hE rfl dX11_forfeit_57 h
      · replace h := mj_nn hc12 h
        refine mx_aload_n (j := 1) hC dX11_forfeit_38 rfl rfl ?_
        obtain ⟨ht13, h⟩ := h
        refine mx_get (v := vR (mj_r M9 l0 0)) hC tf_X11_10 ht13 rfl dX11_forfeit_39 ?_
        obtain ⟨ht14, h⟩ := h
        refine mx_get (v := vI (mj_i M9 (mj_r M9 l0 0) 0)) hC tf_X11_66 ht14 rfl dX11_forfeit_42 ?_
        refine mx_aload_n (j := 0) hC dX11_forfeit_45 rfl rfl ?_
        refine mx_get (v := vI (mj_i M9 r3 12)) hC tf_X11_169 ht11 rfl dX11_forfeit_46 ?_
        refine mx_isub hC dX11_forfeit_49 ?_
        refine mx_bipush (v := 30) hC dX11_forfeit_50 (by decide) ?_
        refine mx_icmpge (tgt := 58) hC dX11_forfeit_52 (by decide) (fun hc15 => ?_) (fun hc15 => ?_)
        · replace h := mj_yy hc15 h
          refine mx_aload_n (j := 1) hC dX11_forfeit_58 rfl rfl ?_
          refine mx_get (v := vR (mj_r M9 l0 0)) hC tf_X11_10 ht13 rfl dX11_forfeit_59 ?_
          refine mx_aload_n (j := 0) hC dX11_forfeit_62 rfl rfl ?_
          refine mx_iconst (v := 2) hC dX11_forfeit_63 (by decide) ?_
          refine mx_callV (inj := mj_jV) (As := [vR r3, vI 2]) (st := []) hC (ct_X4_close (mj_r M9 l0 0) r3 2 M9 _ h) ty_X4_close tw932 ht14 rfl (Nat.le_of_ble_eq_true rfl) ⟨rfl, rfl, ⟨by decide, by decide⟩, by decide, by decide⟩ dX11_forfeit_64 (fun _ M16 h => ?_)
          show mj_X g 67 [(2, vR r3), (0, vR l0), (1, vI l1)] [] M16 0 0
          refine mx_aload_n (j := 1) hC dX11_forfeit_67 rfl rfl ?_
          obtain ⟨ht17, h⟩ := h
          refine mx_get (v := vR (mj_r M16 l0 0)) hC tf_X11_10 ht17 rfl dX11_forfeit_68 ?_
          refine mx_aload_n (j := 0) hC dX11_forfeit_71 rfl rfl ?_
          refine mx_aload_n (j := 0) hC dX11_forfeit_72 rfl rfl ?_
          obtain ⟨ht18, h⟩ := h
          refine mx_callV (inj := mj_jI) (As := [vR r3, vR r3]) (st := []) hC (ct_X4_letFall (mj_r M16 l0 0) r3 r3 M16 _ h) ty_X4_letFall tw933 ht18 rfl (Nat.le_of_ble_eq_true rfl) ⟨rfl, rfl, ⟨by decide, by decide⟩, by decide, by decide⟩ dX11_forfeit_73 (fun r19 M20 h => ?_)
          show mj_X g 76 [(2, vR r3), (0, vR l0), (1, vI l1)] [vI r19] M20 0 0
          exact mx_iret hC hE rfl dX11_forfeit_76 h
        · replace h := mj_nn hc15 h
          refine mx_bipush (v := (-5)) hC dX11_forfeit_55 (by decide) ?_
          exact mx_iret hC hE rfl dX11_forfeit_57 h
    · replace h := mj_nn hc10 h
      refine mx_bipush (v := (-3)) hC dX11_forfeit_26 (by decide) ?_
      exact mx_iret hC hE rfl dX11_forfeit_28 h
  · replace h := mj_yy hc5 h
    refine mx_iconst (v := (-1)) hC dX11_forfeit_13 (by decide) ?_
    exact mx_iret hC hE rfl dX11_forfeit_14 h
theorem tw321 : (Jvm.Cond.fieldLink "LeaseLand" (408 : Nat) "LeaseLand$Holding" "ended" "I") ∈ mj_tbl := mj_w 327 (by decide +kernel) (by decide +kernel)
theorem tf_X11_408 : mj_F 3 7 .int false "LeaseLand" 408 := ⟨_, tk3, by decide, rfl, rfl, rfl, tw321⟩
theorem tw938 : (Jvm.Cond.methodLink "LeaseLand" (411 : Nat) ({ cls := "LeaseLand$Land", name := "canStandAgain", desc := "(LLeaseLand$Holding;)Z" } : Jvm.MethodName)) ∈ mj_tbl := mj_w 944 (by decide +kernel) (by decide +kernel)
theorem tw944 : (Jvm.Cond.methodLink "LeaseLand" (414 : Nat) ({ cls := "LeaseLand$Land", name := "standAgain", desc := "(LLeaseLand$Holding;)I" } : Jvm.MethodName)) ∈ mj_tbl := mj_w 950 (by decide +kernel) (by decide +kernel)
theorem tw941 : (Jvm.Cond.code ({ cls := "LeaseLand$Land", name := "canStandAgain", desc := "(LLeaseLand$Holding;)Z" } : Jvm.MethodName) prog_6_method_22_code (4 : Nat) (Option.some Jvm.ClassFile.FieldType.boolean)) ∈ mj_tbl := mj_w 947 (by decide +kernel) (by decide +kernel)
theorem tw939 : (Jvm.Cond.instanceMethod ({ cls := "LeaseLand$Land", name := "canStandAgain", desc := "(LLeaseLand$Holding;)Z" } : Jvm.MethodName)) ∈ mj_tbl := mj_w 945 (by decide +kernel) (by decide +kernel)
theorem tw940 : (Jvm.Cond.selects "LeaseLand$Land" ({ cls := "LeaseLand$Land", name := "canStandAgain", desc := "(LLeaseLand$Holding;)Z" } : Jvm.MethodName) ({ cls := "LeaseLand$Land", name := "canStandAgain", desc := "(LLeaseLand$Holding;)Z" } : Jvm.MethodName)) ∈ mj_tbl := mj_w 946 (by decide +kernel) (by decide +kernel)
theorem ty_X4_canStandAgain : mj_YV 4 yX4_canStandAgain cX4_canStandAgain 4 (some .boolean) 1 := ⟨⟨tw941, tw2, by decide +kernel, by decide +kernel, by decide +kernel⟩, tw939, tw940, _, rfl, rfl⟩
theorem tw947 : (Jvm.Cond.code ({ cls := "LeaseLand$Land", name := "standAgain", desc := "(LLeaseLand$Holding;)I" } : Jvm.MethodName) prog_6_method_23_code (4 : Nat) (Option.some Jvm.ClassFile.FieldType.int)) ∈ mj_tbl := mj_w 953 (by decide +kernel) (by decide +kernel)
theorem tw945 : (Jvm.Cond.instanceMethod ({ cls := "LeaseLand$Land", name := "standAgain", desc := "(LLeaseLand$Holding;)I" } : Jvm.MethodName)) ∈ mj_tbl := mj_w 951 (by decide +kernel) (by decide +kernel)
theorem tw946 : (Jvm.Cond.selects "LeaseLand$Land" ({ cls := "LeaseLand$Land", name := "standAgain", desc := "(LLeaseLand$Holding;)I" } : Jvm.MethodName) ({ cls := "LeaseLand$Land", name := "standAgain", desc := "(LLeaseLand$Holding;)I" } : Jvm.MethodName)) ∈ mj_tbl := mj_w 952 (by decide +kernel) (by decide +kernel)
theorem ty_X4_standAgain : mj_YV 4 yX4_standAgain cX4_standAgain 4 (some .int) 1 := ⟨⟨tw947, tw2, by decide +kernel, by decide +kernel, by decide +kernel⟩, tw945, tw946, _, rfl, rfl⟩
def rm_X11_relieve : Room := { frames := 5, cells := 0, slots := 0, locals := 116 }
theorem dX11_relieve_0 : decode cX11_relieve 0 = .ok (.aload_n 0, 1) := by decide +kernel
theorem dX11_relieve_1 : decode cX11_relieve 1 = .ok (.getfield 10, 3) := by decide +kernel
theorem dX11_relieve_4 : decode cX11_relieve 4 = .ok (.iload_n 1, 1) := by decide +kernel
theorem dX11_relieve_5 : decode cX11_relieve 5 = .ok (.invokevirtual 121, 3) := by decide +kernel
theorem dX11_relieve_8 : decode cX11_relieve 8 = .ok (.astore_n 2, 1) := by decide +kernel
theorem dX11_relieve_9 : decode cX11_relieve 9 = .ok (.aload_n 2, 1) := by decide +kernel
theorem dX11_relieve_10 : decode cX11_relieve 10 = .ok (.ifnonnull 5, 3) := by decide +kernel
theorem dX11_relieve_13 : decode cX11_relieve 13 = .ok (.iconst (-1), 1) := by decide +kernel
theorem dX11_relieve_14 : decode cX11_relieve 14 = .ok (.ireturn, 1) := by decide +kernel
theorem dX11_relieve_15 : decode cX11_relieve 15 = .ok (.aload_n 2, 1) := by decide +kernel
theorem dX11_relieve_16 : decode cX11_relieve 16 = .ok (.getfield 160, 3) := by decide +kernel
theorem dX11_relieve_19 : decode cX11_relieve 19 = .ok (.iconst 2, 1) := by decide +kernel
theorem dX11_relieve_20 : decode cX11_relieve 20 = .ok (.if_icmp .ne 21, 3) := by decide +kernel
theorem dX11_relieve_23 : decode cX11_relieve 23 = .ok (.aload_n 0, 1) := by decide +kernel
theorem dX11_relieve_24 : decode cX11_relieve 24 = .ok (.getfield 10, 3) := by decide +kernel
theorem dX11_relieve_27 : decode cX11_relieve 27 = .ok (.getfield 66, 3) := by decide +kernel
theorem dX11_relieve_30 : decode cX11_relieve 30 = .ok (.aload_n 2, 1) := by decide +kernel
theorem dX11_relieve_31 : decode cX11_relieve 31 = .ok (.getfield 408, 3) := by decide +kernel
theorem dX11_relieve_34 : decode cX11_relieve 34 = .ok (.isub, 1) := by decide +kernel
theorem dX11_relieve_35 : decode cX11_relieve 35 = .ok (.sipush 180, 3) := by decide +kernel
theorem dX11_relieve_38 : decode cX11_relieve 38 = .ok (.if_icmp .le 6, 3) := by decide +kernel
theorem dX11_relieve_41 : decode cX11_relieve 41 = .ok (.bipush (-3), 2) := by decide +kernel
theorem dX11_relieve_43 : decode cX11_relieve 43 = .ok (.ireturn, 1) := by decide +kernel
theorem dX11_relieve_44 : decode cX11_relieve 44 = .ok (.aload_n 0, 1) := by decide +kernel
theorem dX11_relieve_45 : decode cX11_relieve 45 = .ok (.getfield 10, 3) := by decide +kernel
theorem dX11_relieve_48 : decode cX11_relieve 48 = .ok (.aload_n 2, 1) := by decide +kernel
theorem dX11_relieve_49 : decode cX11_relieve 49 = .ok (.invokevirtual 411, 3) := by decide +kernel
theorem dX11_relieve_52 : decode cX11_relieve 52 = .ok (.ifCond .eq 14, 3) := by decide +kernel
theorem dX11_relieve_55 : decode cX11_relieve 55 = .ok (.aload_n 0, 1) := by decide +kernel
theorem dX11_relieve_56 : decode cX11_relieve 56 = .ok (.getfield 10, 3) := by decide +kernel
theorem dX11_relieve_59 : decode cX11_relieve 59 = .ok (.aload_n 2, 1) := by decide +kernel
theorem dX11_relieve_60 : decode cX11_relieve 60 = .ok (.invokevirtual 414, 3) := by decide +kernel
theorem dX11_relieve_63 : decode cX11_relieve 63 = .ok (.goto 5, 3) := by decide +kernel
theorem dX11_relieve_66 : decode cX11_relieve 66 = .ok (.bipush (-5), 2) := by decide +kernel
theorem dX11_relieve_68 : decode cX11_relieve 68 = .ok (.ireturn, 1) := by decide +kernel
def vc_X11_relieve (l0 : Nat) (l1 : Int32) (M : mj_M) (post : Int32 → mj_M → Prop) : Prop := mj_tag M l0 = 12 ∧ mj_tag M (mj_r M l0 0) = 5 ∧ vc_X4_findLease (mj_r M l0 0) l1 M (fun r3 M4 => if r3 = 0 then (post ((-1)) M4) else (mj_tag M4 r3 = 4 ∧ if (mj_i M4 r3 6) = 2 then (mj_tag M4 l0 = 12 ∧ mj_tag M4 (mj_r M4 l0 0) = 5 ∧ if ((mj_i M4 (mj_r M4 l0 0) 0) - (mj_i M4 r3 7)) ≤ 180 then (vc_X4_canStandAgain (mj_r M4 l0 0) r3 M4 (fun r11 M12 => if r11 = true then (mj_tag M12 l0 = 12 ∧ mj_tag M12 (mj_r M12 l0 0) = 5 ∧ vc_X4_standAgain (mj_r M12 l0 0) r3 M12 (fun r16 M17 => post r16 M17)) else (post ((-5)) M12))) else (post ((-3)) M4)) else (post ((-3)) M4)))
set_option maxHeartbeats 4000000 in
set_option maxRecDepth 100000 in
theorem ct_X11_relieve {l : Launch} {base : Nat} {D : va_G} {A : mj_AT} (l0 : Nat) (l1 : Int32) (M : mj_M) (post : Int32 → mj_M → Prop) (h : vc_X11_relieve l0 l1 M post) : mj_Met l base D A mj_jI yX11_relieve cX11_relieve 3 (some .int) rm_X11_relieve 0 0 [vR l0, vI l1] M post := by
  refine mj_entry (by decide +kernel) (Nat.le_of_ble_eq_true rfl) (fun g hC hE h1 h2 h3 h4 => ?_)
  show mj_X g 0 [(0, vR l0), (1, vI l1)] [] M 0 0
  simp only [vc_X11_relieve] at h
  refine mx_aload_n (j := 0) hC dX11_relieve_0 rfl rfl ?_
  obtain ⟨ht1, h⟩ := h
  refine mx_get (v := vR (mj_r M l0 0)) hC tf_X11_10 ht1 rfl dX11_relieve_1 ?_
  refine mx_iload_n (j := 1) hC dX11_relieve_4 rfl rfl ?_
  obtain ⟨ht2, h⟩ := h
  refine mx_callV (inj := mj_jR) (As := [vI l1]) (st := []) hC (ct_X4_findLease (mj_r M l0 0) l1 M _ h) ty_X4_findLease tw447 ht2 rfl (Nat.le_of_ble_eq_true rfl) ⟨rfl, rfl, ⟨by decide, by decide⟩, by decide, by decide⟩ dX11_relieve_5 (fun r3 M4 h => ?_)
  show mj_X g 8 [(0, vR l0), (1, vI l1)] [vR r3] M4 0 0
  refine mx_astore_n (L' := [(2, vR r3), (0, vR l0), (1, vI l1)]) hC dX11_relieve_8 rfl (by decide) rfl ?_
  refine mx_aload_n (j := 0) hC dX11_relieve_9 rfl rfl ?_
  refine mx_ifnonnull (tgt := 15) hC dX11_relieve_10 (by decide) (fun hc5 => ?_) (fun hc5 => ?_)
  · replace h := mj_nn hc5 h
    refine mx_aload_n (j := 0) hC dX11_relieve_15 rfl rfl ?_
    obtain ⟨ht6, h⟩ := h
    refine mx_get (v := vI (mj_i M4 r3 6)) hC tf_X11_160 ht6 rfl dX11_relieve_16 ?_
    refine mx_iconst (v := 2) hC dX11_relieve_19 (by decide) ?_
    refine mx_icmpne (tgt := 41) hC dX11_relieve_20 (by decide) (fun hc7 => ?_) (fun hc7 => ?_)
    · replace h := mj_nn hc7 h
      refine mx_bipush (v := (-3)) hC dX11_relieve_41 (by decide) ?_
      exact mx_iret hC hE rfl dX11_relieve_43 h
    · replace h := mj_yy hc7 h
      refine mx_aload_n (j := 1) hC dX11_relieve_23 rfl rfl ?_
      obtain ⟨ht8, h⟩ := h
      refine mx_get (v := vR (mj_r M4 l0 0)) hC tf_X11_10 ht8 rfl dX11_relieve_24 ?_
      obtain ⟨ht9, h⟩ := h
      refine mx_get (v := vI (mj_i M4 (mj_r M4 l0 0) 0)) hC tf_X11_66 ht9 rfl dX11_relieve_27 ?_
      refine mx_aload_n (j := 0) hC dX11_relieve_30 rfl rfl ?_
      refine mx_get (v := vI (mj_i M4 r3 7)) hC tf_X11_408 ht6 rfl dX11_relieve_31 ?_
      refine mx_isub hC dX11_relieve_34 ?_
      refine mx_sipush (v := 180) hC dX11_relieve_35 (by decide) ?_
      refine mx_icmple (tgt := 44) hC dX11_relieve_38 (by decide) (fun hc10 => ?_) (fun hc10 => ?_)
      · replace h := mj_yy hc10 h
        refine mx_aload_n (j := 1) hC dX11_relieve_44 rfl rfl ?_
        refine mx_get (v := vR (mj_r M4 l0 0)) hC tf_X11_10 ht8 rfl dX11_relieve_45 ?_
        refine mx_aload_n (j := 0) hC dX11_relieve_48 rfl rfl ?_
        refine mx_callV (inj := mj_jB) (As := [vR r3]) (st := []) hC (ct_X4_canStandAgain (mj_r M4 l0 0) r3 M4 _ h) ty_X4_canStandAgain tw938 ht9 rfl (Nat.le_of_ble_eq_true rfl) ⟨rfl, rfl, ⟨by decide, by decide⟩, by decide, by decide⟩ dX11_relieve_49 (fun r11 M12 h => ?_)
        show mj_X g 52 [(2, vR r3), (0, vR l0), (1, vI l1)] [vI (mj_b r11)] M12 0 0
        refine mx_ifeqB (tgt := 66) hC dX11_relieve_52 (by decide) (fun hc13 => ?_) (fun hc13 => ?_)
        · replace h := mj_nn hc13 h
          refine mx_bipush (v := (-5)) hC dX11_relieve_66 (by decide) ?_
          exact mx_iret hC hE rfl dX11_relieve_68 h
        · replace h := mj_yy hc13 h
          refine mx_aload_n (j := 1) hC dX11_relieve_55 rfl rfl ?_
          obtain ⟨ht14, h⟩ := h
          refine mx_get (v := vR (mj_r M12 l0 0)) hC tf_X11_10 ht14 rfl dX11_relieve_56 ?_
          refine mx_aload_n (j := 0) hC dX11_relieve_59 rfl rfl ?_
          obtain ⟨ht15, h⟩ := h
          refine mx_callV (inj := mj_jI) (As := [vR r3]) (st := []) hC (ct_X4_standAgain (mj_r M12 l0 0) r3 M12 _ h) ty_X4_standAgain tw944 ht15 rfl (Nat.le_of_ble_eq_true rfl) ⟨rfl, rfl, ⟨by decide, by decide⟩, by decide, by decide⟩ dX11_relieve_60 (fun r16 M17 h => ?_)
          show mj_X g 63 [(2, vR r3), (0, vR l0), (1, vI l1)] [vI r16] M17 0 0
          refine mx_goto (tgt := 68) hC dX11_relieve_63 (by decide) ?_
          exact mx_iret hC hE rfl dX11_relieve_68 h
      · replace h := mj_nn hc10 h
        refine mx_bipush (v := (-3)) hC dX11_relieve_41 (by decide) ?_
        exact mx_iret hC hE rfl dX11_relieve_43 h
  · replace h := mj_yy hc5 h
    refine mx_iconst (v := (-1)) hC dX11_relieve_13 (by decide) ?_
    exact mx_iret hC hE rfl dX11_relieve_14 h

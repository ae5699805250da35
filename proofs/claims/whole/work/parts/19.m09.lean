/-! methods 9. By program (wip/gen) out of the bytecode: vc_KEY: what must hold of a call; ct_KEY: then the machine does it. -/
theorem tw160 : (Jvm.Cond.fieldLink "LeaseLand" (310 : Nat) "LeaseLand$Market" "values" "[I") ∈ mj_tbl := mj_w 213 (by decide +kernel) (by decide +kernel)
theorem tf_X11_310 : mj_F 5 0 (.array .int) true "LeaseLand" 310 := ⟨_, tk5, by decide, rfl, rfl, rfl, tw160⟩
theorem tw972 : (Jvm.Cond.constant "LeaseLand" (309 : Nat) (1000000 : Int32)) ∈ mj_tbl := mj_w 1025 (by decide +kernel) (by decide +kernel)
def rm_X11_value : Room := { frames := 1, cells := 0, slots := 0, locals := 20 }
theorem dX11_value_0 : decode cX11_value 0 = .ok (.iload_n 1, 1) := by decide +kernel
theorem dX11_value_1 : decode cX11_value 1 = .ok (.invokestatic 175, 3) := by decide +kernel
theorem dX11_value_4 : decode cX11_value 4 = .ok (.ifCond .ne 5, 3) := by decide +kernel
theorem dX11_value_7 : decode cX11_value 7 = .ok (.iconst (-1), 1) := by decide +kernel
theorem dX11_value_8 : decode cX11_value 8 = .ok (.ireturn, 1) := by decide +kernel
theorem dX11_value_9 : decode cX11_value 9 = .ok (.iload_n 2, 1) := by decide +kernel
theorem dX11_value_10 : decode cX11_value 10 = .ok (.ifCond .lt 10, 3) := by decide +kernel
theorem dX11_value_13 : decode cX11_value 13 = .ok (.iload_n 2, 1) := by decide +kernel
theorem dX11_value_14 : decode cX11_value 14 = .ok (.ldc_w 309, 3) := by decide +kernel
theorem dX11_value_17 : decode cX11_value 17 = .ok (.if_icmp .le 6, 3) := by decide +kernel
theorem dX11_value_20 : decode cX11_value 20 = .ok (.bipush (-2), 2) := by decide +kernel
theorem dX11_value_22 : decode cX11_value 22 = .ok (.ireturn, 1) := by decide +kernel
theorem dX11_value_23 : decode cX11_value 23 = .ok (.aload_n 0, 1) := by decide +kernel
theorem dX11_value_24 : decode cX11_value 24 = .ok (.getfield 40, 3) := by decide +kernel
theorem dX11_value_27 : decode cX11_value 27 = .ok (.getfield 310, 3) := by decide +kernel
theorem dX11_value_30 : decode cX11_value 30 = .ok (.iload_n 1, 1) := by decide +kernel
theorem dX11_value_31 : decode cX11_value 31 = .ok (.iaload, 1) := by decide +kernel
theorem dX11_value_32 : decode cX11_value 32 = .ok (.istore_n 3, 1) := by decide +kernel
theorem dX11_value_33 : decode cX11_value 33 = .ok (.aload_n 0, 1) := by decide +kernel
theorem dX11_value_34 : decode cX11_value 34 = .ok (.getfield 40, 3) := by decide +kernel
theorem dX11_value_37 : decode cX11_value 37 = .ok (.getfield 310, 3) := by decide +kernel
theorem dX11_value_40 : decode cX11_value 40 = .ok (.iload_n 1, 1) := by decide +kernel
theorem dX11_value_41 : decode cX11_value 41 = .ok (.iload_n 2, 1) := by decide +kernel
theorem dX11_value_42 : decode cX11_value 42 = .ok (.iastore, 1) := by decide +kernel
theorem dX11_value_43 : decode cX11_value 43 = .ok (.iload_n 3, 1) := by decide +kernel
theorem dX11_value_44 : decode cX11_value 44 = .ok (.ireturn, 1) := by decide +kernel
def vc_X11_value (l0 : Nat) (l1 : Int32) (l2 : Int32) (M : mj_M) (post : Int32 → mj_M → Prop) : Prop := vc_X11_isFloor l1 M (fun r1 M2 => if r1 = true then (if l2 < 0 then (post ((-2)) M2) else (if l2 ≤ 1000000 then (mj_tag M2 l0 = 12 ∧ mj_tag M2 (mj_r M2 l0 4) = 6 ∧ mj_tag M2 (mj_r M2 (mj_r M2 l0 4) 0) = 101 ∧ vp_in l1 (mj_len M2 (mj_r M2 (mj_r M2 l0 4) 0)) ∧ post (mj_i M2 (mj_r M2 (mj_r M2 l0 4) 0) (l1 : Int32).toNatClampNeg) (mj_wi M2 (mj_r M2 (mj_r M2 l0 4) 0) (l1 : Int32).toNatClampNeg l2)) else (post ((-2)) M2))) else (post ((-1)) M2))
set_option maxHeartbeats 4000000 in
set_option maxRecDepth 100000 in
theorem ct_X11_value {l : Launch} {base : Nat} {D : va_G} {A : ClassId × ClassId × ClassId} (l0 : Nat) (l1 : Int32) (l2 : Int32) (M : mj_M) (post : Int32 → mj_M → Prop) (h : vc_X11_value l0 l1 l2 M post) : mj_Met l base D A mj_jI yX11_value cX11_value 4 (some .int) rm_X11_value 0 0 [vR l0, vI l1, vI l2] M post := by
  refine mj_entry (by decide +kernel) (Nat.le_of_ble_eq_true rfl) (fun g hC hE h1 h2 h3 h4 => ?_)
  show mj_X g 0 [(0, vR l0), (1, vI l1), (2, vI l2)] [] M 0 0
  simp only [vc_X11_value] at h
  refine mx_iload_n (j := 1) hC dX11_value_0 rfl rfl ?_
  refine mx_callS (inj := mj_jB) (As := [vI l1]) (st := []) hC (ct_X11_isFloor l1 M _ h) ty_X11_isFloor tw515 rfl (Nat.le_of_ble_eq_true rfl) ⟨rfl, rfl, ⟨by decide, by decide⟩, by decide, by decide⟩ dX11_value_1 (fun r1 M2 h => ?_)
  show mj_X g 4 [(0, vR l0), (1, vI l1), (2, vI l2)] [vI (mj_b r1)] M2 0 0
  refine mx_ifneB (tgt := 9) hC dX11_value_4 (by decide) (fun hc3 => ?_) (fun hc3 => ?_)
  · replace h := mj_yy hc3 h
    refine mx_iload_n (j := 2) hC dX11_value_9 rfl rfl ?_
    refine mx_iflt (tgt := 20) hC dX11_value_10 (by decide) (fun hc4 => ?_) (fun hc4 => ?_)
    · replace h := mj_yy hc4 h
      refine mx_bipush (v := (-2)) hC dX11_value_20 (by decide) ?_
      exact mx_iret hC hE rfl dX11_value_22 h
    · replace h := mj_nn hc4 h
      refine mx_iload_n (j := 2) hC dX11_value_13 rfl rfl ?_
      refine mx_ldcw (v := 1000000) hC dX11_value_14 tw972 ?_
      refine mx_icmple (tgt := 23) hC dX11_value_17 (by decide) (fun hc5 => ?_) (fun hc5 => ?_)
      · replace h := mj_yy hc5 h
        refine mx_aload_n (j := 0) hC dX11_value_23 rfl rfl ?_
        obtain ⟨ht6, h⟩ := h
        refine mx_get (v := vR (mj_r M2 l0 4)) hC tf_X11_40 ht6 rfl dX11_value_24 ?_
        obtain ⟨ht7, h⟩ := h
        refine mx_get (v := vR (mj_r M2 (mj_r M2 l0 4) 0)) hC tf_X11_310 ht7 rfl dX11_value_27 ?_
        refine mx_iload_n (j := 1) hC dX11_value_30 rfl rfl ?_
        obtain ⟨ht8, h⟩ := h
        obtain ⟨hi9, h⟩ := h
        refine mx_iaload hC ht8 hi9 dX11_value_31 ?_
        refine mx_istore_n (L' := [(3, vI (mj_i M2 (mj_r M2 (mj_r M2 l0 4) 0) (l1 : Int32).toNatClampNeg)), (0, vR l0), (1, vI l1), (2, vI l2)]) hC dX11_value_32 rfl (by decide) rfl ?_
        refine mx_aload_n (j := 1) hC dX11_value_33 rfl rfl ?_
        refine mx_get (v := vR (mj_r M2 l0 4)) hC tf_X11_40 ht6 rfl dX11_value_34 ?_
        refine mx_get (v := vR (mj_r M2 (mj_r M2 l0 4) 0)) hC tf_X11_310 ht7 rfl dX11_value_37 ?_
        refine mx_iload_n (j := 2) hC dX11_value_40 rfl rfl ?_
        refine mx_iload_n (j := 3) hC dX11_value_41 rfl rfl ?_
        refine mx_iastore hC ht8 hi9 dX11_value_42 ?_
        refine mx_iload_n (j := 0) hC dX11_value_43 rfl rfl ?_
        exact mx_iret hC hE rfl dX11_value_44 h
      · replace h := mj_nn hc5 h
        refine mx_bipush (v := (-2)) hC dX11_value_20 (by decide) ?_
        exact mx_iret hC hE rfl dX11_value_22 h
  · replace h := mj_nn hc3 h
    refine mx_iconst (v := (-1)) hC dX11_value_7 (by decide) ?_
    exact mx_iret hC hE rfl dX11_value_8 h
def rm_X11_isPartOfWhole : Room := { frames := 0, cells := 0, slots := 0, locals := 0 }
theorem dX11_isPartOfWhole_0 : decode cX11_isPartOfWhole 0 = .ok (.iload_n 0, 1) := by decide +kernel
theorem dX11_isPartOfWhole_1 : decode cX11_isPartOfWhole 1 = .ok (.ifCond .lt 14, 3) := by decide +kernel
theorem dX11_isPartOfWhole_4 : decode cX11_isPartOfWhole 4 = .ok (.iload_n 0, 1) := by decide +kernel
theorem dX11_isPartOfWhole_5 : decode cX11_isPartOfWhole 5 = .ok (.sipush 10000, 3) := by decide +kernel
theorem dX11_isPartOfWhole_8 : decode cX11_isPartOfWhole 8 = .ok (.if_icmp .gt 7, 3) := by decide +kernel
theorem dX11_isPartOfWhole_11 : decode cX11_isPartOfWhole 11 = .ok (.iconst 1, 1) := by decide +kernel
theorem dX11_isPartOfWhole_12 : decode cX11_isPartOfWhole 12 = .ok (.goto 4, 3) := by decide +kernel
theorem dX11_isPartOfWhole_15 : decode cX11_isPartOfWhole 15 = .ok (.iconst 0, 1) := by decide +kernel
theorem dX11_isPartOfWhole_16 : decode cX11_isPartOfWhole 16 = .ok (.ireturn, 1) := by decide +kernel
def vc_X11_isPartOfWhole (l0 : Int32) (M : mj_M) (post : Bool → mj_M → Prop) : Prop := if l0 < 0 then (post false M) else (if 10000 < l0 then (post false M) else (post true M))
set_option maxHeartbeats 4000000 in
set_option maxRecDepth 100000 in
theorem ct_X11_isPartOfWhole {l : Launch} {base : Nat} {D : va_G} {A : ClassId × ClassId × ClassId} (l0 : Int32) (M : mj_M) (post : Bool → mj_M → Prop) (h : vc_X11_isPartOfWhole l0 M post) : mj_Met l base D A mj_jB yX11_isPartOfWhole cX11_isPartOfWhole 1 (some .boolean) rm_X11_isPartOfWhole 0 0 [vI l0] M post := by
  refine mj_entry (by decide +kernel) (Nat.le_of_ble_eq_true rfl) (fun g hC hE h1 h2 h3 h4 => ?_)
  show mj_X g 0 [(0, vI l0)] [] M 0 0
  simp only [vc_X11_isPartOfWhole] at h
  refine mx_iload_n (j := 0) hC dX11_isPartOfWhole_0 rfl rfl ?_
  refine mx_iflt (tgt := 15) hC dX11_isPartOfWhole_1 (by decide) (fun hc1 => ?_) (fun hc1 => ?_)
  · replace h := mj_yy hc1 h
    refine mx_iconst (v := 0) hC dX11_isPartOfWhole_15 (by decide) ?_
    exact mx_zret (b := false) hC hE rfl dX11_isPartOfWhole_16 h
  · replace h := mj_nn hc1 h
    refine mx_iload_n (j := 0) hC dX11_isPartOfWhole_4 rfl rfl ?_
    refine mx_sipush (v := 10000) hC dX11_isPartOfWhole_5 (by decide) ?_
    refine mx_icmpgt (tgt := 15) hC dX11_isPartOfWhole_8 (by decide) (fun hc2 => ?_) (fun hc2 => ?_)
    · replace h := mj_yy hc2 h
      refine mx_iconst (v := 0) hC dX11_isPartOfWhole_15 (by decide) ?_
      exact mx_zret (b := false) hC hE rfl dX11_isPartOfWhole_16 h
    · replace h := mj_nn hc2 h
      refine mx_iconst (v := 1) hC dX11_isPartOfWhole_11 (by decide) ?_
      refine mx_goto (tgt := 16) hC dX11_isPartOfWhole_12 (by decide) ?_
      exact mx_zret (b := true) hC hE rfl dX11_isPartOfWhole_16 h
theorem tw977 : (Jvm.Cond.methodLink "LeaseLand" (313 : Nat) ({ cls := "LeaseLand", name := "isPartOfWhole", desc := "(I)Z" } : Jvm.MethodName)) ∈ mj_tbl := mj_w 1030 (by decide +kernel) (by decide +kernel)
theorem tw980 : (Jvm.Cond.methodLink "LeaseLand" (316 : Nat) ({ cls := "LeaseLand$Market", name := "lastYears", desc := "()I" } : Jvm.MethodName)) ∈ mj_tbl := mj_w 1033 (by decide +kernel) (by decide +kernel)
theorem tw984 : (Jvm.Cond.methodLink "LeaseLand" (319 : Nat) ({ cls := "LeaseLand$Market", name := "addPoint", desc := "(II)I" } : Jvm.MethodName)) ∈ mj_tbl := mj_w 1037 (by decide +kernel) (by decide +kernel)
theorem tw979 : (Jvm.Cond.code ({ cls := "LeaseLand", name := "isPartOfWhole", desc := "(I)Z" } : Jvm.MethodName) prog_1_method_59_code (1 : Nat) (Option.some Jvm.ClassFile.FieldType.boolean)) ∈ mj_tbl := mj_w 1032 (by decide +kernel) (by decide +kernel)
theorem tw978 : (Jvm.Cond.static ({ cls := "LeaseLand", name := "isPartOfWhole", desc := "(I)Z" } : Jvm.MethodName)) ∈ mj_tbl := mj_w 1031 (by decide +kernel) (by decide +kernel)
theorem ty_X11_isPartOfWhole : mj_YS yX11_isPartOfWhole cX11_isPartOfWhole 1 (some .boolean) 1 := ⟨⟨tw979, tw1, by decide +kernel, by decide +kernel, by decide +kernel⟩, tw978⟩
theorem tw987 : (Jvm.Cond.code ({ cls := "LeaseLand$Market", name := "addPoint", desc := "(II)I" } : Jvm.MethodName) prog_7_method_3_code (3 : Nat) (Option.some Jvm.ClassFile.FieldType.int)) ∈ mj_tbl := mj_w 1040 (by decide +kernel) (by decide +kernel)
theorem tw985 : (Jvm.Cond.instanceMethod ({ cls := "LeaseLand$Market", name := "addPoint", desc := "(II)I" } : Jvm.MethodName)) ∈ mj_tbl := mj_w 1038 (by decide +kernel) (by decide +kernel)
theorem tw986 : (Jvm.Cond.selects "LeaseLand$Market" ({ cls := "LeaseLand$Market", name := "addPoint", desc := "(II)I" } : Jvm.MethodName) ({ cls := "LeaseLand$Market", name := "addPoint", desc := "(II)I" } : Jvm.MethodName)) ∈ mj_tbl := mj_w 1039 (by decide +kernel) (by decide +kernel)
theorem ty_X5_addPoint : mj_YV 5 yX5_addPoint cX5_addPoint 3 (some .int) 2 := ⟨⟨tw987, tw8, by decide +kernel, by decide +kernel, by decide +kernel⟩, tw985, tw986, _, rfl, rfl⟩
theorem tw983 : (Jvm.Cond.code ({ cls := "LeaseLand$Market", name := "lastYears", desc := "()I" } : Jvm.MethodName) prog_7_method_2_code (1 : Nat) (Option.some Jvm.ClassFile.FieldType.int)) ∈ mj_tbl := mj_w 1036 (by decide +kernel) (by decide +kernel)
theorem tw981 : (Jvm.Cond.instanceMethod ({ cls := "LeaseLand$Market", name := "lastYears", desc := "()I" } : Jvm.MethodName)) ∈ mj_tbl := mj_w 1034 (by decide +kernel) (by decide +kernel)
theorem tw982 : (Jvm.Cond.selects "LeaseLand$Market" ({ cls := "LeaseLand$Market", name := "lastYears", desc := "()I" } : Jvm.MethodName) ({ cls := "LeaseLand$Market", name := "lastYears", desc := "()I" } : Jvm.MethodName)) ∈ mj_tbl := mj_w 1035 (by decide +kernel) (by decide +kernel)
theorem ty_X5_lastYears : mj_YV 5 yX5_lastYears cX5_lastYears 1 (some .int) 0 := ⟨⟨tw983, tw8, by decide +kernel, by decide +kernel, by decide +kernel⟩, tw981, tw982, _, rfl, rfl⟩
def rm_X11_point : Room := { frames := 1, cells := 0, slots := 0, locals := 22 }
theorem dX11_point_0 : decode cX11_point 0 = .ok (.iload_n 1, 1) := by decide +kernel
theorem dX11_point_1 : decode cX11_point 1 = .ok (.iconst 1, 1) := by decide +kernel
theorem dX11_point_2 : decode cX11_point 2 = .ok (.if_icmp .lt 28, 3) := by decide +kernel
theorem dX11_point_5 : decode cX11_point 5 = .ok (.iload_n 1, 1) := by decide +kernel
theorem dX11_point_6 : decode cX11_point 6 = .ok (.sipush 200, 3) := by decide +kernel
theorem dX11_point_9 : decode cX11_point 9 = .ok (.if_icmp .gt 21, 3) := by decide +kernel
theorem dX11_point_12 : decode cX11_point 12 = .ok (.iload_n 2, 1) := by decide +kernel
theorem dX11_point_13 : decode cX11_point 13 = .ok (.invokestatic 313, 3) := by decide +kernel
theorem dX11_point_16 : decode cX11_point 16 = .ok (.ifCond .eq 14, 3) := by decide +kernel
theorem dX11_point_19 : decode cX11_point 19 = .ok (.iload_n 1, 1) := by decide +kernel
theorem dX11_point_20 : decode cX11_point 20 = .ok (.aload_n 0, 1) := by decide +kernel
theorem dX11_point_21 : decode cX11_point 21 = .ok (.getfield 40, 3) := by decide +kernel
theorem dX11_point_24 : decode cX11_point 24 = .ok (.invokevirtual 316, 3) := by decide +kernel
theorem dX11_point_27 : decode cX11_point 27 = .ok (.if_icmp .gt 6, 3) := by decide +kernel
theorem dX11_point_30 : decode cX11_point 30 = .ok (.bipush (-2), 2) := by decide +kernel
theorem dX11_point_32 : decode cX11_point 32 = .ok (.ireturn, 1) := by decide +kernel
theorem dX11_point_33 : decode cX11_point 33 = .ok (.aload_n 0, 1) := by decide +kernel
theorem dX11_point_34 : decode cX11_point 34 = .ok (.getfield 40, 3) := by decide +kernel
theorem dX11_point_37 : decode cX11_point 37 = .ok (.iload_n 1, 1) := by decide +kernel
theorem dX11_point_38 : decode cX11_point 38 = .ok (.iload_n 2, 1) := by decide +kernel
theorem dX11_point_39 : decode cX11_point 39 = .ok (.invokevirtual 319, 3) := by decide +kernel
theorem dX11_point_42 : decode cX11_point 42 = .ok (.ireturn, 1) := by decide +kernel
def vc_X11_point (l0 : Nat) (l1 : Int32) (l2 : Int32) (M : mj_M) (post : Int32 → mj_M → Prop) : Prop := if l1 < 1 then (post ((-2)) M) else (if 200 < l1 then (post ((-2)) M) else (vc_X11_isPartOfWhole l2 M (fun r3 M4 => if r3 = true then (mj_tag M4 l0 = 12 ∧ mj_tag M4 (mj_r M4 l0 4) = 6 ∧ vc_X5_lastYears (mj_r M4 l0 4) M4 (fun r8 M9 => if r8 < l1 then (mj_tag M9 l0 = 12 ∧ mj_tag M9 (mj_r M9 l0 4) = 6 ∧ vc_X5_addPoint (mj_r M9 l0 4) l1 l2 M9 (fun r13 M14 => post r13 M14)) else (post ((-2)) M9))) else (post ((-2)) M4))))
set_option maxHeartbeats 4000000 in
set_option maxRecDepth 100000 in
theorem ct_X11_point {l : Launch} {base : Nat} {D : va_G} {A : ClassId × ClassId × ClassId} (l0 : Nat) (l1 : Int32) (l2 : Int32) (M : mj_M) (post : Int32 → mj_M → Prop) (h : vc_X11_point l0 l1 l2 M post) : mj_Met l base D A mj_jI yX11_point cX11_point 3 (some .int) rm_X11_point 0 0 [vR l0, vI l1, vI l2] M post := by
  refine mj_entry (by decide +kernel) (Nat.le_of_ble_eq_true rfl) (fun g hC hE h1 h2 h3 h4 => ?_)
  show mj_X g 0 [(0, vR l0), (1, vI l1), (2, vI l2)] [] M 0 0
  simp only [vc_X11_point] at h
  refine mx_iload_n (j := 1) hC dX11_point_0 rfl rfl ?_
  refine mx_iconst (v := 1) hC dX11_point_1 (by decide) ?_
  refine mx_icmplt (tgt := 30) hC dX11_point_2 (by decide) (fun hc1 => ?_) (fun hc1 => ?_)
  · replace h := mj_yy hc1 h
    refine mx_bipush (v := (-2)) hC dX11_point_30 (by decide) ?_
    exact mx_iret hC hE rfl dX11_point_32 h
  · replace h := mj_nn hc1 h
    refine mx_iload_n (j := 1) hC dX11_point_5 rfl rfl ?_
    refine mx_sipush (v := 200) hC dX11_point_6 (by decide) ?_
    refine mx_icmpgt (tgt := 30) hC dX11_point_9 (by decide) (fun hc2 => ?_) (fun hc2 => ?_)
    · replace h := mj_yy hc2 h
      refine mx_bipush (v := (-2)) hC dX11_point_30 (by decide) ?_
      exact mx_iret hC hE rfl dX11_point_32 h
    · replace h := mj_nn hc2 h
      refine mx_iload_n (j := 2) hC dX11_point_12 rfl rfl ?_
      refine mx_callS (inj := mj_jB) (As := [vI l2]) (st := []) hC (ct_X11_isPartOfWhole l2 M _ h) ty_X11_isPartOfWhole tw977 rfl (Nat.le_of_ble_eq_true rfl) ⟨rfl, rfl, ⟨by decide, by decide⟩, by decide, by decide⟩ dX11_point_13 (fun r3 M4 h => ?_)
      show mj_X g 16 [(0, vR l0), (1, vI l1), (2, vI l2)] [vI (mj_b r3)] M4 0 0
      refine mx_ifeqB (tgt := 30) hC dX11_point_16 (by decide) (fun hc5 => ?_) (fun hc5 => ?_)
      · replace h := mj_nn hc5 h
        refine mx_bipush (v := (-2)) hC dX11_point_30 (by decide) ?_
        exact mx_iret hC hE rfl dX11_point_32 h
      · replace h := mj_yy hc5 h
        refine mx_iload_n (j := 1) hC dX11_point_19 rfl rfl ?_
        refine mx_aload_n (j := 0) hC dX11_point_20 rfl rfl ?_
        obtain ⟨ht6, h⟩ := h
        refine mx_get (v := vR (mj_r M4 l0 4)) hC tf_X11_40 ht6 rfl dX11_point_21 ?_
        obtain ⟨ht7, h⟩ := h
        refine mx_callV (inj := mj_jI) (As := []) (st := [vI l1]) hC (ct_X5_lastYears (mj_r M4 l0 4) M4 _ h) ty_X5_lastYears tw980 ht7 rfl (Nat.le_of_ble_eq_true rfl) ⟨rfl, rfl, ⟨by decide, by decide⟩, by decide, by decide⟩ dX11_point_24 (fun r8 M9 h => ?_)
        show mj_X g 27 [(0, vR l0), (1, vI l1), (2, vI l2)] [vI r8, vI l1] M9 0 0
        refine mx_icmpgt (tgt := 33) hC dX11_point_27 (by decide) (fun hc10 => ?_) (fun hc10 => ?_)
        · replace h := mj_yy hc10 h
          refine mx_aload_n (j := 0) hC dX11_point_33 rfl rfl ?_
          obtain ⟨ht11, h⟩ := h
          refine mx_get (v := vR (mj_r M9 l0 4)) hC tf_X11_40 ht11 rfl dX11_point_34 ?_
          refine mx_iload_n (j := 1) hC dX11_point_37 rfl rfl ?_
          refine mx_iload_n (j := 2) hC dX11_point_38 rfl rfl ?_
          obtain ⟨ht12, h⟩ := h
          refine mx_callV (inj := mj_jI) (As := [vI l1, vI l2]) (st := []) hC (ct_X5_addPoint (mj_r M9 l0 4) l1 l2 M9 _ h) ty_X5_addPoint tw984 ht12 rfl (Nat.le_of_ble_eq_true rfl) ⟨rfl, rfl, ⟨by decide, by decide⟩, by decide, by decide⟩ dX11_point_39 (fun r13 M14 h => ?_)
          show mj_X g 42 [(0, vR l0), (1, vI l1), (2, vI l2)] [vI r13] M14 0 0
          exact mx_iret hC hE rfl dX11_point_42 h
        · replace h := mj_nn hc10 h
          refine mx_bipush (v := (-2)) hC dX11_point_30 (by decide) ?_
          exact mx_iret hC hE rfl dX11_point_32 h
theorem tw164 : (Jvm.Cond.fieldLink "LeaseLand" (322 : Nat) "LeaseLand$Market" "count" "I") ∈ mj_tbl := mj_w 217 (by decide +kernel) (by decide +kernel)
theorem tf_X11_322 : mj_F 5 3 .int false "LeaseLand" 322 := ⟨_, tk5, by decide, rfl, rfl, rfl, tw164⟩
def rm_X11_blank : Room := { frames := 0, cells := 0, slots := 0, locals := 0 }
theorem dX11_blank_0 : decode cX11_blank 0 = .ok (.aload_n 0, 1) := by decide +kernel
theorem dX11_blank_1 : decode cX11_blank 1 = .ok (.getfield 40, 3) := by decide +kernel
theorem dX11_blank_4 : decode cX11_blank 4 = .ok (.getfield 322, 3) := by decide +kernel
theorem dX11_blank_7 : decode cX11_blank 7 = .ok (.istore_n 1, 1) := by decide +kernel
theorem dX11_blank_8 : decode cX11_blank 8 = .ok (.aload_n 0, 1) := by decide +kernel
theorem dX11_blank_9 : decode cX11_blank 9 = .ok (.getfield 40, 3) := by decide +kernel
theorem dX11_blank_12 : decode cX11_blank 12 = .ok (.iconst 0, 1) := by decide +kernel
theorem dX11_blank_13 : decode cX11_blank 13 = .ok (.putfield 322, 3) := by decide +kernel
theorem dX11_blank_16 : decode cX11_blank 16 = .ok (.iload_n 1, 1) := by decide +kernel
theorem dX11_blank_17 : decode cX11_blank 17 = .ok (.ireturn, 1) := by decide +kernel
def vc_X11_blank (l0 : Nat) (M : mj_M) (post : Int32 → mj_M → Prop) : Prop := mj_tag M l0 = 12 ∧ mj_tag M (mj_r M l0 4) = 6 ∧ post (mj_i M (mj_r M l0 4) 3) (mj_wi M (mj_r M l0 4) 3 0)
set_option maxHeartbeats 4000000 in
set_option maxRecDepth 100000 in
theorem ct_X11_blank {l : Launch} {base : Nat} {D : va_G} {A : ClassId × ClassId × ClassId} (l0 : Nat) (M : mj_M) (post : Int32 → mj_M → Prop) (h : vc_X11_blank l0 M post) : mj_Met l base D A mj_jI yX11_blank cX11_blank 2 (some .int) rm_X11_blank 0 0 [vR l0] M post := by
  refine mj_entry (by decide +kernel) (Nat.le_of_ble_eq_true rfl) (fun g hC hE h1 h2 h3 h4 => ?_)
  show mj_X g 0 [(0, vR l0)] [] M 0 0
  simp only [vc_X11_blank] at h
  refine mx_aload_n (j := 0) hC dX11_blank_0 rfl rfl ?_
  obtain ⟨ht1, h⟩ := h
  refine mx_get (v := vR (mj_r M l0 4)) hC tf_X11_40 ht1 rfl dX11_blank_1 ?_
  obtain ⟨ht2, h⟩ := h
  refine mx_get (v := vI (mj_i M (mj_r M l0 4) 3)) hC tf_X11_322 ht2 rfl dX11_blank_4 ?_
  refine mx_istore_n (L' := [(1, vI (mj_i M (mj_r M l0 4) 3)), (0, vR l0)]) hC dX11_blank_7 rfl (by decide) rfl ?_
  refine mx_aload_n (j := 1) hC dX11_blank_8 rfl rfl ?_
  refine mx_get (v := vR (mj_r M l0 4)) hC tf_X11_40 ht1 rfl dX11_blank_9 ?_
  refine mx_iconst (v := 0) hC dX11_blank_12 (by decide) ?_
  refine mx_put (v := vI 0) (M1 := mj_wi M (mj_r M l0 4) 3 0) hC tf_X11_322 ht2 (Or.inl rfl) ⟨rfl, rfl⟩ (mj_off_wi _ _ _ _) mj_put_wi dX11_blank_13 ?_
  refine mx_iload_n (j := 0) hC dX11_blank_16 rfl rfl ?_
  exact mx_iret hC hE rfl dX11_blank_17 h
def rm_X11_isYears : Room := { frames := 0, cells := 0, slots := 0, locals := 0 }
theorem dX11_isYears_0 : decode cX11_isYears 0 = .ok (.iload_n 0, 1) := by decide +kernel
theorem dX11_isYears_1 : decode cX11_isYears 1 = .ok (.ifCond .lt 14, 3) := by decide +kernel
theorem dX11_isYears_4 : decode cX11_isYears 4 = .ok (.iload_n 0, 1) := by decide +kernel
theorem dX11_isYears_5 : decode cX11_isYears 5 = .ok (.sipush 200, 3) := by decide +kernel
theorem dX11_isYears_8 : decode cX11_isYears 8 = .ok (.if_icmp .gt 7, 3) := by decide +kernel
theorem dX11_isYears_11 : decode cX11_isYears 11 = .ok (.iconst 1, 1) := by decide +kernel
theorem dX11_isYears_12 : decode cX11_isYears 12 = .ok (.goto 4, 3) := by decide +kernel
theorem dX11_isYears_15 : decode cX11_isYears 15 = .ok (.iconst 0, 1) := by decide +kernel
theorem dX11_isYears_16 : decode cX11_isYears 16 = .ok (.ireturn, 1) := by decide +kernel
def vc_X11_isYears (l0 : Int32) (M : mj_M) (post : Bool → mj_M → Prop) : Prop := if l0 < 0 then (post false M) else (if 200 < l0 then (post false M) else (post true M))
set_option maxHeartbeats 4000000 in
set_option maxRecDepth 100000 in
theorem ct_X11_isYears {l : Launch} {base : Nat} {D : va_G} {A : ClassId × ClassId × ClassId} (l0 : Int32) (M : mj_M) (post : Bool → mj_M → Prop) (h : vc_X11_isYears l0 M post) : mj_Met l base D A mj_jB yX11_isYears cX11_isYears 1 (some .boolean) rm_X11_isYears 0 0 [vI l0] M post := by
  refine mj_entry (by decide +kernel) (Nat.le_of_ble_eq_true rfl) (fun g hC hE h1 h2 h3 h4 => ?_)
  show mj_X g 0 [(0, vI l0)] [] M 0 0
  simp only [vc_X11_isYears] at h
  refine mx_iload_n (j := 0) hC dX11_isYears_0 rfl rfl ?_
  refine mx_iflt (tgt := 15) hC dX11_isYears_1 (by decide) (fun hc1 => ?_) (fun hc1 => ?_)
  · replace h := mj_yy hc1 h
    refine mx_iconst (v := 0) hC dX11_isYears_15 (by decide) ?_
    exact mx_zret (b := false) hC hE rfl dX11_isYears_16 h
  · replace h := mj_nn hc1 h
    refine mx_iload_n (j := 0) hC dX11_isYears_4 rfl rfl ?_
    refine mx_sipush (v := 200) hC dX11_isYears_5 (by decide) ?_
    refine mx_icmpgt (tgt := 15) hC dX11_isYears_8 (by decide) (fun hc2 => ?_) (fun hc2 => ?_)
    · replace h := mj_yy hc2 h
      refine mx_iconst (v := 0) hC dX11_isYears_15 (by decide) ?_
      exact mx_zret (b := false) hC hE rfl dX11_isYears_16 h
    · replace h := mj_nn hc2 h
      refine mx_iconst (v := 1) hC dX11_isYears_11 (by decide) ?_
      refine mx_goto (tgt := 16) hC dX11_isYears_12 (by decide) ?_
      exact mx_zret (b := true) hC hE rfl dX11_isYears_16 h
theorem tw996 : (Jvm.Cond.methodLink "LeaseLand" (323 : Nat) ({ cls := "LeaseLand", name := "isYears", desc := "(I)Z" } : Jvm.MethodName)) ∈ mj_tbl := mj_w 1049 (by decide +kernel) (by decide +kernel)
theorem tw999 : (Jvm.Cond.methodLink "LeaseLand" (326 : Nat) ({ cls := "LeaseLand$Market", name := "tableAt", desc := "(I)I" } : Jvm.MethodName)) ∈ mj_tbl := mj_w 1052 (by decide +kernel) (by decide +kernel)
theorem tw998 : (Jvm.Cond.code ({ cls := "LeaseLand", name := "isYears", desc := "(I)Z" } : Jvm.MethodName) prog_1_method_58_code (1 : Nat) (Option.some Jvm.ClassFile.FieldType.boolean)) ∈ mj_tbl := mj_w 1051 (by decide +kernel) (by decide +kernel)
theorem tw997 : (Jvm.Cond.static ({ cls := "LeaseLand", name := "isYears", desc := "(I)Z" } : Jvm.MethodName)) ∈ mj_tbl := mj_w 1050 (by decide +kernel) (by decide +kernel)
theorem ty_X11_isYears : mj_YS yX11_isYears cX11_isYears 1 (some .boolean) 1 := ⟨⟨tw998, tw1, by decide +kernel, by decide +kernel, by decide +kernel⟩, tw997⟩
def rm_X11_table : Room := { frames := 1, cells := 0, slots := 0, locals := 25 }
theorem dX11_table_0 : decode cX11_table 0 = .ok (.iload_n 1, 1) := by decide +kernel
theorem dX11_table_1 : decode cX11_table 1 = .ok (.invokestatic 323, 3) := by decide +kernel
theorem dX11_table_4 : decode cX11_table 4 = .ok (.ifCond .eq 14, 3) := by decide +kernel
theorem dX11_table_7 : decode cX11_table 7 = .ok (.aload_n 0, 1) := by decide +kernel
theorem dX11_table_8 : decode cX11_table 8 = .ok (.getfield 40, 3) := by decide +kernel
theorem dX11_table_11 : decode cX11_table 11 = .ok (.iload_n 1, 1) := by decide +kernel
theorem dX11_table_12 : decode cX11_table 12 = .ok (.invokevirtual 326, 3) := by decide +kernel
theorem dX11_table_15 : decode cX11_table 15 = .ok (.goto 5, 3) := by decide +kernel
theorem dX11_table_18 : decode cX11_table 18 = .ok (.bipush (-2), 2) := by decide +kernel
theorem dX11_table_20 : decode cX11_table 20 = .ok (.ireturn, 1) := by decide +kernel
def vc_X11_table (l0 : Nat) (l1 : Int32) (M : mj_M) (post : Int32 → mj_M → Prop) : Prop := vc_X11_isYears l1 M (fun r1 M2 => if r1 = true then (mj_tag M2 l0 = 12 ∧ mj_tag M2 (mj_r M2 l0 4) = 6 ∧ vc_X5_tableAt (mj_r M2 l0 4) l1 M2 (fun r6 M7 => post r6 M7)) else (post ((-2)) M2))
set_option maxHeartbeats 4000000 in
set_option maxRecDepth 100000 in
theorem ct_X11_table {l : Launch} {base : Nat} {D : va_G} {A : ClassId × ClassId × ClassId} (l0 : Nat) (l1 : Int32) (M : mj_M) (post : Int32 → mj_M → Prop) (h : vc_X11_table l0 l1 M post) : mj_Met l base D A mj_jI yX11_table cX11_table 2 (some .int) rm_X11_table 0 0 [vR l0, vI l1] M post := by
  refine mj_entry (by decide +kernel) (Nat.le_of_ble_eq_true rfl) (fun g hC hE h1 h2 h3 h4 => ?_)
  show mj_X g 0 [(0, vR l0), (1, vI l1)] [] M 0 0
  simp only [vc_X11_table] at h
  refine mx_iload_n (j := 1) hC dX11_table_0 rfl rfl ?_
  refine mx_callS (inj := mj_jB) (As := [vI l1]) (st := []) hC (ct_X11_isYears l1 M _ h) ty_X11_isYears tw996 rfl (Nat.le_of_ble_eq_true rfl) ⟨rfl, rfl, ⟨by decide, by decide⟩, by decide, by decide⟩ dX11_table_1 (fun r1 M2 h => ?_)
  show mj_X g 4 [(0, vR l0), (1, vI l1)] [vI (mj_b r1)] M2 0 0
  refine mx_ifeqB (tgt := 18) hC dX11_table_4 (by decide) (fun hc3 => ?_) (fun hc3 => ?_)
  · replace h := mj_nn hc3 h
    refine mx_bipush (v := (-2)) hC dX11_table_18 (by decide) ?_
    exact mx_iret hC hE rfl dX11_table_20 h
  · replace h := mj_yy hc3 h
    refine mx_aload_n (j := 0) hC dX11_table_7 rfl rfl ?_
    obtain ⟨ht4, h⟩ := h
    refine mx_get (v := vR (mj_r M2 l0 4)) hC tf_X11_40 ht4 rfl dX11_table_8 ?_
    refine mx_iload_n (j := 1) hC dX11_table_11 rfl rfl ?_
    obtain ⟨ht5, h⟩ := h
    refine mx_callV (inj := mj_jI) (As := [vI l1]) (st := []) hC (ct_X5_tableAt (mj_r M2 l0 4) l1 M2 _ h) ty_X5_tableAt tw999 ht5 rfl (Nat.le_of_ble_eq_true rfl) ⟨rfl, rfl, ⟨by decide, by decide⟩, by decide, by decide⟩ dX11_table_12 (fun r6 M7 h => ?_)
    show mj_X g 15 [(0, vR l0), (1, vI l1)] [vI r6] M7 0 0
    refine mx_goto (tgt := 20) hC dX11_table_15 (by decide) ?_
    exact mx_iret hC hE rfl dX11_table_20 h
theorem tw1007 : (Jvm.Cond.methodLink "LeaseLand" (329 : Nat) ({ cls := "LeaseLand$Market", name := "worthNow", desc := "(LLeaseLand$Holding;I)J" } : Jvm.MethodName)) ∈ mj_tbl := mj_w 1060 (by decide +kernel) (by decide +kernel)
def rm_X11_worth : Room := { frames := 3, cells := 0, slots := 0, locals := 69 }
theorem dX11_worth_0 : decode cX11_worth 0 = .ok (.aload_n 0, 1) := by decide +kernel
theorem dX11_worth_1 : decode cX11_worth 1 = .ok (.getfield 10, 3) := by decide +kernel
theorem dX11_worth_4 : decode cX11_worth 4 = .ok (.iload_n 1, 1) := by decide +kernel
theorem dX11_worth_5 : decode cX11_worth 5 = .ok (.invokevirtual 93, 3) := by decide +kernel
theorem dX11_worth_8 : decode cX11_worth 8 = .ok (.astore_n 2, 1) := by decide +kernel
theorem dX11_worth_9 : decode cX11_worth 9 = .ok (.aload_n 2, 1) := by decide +kernel
theorem dX11_worth_10 : decode cX11_worth 10 = .ok (.ifnonnull 5, 3) := by decide +kernel
theorem dX11_worth_13 : decode cX11_worth 13 = .ok (.iconst (-1), 1) := by decide +kernel
theorem dX11_worth_14 : decode cX11_worth 14 = .ok (.ireturn, 1) := by decide +kernel
theorem dX11_worth_15 : decode cX11_worth 15 = .ok (.aload_n 0, 1) := by decide +kernel
theorem dX11_worth_16 : decode cX11_worth 16 = .ok (.getfield 10, 3) := by decide +kernel
theorem dX11_worth_19 : decode cX11_worth 19 = .ok (.aload_n 2, 1) := by decide +kernel
theorem dX11_worth_20 : decode cX11_worth 20 = .ok (.invokevirtual 111, 3) := by decide +kernel
theorem dX11_worth_23 : decode cX11_worth 23 = .ok (.ifCond .eq 22, 3) := by decide +kernel
theorem dX11_worth_26 : decode cX11_worth 26 = .ok (.aload_n 0, 1) := by decide +kernel
theorem dX11_worth_27 : decode cX11_worth 27 = .ok (.getfield 40, 3) := by decide +kernel
theorem dX11_worth_30 : decode cX11_worth 30 = .ok (.aload_n 2, 1) := by decide +kernel
theorem dX11_worth_31 : decode cX11_worth 31 = .ok (.aload_n 0, 1) := by decide +kernel
theorem dX11_worth_32 : decode cX11_worth 32 = .ok (.getfield 10, 3) := by decide +kernel
theorem dX11_worth_35 : decode cX11_worth 35 = .ok (.getfield 66, 3) := by decide +kernel
theorem dX11_worth_38 : decode cX11_worth 38 = .ok (.invokevirtual 329, 3) := by decide +kernel
theorem dX11_worth_41 : decode cX11_worth 41 = .ok (.l2i, 1) := by decide +kernel
theorem dX11_worth_42 : decode cX11_worth 42 = .ok (.goto 5, 3) := by decide +kernel
theorem dX11_worth_45 : decode cX11_worth 45 = .ok (.bipush (-3), 2) := by decide +kernel
theorem dX11_worth_47 : decode cX11_worth 47 = .ok (.ireturn, 1) := by decide +kernel
def vc_X11_worth (l0 : Nat) (l1 : Int32) (M : mj_M) (post : Int32 → mj_M → Prop) : Prop := mj_tag M l0 = 12 ∧ mj_tag M (mj_r M l0 0) = 5 ∧ vc_X4_find (mj_r M l0 0) l1 M (fun r3 M4 => if r3 = 0 then (post ((-1)) M4) else (mj_tag M4 l0 = 12 ∧ mj_tag M4 (mj_r M4 l0 0) = 5 ∧ vc_X4_isInForce (mj_r M4 l0 0) r3 M4 (fun r8 M9 => if r8 = true then (mj_tag M9 l0 = 12 ∧ mj_tag M9 (mj_r M9 l0 0) = 5 ∧ mj_tag M9 (mj_r M9 l0 4) = 6 ∧ vc_X5_worthNow (mj_r M9 l0 4) r3 (mj_i M9 (mj_r M9 l0 0) 0) M9 (fun r14 M15 => post ((r14 : Int64).toInt32) M15)) else (post ((-3)) M9))))
set_option maxHeartbeats 4000000 in
set_option maxRecDepth 100000 in
theorem ct_X11_worth {l : Launch} {base : Nat} {D : va_G} {A : ClassId × ClassId × ClassId} (l0 : Nat) (l1 : Int32) (M : mj_M) (post : Int32 → mj_M → Prop) (h : vc_X11_worth l0 l1 M post) : mj_Met l base D A mj_jI yX11_worth cX11_worth 3 (some .int) rm_X11_worth 0 0 [vR l0, vI l1] M post := by
  refine mj_entry (by decide +kernel) (Nat.le_of_ble_eq_true rfl) (fun g hC hE h1 h2 h3 h4 => ?_)
  show mj_X g 0 [(0, vR l0), (1, vI l1)] [] M 0 0
  simp only [vc_X11_worth] at h
  refine mx_aload_n (j := 0) hC dX11_worth_0 rfl rfl ?_
  obtain ⟨ht1, h⟩ := h
  refine mx_get (v := vR (mj_r M l0 0)) hC tf_X11_10 ht1 rfl dX11_worth_1 ?_
  refine mx_iload_n (j := 1) hC dX11_worth_4 rfl rfl ?_
  obtain ⟨ht2, h⟩ := h
  refine mx_callV (inj := mj_jR) (As := [vI l1]) (st := []) hC (ct_X4_find (mj_r M l0 0) l1 M _ h) ty_X4_find tw397 ht2 rfl (Nat.le_of_ble_eq_true rfl) ⟨rfl, rfl, ⟨by decide, by decide⟩, by decide, by decide⟩ dX11_worth_5 (fun r3 M4 h => ?_)
  show mj_X g 8 [(0, vR l0), (1, vI l1)] [vR r3] M4 0 0
  refine mx_astore_n (L' := [(2, vR r3), (0, vR l0), (1, vI l1)]) hC dX11_worth_8 rfl (by decide) rfl ?_
  refine mx_aload_n (j := 0) hC dX11_worth_9 rfl rfl ?_
  refine mx_ifnonnull (tgt := 15) hC dX11_worth_10 (by decide) (fun hc5 => ?_) (fun hc5 => ?_)
  · replace h := mj_nn hc5 h
    refine mx_aload_n (j := 1) hC dX11_worth_15 rfl rfl ?_
    obtain ⟨ht6, h⟩ := h
    refine mx_get (v := vR (mj_r M4 l0 0)) hC tf_X11_10 ht6 rfl dX11_worth_16 ?_
    refine mx_aload_n (j := 0) hC dX11_worth_19 rfl rfl ?_
    obtain ⟨ht7, h⟩ := h
    refine mx_callV (inj := mj_jB) (As := [vR r3]) (st := []) hC (ct_X4_isInForce (mj_r M4 l0 0) r3 M4 _ h) ty_X4_isInForce tw458 ht7 rfl (Nat.le_of_ble_eq_true rfl) ⟨rfl, rfl, ⟨by decide, by decide⟩, by decide, by decide⟩ dX11_worth_20 (fun r8 M9 h => ?_)
    show mj_X g 23 [(2, vR r3), (0, vR l0), (1, vI l1)] [vI (mj_b r8)] M9 0 0
    refine mx_ifeqB (tgt := 45) hC dX11_worth_23 (by decide) (fun hc10 => ?_) (fun hc10 => ?_)
    · replace h := mj_nn hc10 h
      refine mx_bipush (v := (-3)) hC dX11_worth_45 (by decide) ?_
      exact mx_iret hC hE rfl dX11_worth_47 h
    · replace h := mj_yy hc10 h
      refine mx_aload_n (j := 1) hC dX11_worth_26 rfl rfl ?_
      obtain ⟨ht11, h⟩ := h
      refine mx_get (v := vR (mj_r M9 l0 4)) hC tf_X11_40 ht11 rfl dX11_worth_27 ?_
      refine mx_aload_n (j := 0) hC dX11_worth_30 rfl rfl ?_
      refine mx_aload_n (j := 1) hC dX11_worth_31 rfl rfl ?_
      refine mx_get (v := vR (mj_r M9 l0 0)) hC tf_X11_10 ht11 rfl dX11_worth_32 ?_
      obtain ⟨ht12, h⟩ := h
      refine mx_get (v := vI (mj_i M9 (mj_r M9 l0 0) 0)) hC tf_X11_66 ht12 rfl dX11_worth_35 ?_
      obtain ⟨ht13, h⟩ := h
      refine mx_callV (inj := mj_jL) (As := [vR r3, vI (mj_i M9 (mj_r M9 l0 0) 0)]) (st := []) hC (ct_X5_worthNow (mj_r M9 l0 4) r3 (mj_i M9 (mj_r M9 l0 0) 0) M9 _ h) ty_X5_worthNow tw1007 ht13 rfl (Nat.le_of_ble_eq_true rfl) ⟨rfl, rfl, ⟨by decide, by decide⟩, by decide, by decide⟩ dX11_worth_38 (fun r14 M15 h => ?_)
      show mj_X g 41 [(2, vR r3), (0, vR l0), (1, vI l1)] [vL r14] M15 0 0
      refine mx_l2i hC dX11_worth_41 ?_
      refine mx_goto (tgt := 47) hC dX11_worth_42 (by decide) ?_
      exact mx_iret hC hE rfl dX11_worth_47 h
  · replace h := mj_yy hc5 h
    refine mx_iconst (v := (-1)) hC dX11_worth_13 (by decide) ?_
    exact mx_iret hC hE rfl dX11_worth_14 h
theorem tw1030 : (Jvm.Cond.methodLink "LeaseLand" (333 : Nat) ({ cls := "LeaseLand$Sales", name := "add", desc := "(II)I" } : Jvm.MethodName)) ∈ mj_tbl := mj_w 1083 (by decide +kernel) (by decide +kernel)
theorem tw1033 : (Jvm.Cond.code ({ cls := "LeaseLand$Sales", name := "add", desc := "(II)I" } : Jvm.MethodName) prog_12_method_2_code (3 : Nat) (Option.some Jvm.ClassFile.FieldType.int)) ∈ mj_tbl := mj_w 1086 (by decide +kernel) (by decide +kernel)
theorem tw1031 : (Jvm.Cond.instanceMethod ({ cls := "LeaseLand$Sales", name := "add", desc := "(II)I" } : Jvm.MethodName)) ∈ mj_tbl := mj_w 1084 (by decide +kernel) (by decide +kernel)
theorem tw1032 : (Jvm.Cond.selects "LeaseLand$Sales" ({ cls := "LeaseLand$Sales", name := "add", desc := "(II)I" } : Jvm.MethodName) ({ cls := "LeaseLand$Sales", name := "add", desc := "(II)I" } : Jvm.MethodName)) ∈ mj_tbl := mj_w 1085 (by decide +kernel) (by decide +kernel)
theorem ty_X10_add : mj_YV 10 yX10_add cX10_add 3 (some .int) 2 := ⟨⟨tw1033, tw9, by decide +kernel, by decide +kernel, by decide +kernel⟩, tw1031, tw1032, _, rfl, rfl⟩
def rm_X11_sale : Room := { frames := 1, cells := 0, slots := 0, locals := 22 }
theorem dX11_sale_0 : decode cX11_sale 0 = .ok (.iload_n 1, 1) := by decide +kernel
theorem dX11_sale_1 : decode cX11_sale 1 = .ok (.invokestatic 323, 3) := by decide +kernel
theorem dX11_sale_4 : decode cX11_sale 4 = .ok (.ifCond .eq 22, 3) := by decide +kernel
theorem dX11_sale_7 : decode cX11_sale 7 = .ok (.iload_n 2, 1) := by decide +kernel
theorem dX11_sale_8 : decode cX11_sale 8 = .ok (.invokestatic 313, 3) := by decide +kernel
theorem dX11_sale_11 : decode cX11_sale 11 = .ok (.ifCond .eq 15, 3) := by decide +kernel
theorem dX11_sale_14 : decode cX11_sale 14 = .ok (.aload_n 0, 1) := by decide +kernel
theorem dX11_sale_15 : decode cX11_sale 15 = .ok (.getfield 47, 3) := by decide +kernel
theorem dX11_sale_18 : decode cX11_sale 18 = .ok (.iload_n 1, 1) := by decide +kernel
theorem dX11_sale_19 : decode cX11_sale 19 = .ok (.iload_n 2, 1) := by decide +kernel
theorem dX11_sale_20 : decode cX11_sale 20 = .ok (.invokevirtual 333, 3) := by decide +kernel
theorem dX11_sale_23 : decode cX11_sale 23 = .ok (.goto 5, 3) := by decide +kernel
theorem dX11_sale_26 : decode cX11_sale 26 = .ok (.bipush (-2), 2) := by decide +kernel
theorem dX11_sale_28 : decode cX11_sale 28 = .ok (.ireturn, 1) := by decide +kernel
def vc_X11_sale (l0 : Nat) (l1 : Int32) (l2 : Int32) (M : mj_M) (post : Int32 → mj_M → Prop) : Prop := vc_X11_isYears l1 M (fun r1 M2 => if r1 = true then (vc_X11_isPartOfWhole l2 M2 (fun r4 M5 => if r4 = true then (mj_tag M5 l0 = 12 ∧ mj_tag M5 (mj_r M5 l0 5) = 11 ∧ vc_X10_add (mj_r M5 l0 5) l1 l2 M5 (fun r9 M10 => post r9 M10)) else (post ((-2)) M5))) else (post ((-2)) M2))
set_option maxHeartbeats 4000000 in
set_option maxRecDepth 100000 in
theorem ct_X11_sale {l : Launch} {base : Nat} {D : va_G} {A : ClassId × ClassId × ClassId} (l0 : Nat) (l1 : Int32) (l2 : Int32) (M : mj_M) (post : Int32 → mj_M → Prop) (h : vc_X11_sale l0 l1 l2 M post) : mj_Met l base D A mj_jI yX11_sale cX11_sale 3 (some .int) rm_X11_sale 0 0 [vR l0, vI l1, vI l2] M post := by
  refine mj_entry (by decide +kernel) (Nat.le_of_ble_eq_true rfl) (fun g hC hE h1 h2 h3 h4 => ?_)
  show mj_X g 0 [(0, vR l0), (1, vI l1), (2, vI l2)] [] M 0 0
  simp only [vc_X11_sale] at h
  refine mx_iload_n (j := 1) hC dX11_sale_0 rfl rfl ?_
  refine mx_callS (inj := mj_jB) (As := [vI l1]) (st := []) hC (ct_X11_isYears l1 M _ h) ty_X11_isYears tw996 rfl (Nat.le_of_ble_eq_true rfl) ⟨rfl, rfl, ⟨by decide, by decide⟩, by decide, by decide⟩ dX11_sale_1 (fun r1 M2 h => ?_)
  show mj_X g 4 [(0, vR l0), (1, vI l1), (2, vI l2)] [vI (mj_b r1)] M2 0 0
  refine mx_ifeqB (tgt := 26) hC dX11_sale_4 (by decide) (fun hc3 => ?_) (fun hc3 => ?_)
  · replace h := mj_nn hc3 h
    refine mx_bipush (v := (-2)) hC dX11_sale_26 (by decide) ?_
    exact mx_iret hC hE rfl dX11_sale_28 h
  · replace h := mj_yy hc3 h
    refine mx_iload_n (j := 2) hC dX11_sale_7 rfl rfl ?_
    refine mx_callS (inj := mj_jB) (As := [vI l2]) (st := []) hC (ct_X11_isPartOfWhole l2 M2 _ h) ty_X11_isPartOfWhole tw977 rfl (Nat.le_of_ble_eq_true rfl) ⟨rfl, rfl, ⟨by decide, by decide⟩, by decide, by decide⟩ dX11_sale_8 (fun r4 M5 h => ?_)
    show mj_X g 11 [(0, vR l0), (1, vI l1), (2, vI l2)] [vI (mj_b r4)] M5 0 0
    refine mx_ifeqB (tgt := 26) hC dX11_sale_11 (by decide) (fun hc6 => ?_) (fun hc6 => ?_)
    · replace h := mj_nn hc6 h
      refine mx_bipush (v := (-2)) hC dX11_sale_26 (by decide) ?_
      exact mx_iret hC hE rfl dX11_sale_28 h
    · replace h := mj_yy hc6 h
      refine mx_aload_n (j := 0) hC dX11_sale_14 rfl rfl ?_
      obtain ⟨ht7, h⟩ := h
      refine mx_get (v := vR (mj_r M5 l0 5)) hC tf_X11_47 ht7 rfl dX11_sale_15 ?_
      refine mx_iload_n (j := 1) hC dX11_sale_18 rfl rfl ?_
      refine mx_iload_n (j := 2) hC dX11_sale_19 rfl rfl ?_
      obtain ⟨ht8, h⟩ := h
      refine mx_callV (inj := mj_jI) (As := [vI l1, vI l2]) (st := []) hC (ct_X10_add (mj_r M5 l0 5) l1 l2 M5 _ h) ty_X10_add tw1030 ht8 rfl (Nat.le_of_ble_eq_true rfl) ⟨rfl, rfl, ⟨by decide, by decide⟩, by decide, by decide⟩ dX11_sale_20 (fun r9 M10 h => ?_)
      show mj_X g 23 [(0, vR l0), (1, vI l1), (2, vI l2)] [vI r9] M10 0 0
      refine mx_goto (tgt := 28) hC dX11_sale_23 (by decide) ?_
      exact mx_iret hC hE rfl dX11_sale_28 h
theorem tw206 : (Jvm.Cond.fieldLink "LeaseLand" (335 : Nat) "LeaseLand$Sales" "count" "I") ∈ mj_tbl := mj_w 259 (by decide +kernel) (by decide +kernel)
theorem tf_X11_335 : mj_F 10 2 .int false "LeaseLand" 335 := ⟨_, tk10, by decide, rfl, rfl, rfl, tw206⟩
theorem tw1038 : (Jvm.Cond.methodLink "LeaseLand" (336 : Nat) ({ cls := "LeaseLand$Sales", name := "learn", desc := "(I)Z" } : Jvm.MethodName)) ∈ mj_tbl := mj_w 1091 (by decide +kernel) (by decide +kernel)
theorem tw1042 : (Jvm.Cond.methodLink "LeaseLand" (339 : Nat) ({ cls := "LeaseLand$Sales", name := "upperAt", desc := "(I)J" } : Jvm.MethodName)) ∈ mj_tbl := mj_w 1095 (by decide +kernel) (by decide +kernel)
theorem tw1046 : (Jvm.Cond.methodLink "LeaseLand" (342 : Nat) ({ cls := "LeaseLand$Sales", name := "lowest", desc := "(JI)J" } : Jvm.MethodName)) ∈ mj_tbl := mj_w 1099 (by decide +kernel) (by decide +kernel)
theorem tw1041 : (Jvm.Cond.code ({ cls := "LeaseLand$Sales", name := "learn", desc := "(I)Z" } : Jvm.MethodName) prog_12_method_3_code (7 : Nat) (Option.some Jvm.ClassFile.FieldType.boolean)) ∈ mj_tbl := mj_w 1094 (by decide +kernel) (by decide +kernel)
theorem tw1039 : (Jvm.Cond.instanceMethod ({ cls := "LeaseLand$Sales", name := "learn", desc := "(I)Z" } : Jvm.MethodName)) ∈ mj_tbl := mj_w 1092 (by decide +kernel) (by decide +kernel)
theorem tw1040 : (Jvm.Cond.selects "LeaseLand$Sales" ({ cls := "LeaseLand$Sales", name := "learn", desc := "(I)Z" } : Jvm.MethodName) ({ cls := "LeaseLand$Sales", name := "learn", desc := "(I)Z" } : Jvm.MethodName)) ∈ mj_tbl := mj_w 1093 (by decide +kernel) (by decide +kernel)
theorem ty_X10_learn : mj_YV 10 yX10_learn cX10_learn 7 (some .boolean) 1 := ⟨⟨tw1041, tw9, by decide +kernel, by decide +kernel, by decide +kernel⟩, tw1039, tw1040, _, rfl, rfl⟩
theorem tw1049 : (Jvm.Cond.code ({ cls := "LeaseLand$Sales", name := "lowest", desc := "(JI)J" } : Jvm.MethodName) prog_12_method_7_code (6 : Nat) (Option.some Jvm.ClassFile.FieldType.long)) ∈ mj_tbl := mj_w 1102 (by decide +kernel) (by decide +kernel)
theorem tw1047 : (Jvm.Cond.instanceMethod ({ cls := "LeaseLand$Sales", name := "lowest", desc := "(JI)J" } : Jvm.MethodName)) ∈ mj_tbl := mj_w 1100 (by decide +kernel) (by decide +kernel)
theorem tw1048 : (Jvm.Cond.selects "LeaseLand$Sales" ({ cls := "LeaseLand$Sales", name := "lowest", desc := "(JI)J" } : Jvm.MethodName) ({ cls := "LeaseLand$Sales", name := "lowest", desc := "(JI)J" } : Jvm.MethodName)) ∈ mj_tbl := mj_w 1101 (by decide +kernel) (by decide +kernel)
theorem ty_X10_lowest : mj_YV 10 yX10_lowest cX10_lowest 6 (some .long) 2 := ⟨⟨tw1049, tw9, by decide +kernel, by decide +kernel, by decide +kernel⟩, tw1047, tw1048, _, rfl, rfl⟩
def rm_X11_learned : Room := { frames := 2, cells := 0, slots := 0, locals := 56 }
theorem dX11_learned_0 : decode cX11_learned 0 = .ok (.iload_n 2, 1) := by decide +kernel
theorem dX11_learned_1 : decode cX11_learned 1 = .ok (.iconst (-1), 1) := by decide +kernel
theorem dX11_learned_2 : decode cX11_learned 2 = .ok (.if_icmp .lt 14, 3) := by decide +kernel
theorem dX11_learned_5 : decode cX11_learned 5 = .ok (.iload_n 2, 1) := by decide +kernel
theorem dX11_learned_6 : decode cX11_learned 6 = .ok (.aload_n 0, 1) := by decide +kernel
theorem dX11_learned_7 : decode cX11_learned 7 = .ok (.getfield 47, 3) := by decide +kernel
theorem dX11_learned_10 : decode cX11_learned 10 = .ok (.getfield 335, 3) := by decide +kernel
theorem dX11_learned_13 : decode cX11_learned 13 = .ok (.if_icmp .lt 8, 3) := by decide +kernel
theorem dX11_learned_16 : decode cX11_learned 16 = .ok (.iconst (-1), 1) := by decide +kernel
theorem dX11_learned_17 : decode cX11_learned 17 = .ok (.invokestatic 190, 3) := by decide +kernel
theorem dX11_learned_20 : decode cX11_learned 20 = .ok (.lreturn, 1) := by decide +kernel
theorem dX11_learned_21 : decode cX11_learned 21 = .ok (.iload_n 1, 1) := by decide +kernel
theorem dX11_learned_22 : decode cX11_learned 22 = .ok (.invokestatic 323, 3) := by decide +kernel
theorem dX11_learned_25 : decode cX11_learned 25 = .ok (.ifCond .eq 12, 3) := by decide +kernel
theorem dX11_learned_28 : decode cX11_learned 28 = .ok (.iload_n 3, 1) := by decide +kernel
theorem dX11_learned_29 : decode cX11_learned 29 = .ok (.ifCond .eq 14, 3) := by decide +kernel
theorem dX11_learned_32 : decode cX11_learned 32 = .ok (.iload_n 3, 1) := by decide +kernel
theorem dX11_learned_33 : decode cX11_learned 33 = .ok (.iconst 1, 1) := by decide +kernel
theorem dX11_learned_34 : decode cX11_learned 34 = .ok (.if_icmp .eq 9, 3) := by decide +kernel
theorem dX11_learned_37 : decode cX11_learned 37 = .ok (.bipush (-2), 2) := by decide +kernel
theorem dX11_learned_39 : decode cX11_learned 39 = .ok (.invokestatic 190, 3) := by decide +kernel
theorem dX11_learned_42 : decode cX11_learned 42 = .ok (.lreturn, 1) := by decide +kernel
theorem dX11_learned_43 : decode cX11_learned 43 = .ok (.aload_n 0, 1) := by decide +kernel
theorem dX11_learned_44 : decode cX11_learned 44 = .ok (.getfield 47, 3) := by decide +kernel
theorem dX11_learned_47 : decode cX11_learned 47 = .ok (.iload_n 2, 1) := by decide +kernel
theorem dX11_learned_48 : decode cX11_learned 48 = .ok (.invokevirtual 336, 3) := by decide +kernel
theorem dX11_learned_51 : decode cX11_learned 51 = .ok (.ifCond .ne 9, 3) := by decide +kernel
theorem dX11_learned_54 : decode cX11_learned 54 = .ok (.bipush (-3), 2) := by decide +kernel
theorem dX11_learned_56 : decode cX11_learned 56 = .ok (.invokestatic 190, 3) := by decide +kernel
theorem dX11_learned_59 : decode cX11_learned 59 = .ok (.lreturn, 1) := by decide +kernel
theorem dX11_learned_60 : decode cX11_learned 60 = .ok (.aload_n 0, 1) := by decide +kernel
theorem dX11_learned_61 : decode cX11_learned 61 = .ok (.getfield 47, 3) := by decide +kernel
theorem dX11_learned_64 : decode cX11_learned 64 = .ok (.aload_n 0, 1) := by decide +kernel
theorem dX11_learned_65 : decode cX11_learned 65 = .ok (.getfield 47, 3) := by decide +kernel
theorem dX11_learned_68 : decode cX11_learned 68 = .ok (.iload_n 1, 1) := by decide +kernel
theorem dX11_learned_69 : decode cX11_learned 69 = .ok (.invokevirtual 339, 3) := by decide +kernel
theorem dX11_learned_72 : decode cX11_learned 72 = .ok (.iload_n 3, 1) := by decide +kernel
theorem dX11_learned_73 : decode cX11_learned 73 = .ok (.invokevirtual 342, 3) := by decide +kernel
theorem dX11_learned_76 : decode cX11_learned 76 = .ok (.lreturn, 1) := by decide +kernel
def vb_X11_learned_16 (post : Int64 → mj_M → Prop) (M : mj_M) : Prop := vc_X11_lost ((-1)) M (fun r1 M2 => post r1 M2)
def vb_X11_learned_37 (post : Int64 → mj_M → Prop) (M : mj_M) : Prop := vc_X11_lost ((-2)) M (fun r3 M4 => post r3 M4)
def vb_X11_learned_43 (post : Int64 → mj_M → Prop) (l0 : Nat) (l1 : Int32) (l2 : Int32) (l3 : Int32) (M : mj_M) : Prop := mj_tag M l0 = 12 ∧ mj_tag M (mj_r M l0 5) = 11 ∧ vc_X10_learn (mj_r M l0 5) l2 M (fun r7 M8 => if r7 = true then (mj_tag M8 l0 = 12 ∧ mj_tag M8 (mj_r M8 l0 5) = 11 ∧ vc_X10_upperAt (mj_r M8 l0 5) l1 M8 (fun r12 M13 => mj_tag M13 (mj_r M8 l0 5) = 11 ∧ vc_X10_lowest (mj_r M8 l0 5) r12 l3 M13 (fun r15 M16 => post r15 M16))) else (vc_X11_lost ((-3)) M8 (fun r17 M18 => post r17 M18)))
def vc_X11_learned (l0 : Nat) (l1 : Int32) (l2 : Int32) (l3 : Int32) (M : mj_M) (post : Int64 → mj_M → Prop) : Prop := if l2 < ((-1)) then (vb_X11_learned_16 post M) else (mj_tag M l0 = 12 ∧ mj_tag M (mj_r M l0 5) = 11 ∧ if l2 < (mj_i M (mj_r M l0 5) 2) then (vc_X11_isYears l1 M (fun r23 M24 => if r23 = true then (if l3 = 0 then (vb_X11_learned_43 post l0 l1 l2 l3 M24) else (if l3 = 1 then (vb_X11_learned_43 post l0 l1 l2 l3 M24) else (vb_X11_learned_37 post M24))) else (vb_X11_learned_37 post M24))) else (vb_X11_learned_16 post M))
set_option maxHeartbeats 4000000 in
set_option maxRecDepth 100000 in
theorem xb_X11_learned_16 {g : mj_G} {post : Int64 → mj_M → Prop} (hC : mj_C g yX11_learned cX11_learned 4 (some .long) rm_X11_learned) (hE : mj_E g mj_jL post 0 0) (M : mj_M) (h : vb_X11_learned_16 post M) : mj_X g 16 [] [] M 0 0 := by
  simp only [vb_X11_learned_16] at h
  refine mx_iconst (v := (-1)) hC dX11_learned_16 (by decide) ?_
  refine mx_callS (inj := mj_jL) (As := [vI ((-1))]) (st := []) hC (ct_X11_lost ((-1)) M _ h) ty_X11_lost tw548 rfl (Nat.le_of_ble_eq_true rfl) ⟨rfl, rfl, ⟨by decide, by decide⟩, by decide, by decide⟩ dX11_learned_17 (fun r1 M2 h => ?_)
  show mj_X g 20 [] [vL r1] M2 0 0
  exact mx_lret hC hE rfl dX11_learned_20 h
set_option maxHeartbeats 4000000 in
set_option maxRecDepth 100000 in
theorem xb_X11_learned_37 {g : mj_G} {post : Int64 → mj_M → Prop} (hC : mj_C g yX11_learned cX11_learned 4 (some .long) rm_X11_learned) (hE : mj_E g mj_jL post 0 0) (M : mj_M) (h : vb_X11_learned_37 post M) : mj_X g 37 [] [] M 0 0 := by
  simp only [vb_X11_learned_37] at h
  refine mx_bipush (v := (-2)) hC dX11_learned_37 (by decide) ?_
  refine mx_callS (inj := mj_jL) (As := [vI ((-2))]) (st := []) hC (ct_X11_lost ((-2)) M _ h) ty_X11_lost tw548 rfl (Nat.le_of_ble_eq_true rfl) ⟨rfl, rfl, ⟨by decide, by decide⟩, by decide, by decide⟩ dX11_learned_39 (fun r3 M4 h => ?_)
  show mj_X g 42 [] [vL r3] M4 0 0
  exact mx_lret hC hE rfl dX11_learned_42 h
set_option maxHeartbeats 4000000 in
set_option maxRecDepth 100000 in
theorem xb_X11_learned_43 {g : mj_G} {post : Int64 → mj_M → Prop} (hC : mj_C g yX11_learned cX11_learned 4 (some .long) rm_X11_learned) (hE : mj_E g mj_jL post 0 0) (l0 : Nat) (l1 : Int32) (l2 : Int32) (l3 : Int32) (M : mj_M) (h : vb_X11_learned_43 post l0 l1 l2 l3 M) : mj_X g 43 [(0, vR l0), (1, vI l1), (2, vI l2), (3, vI l3)] [] M 0 0 := by
  simp only [vb_X11_learned_43] at h
  refine mx_aload_n (j := 0) hC dX11_learned_43 rfl rfl ?_
  obtain ⟨ht5, h⟩ := h
  refine mx_get (v := vR (mj_r M l0 5)) hC tf_X11_47 ht5 rfl dX11_learned_44 ?_
  refine mx_iload_n (j := 2) hC dX11_learned_47 rfl rfl ?_
  obtain ⟨ht6, h⟩ := h
  refine mx_callV (inj := mj_jB) (As := [vI l2]) (st := []) hC (ct_X10_learn (mj_r M l0 5) l2 M _ h) ty_X10_learn tw1038 ht6 rfl (Nat.le_of_ble_eq_true rfl) ⟨rfl, rfl, ⟨by decide, by decide⟩, by decide, by decide⟩ dX11_learned_48 (fun r7 M8 h => ?_)
  show mj_X g 51 [(0, vR l0), (1, vI l1), (2, vI l2), (3, vI l3)] [vI (mj_b r7)] M8 0 0
  refine mx_ifneB (tgt := 60) hC dX11_learned_51 (by decide) (fun hc9 => ?_) (fun hc9 => ?_)
  · replace h := mj_yy hc9 h
    refine mx_aload_n (j := 0) hC dX11_learned_60 rfl rfl ?_
    obtain ⟨ht10, h⟩ := h
    refine mx_get (v := vR (mj_r M8 l0 5)) hC tf_X11_47 ht10 rfl dX11_learned_61 ?_
    refine mx_aload_n (j := 0) hC dX11_learned_64 rfl rfl ?_
    refine mx_get (v := vR (mj_r M8 l0 5)) hC tf_X11_47 ht10 rfl dX11_learned_65 ?_
    refine mx_iload_n (j := 1) hC dX11_learned_68 rfl rfl ?_
    obtain ⟨ht11, h⟩ := h
    refine mx_callV (inj := mj_jL) (As := [vI l1]) (st := [vR (mj_r M8 l0 5)]) hC (ct_X10_upperAt (mj_r M8 l0 5) l1 M8 _ h) ty_X10_upperAt tw1042 ht11 rfl (Nat.le_of_ble_eq_true rfl) ⟨rfl, rfl, ⟨by decide, by decide⟩, by decide, by decide⟩ dX11_learned_69 (fun r12 M13 h => ?_)
    show mj_X g 72 [(0, vR l0), (1, vI l1), (2, vI l2), (3, vI l3)] [vL r12, vR (mj_r M8 l0 5)] M13 0 0
    refine mx_iload_n (j := 3) hC dX11_learned_72 rfl rfl ?_
    obtain ⟨ht14, h⟩ := h
    refine mx_callV (inj := mj_jL) (As := [vL r12, vI l3]) (st := []) hC (ct_X10_lowest (mj_r M8 l0 5) r12 l3 M13 _ h) ty_X10_lowest tw1046 ht14 rfl (Nat.le_of_ble_eq_true rfl) ⟨rfl, rfl, ⟨by decide, by decide⟩, by decide, by decide⟩ dX11_learned_73 (fun r15 M16 h => ?_)
    show mj_X g 76 [(0, vR l0), (1, vI l1), (2, vI l2), (3, vI l3)] [vL r15] M16 0 0
    exact mx_lret hC hE rfl dX11_learned_76 h
  · replace h := mj_nn hc9 h
    refine mx_bipush (v := (-3)) hC dX11_learned_54 (by decide) ?_
    refine mx_callS (inj := mj_jL) (As := [vI ((-3))]) (st := []) hC (ct_X11_lost ((-3)) M8 _ h) ty_X11_lost tw548 rfl (Nat.le_of_ble_eq_true rfl) ⟨rfl, rfl, ⟨by decide, by decide⟩, by decide, by decide⟩ dX11_learned_56 (fun r17 M18 h => ?_)
    show mj_X g 59 [(0, vR l0), (1, vI l1), (2, vI l2), (3, vI l3)] [vL r17] M18 0 0
    exact mx_lret hC hE rfl dX11_learned_59 h
set_option maxHeartbeats 4000000 in
set_option maxRecDepth 100000 in
theorem ct_X11_learned {l : Launch} {base : Nat} {D : va_G} {A : ClassId × ClassId × ClassId} (l0 : Nat) (l1 : Int32) (l2 : Int32) (l3 : Int32) (M : mj_M) (post : Int64 → mj_M → Prop) (h : vc_X11_learned l0 l1 l2 l3 M post) : mj_Met l base D A mj_jL yX11_learned cX11_learned 4 (some .long) rm_X11_learned 0 0 [vR l0, vI l1, vI l2, vI l3] M post := by
  refine mj_entry (by decide +kernel) (Nat.le_of_ble_eq_true rfl) (fun g hC hE h1 h2 h3 h4 => ?_)
  show mj_X g 0 [(0, vR l0), (1, vI l1), (2, vI l2), (3, vI l3)] [] M 0 0
  simp only [vc_X11_learned] at h
  refine mx_iload_n (j := 2) hC dX11_learned_0 rfl rfl ?_
  refine mx_iconst (v := (-1)) hC dX11_learned_1 (by decide) ?_
  refine mx_icmplt (tgt := 16) hC dX11_learned_2 (by decide) (fun hc19 => ?_) (fun hc19 => ?_)
  · replace h := mj_yy hc19 h
    refine mx_sub (L' := []) [] rfl ?_
    exact show mj_X g 16 [] [] M 0 0 from (xb_X11_learned_16 hC hE M h)
  · replace h := mj_nn hc19 h
    refine mx_iload_n (j := 2) hC dX11_learned_5 rfl rfl ?_
    refine mx_aload_n (j := 0) hC dX11_learned_6 rfl rfl ?_
    obtain ⟨ht20, h⟩ := h
    refine mx_get (v := vR (mj_r M l0 5)) hC tf_X11_47 ht20 rfl dX11_learned_7 ?_
    obtain ⟨ht21, h⟩ := h
    refine mx_get (v := vI (mj_i M (mj_r M l0 5) 2)) hC tf_X11_335 ht21 rfl dX11_learned_10 ?_
    refine mx_icmplt (tgt := 21) hC dX11_learned_13 (by decide) (fun hc22 => ?_) (fun hc22 => ?_)
    · replace h := mj_yy hc22 h
      refine mx_iload_n (j := 1) hC dX11_learned_21 rfl rfl ?_
      refine mx_callS (inj := mj_jB) (As := [vI l1]) (st := []) hC (ct_X11_isYears l1 M _ h) ty_X11_isYears tw996 rfl (Nat.le_of_ble_eq_true rfl) ⟨rfl, rfl, ⟨by decide, by decide⟩, by decide, by decide⟩ dX11_learned_22 (fun r23 M24 h => ?_)
      show mj_X g 25 [(0, vR l0), (1, vI l1), (2, vI l2), (3, vI l3)] [vI (mj_b r23)] M24 0 0
      refine mx_ifeqB (tgt := 37) hC dX11_learned_25 (by decide) (fun hc25 => ?_) (fun hc25 => ?_)
      · replace h := mj_nn hc25 h
        refine mx_sub (L' := []) [] rfl ?_
        exact show mj_X g 37 [] [] M24 0 0 from (xb_X11_learned_37 hC hE M24 h)
      · replace h := mj_yy hc25 h
        refine mx_iload_n (j := 3) hC dX11_learned_28 rfl rfl ?_
        refine mx_ifeq (tgt := 43) hC dX11_learned_29 (by decide) (fun hc26 => ?_) (fun hc26 => ?_)
        · replace h := mj_yy hc26 h
          refine mx_sub (L' := [(0, vR l0), (1, vI l1), (2, vI l2), (3, vI l3)]) [0, 1, 2, 3] rfl ?_
          exact show mj_X g 43 [(0, vR l0), (1, vI l1), (2, vI l2), (3, vI l3)] [] M24 0 0 from (xb_X11_learned_43 hC hE l0 l1 l2 l3 M24 h)
        · replace h := mj_nn hc26 h
          refine mx_iload_n (j := 3) hC dX11_learned_32 rfl rfl ?_
          refine mx_iconst (v := 1) hC dX11_learned_33 (by decide) ?_
          refine mx_icmpeq (tgt := 43) hC dX11_learned_34 (by decide) (fun hc27 => ?_) (fun hc27 => ?_)
          · replace h := mj_yy hc27 h
            refine mx_sub (L' := [(0, vR l0), (1, vI l1), (2, vI l2), (3, vI l3)]) [0, 1, 2, 3] rfl ?_
            exact show mj_X g 43 [(0, vR l0), (1, vI l1), (2, vI l2), (3, vI l3)] [] M24 0 0 from (xb_X11_learned_43 hC hE l0 l1 l2 l3 M24 h)
          · replace h := mj_nn hc27 h
            refine mx_sub (L' := []) [] rfl ?_
            exact show mj_X g 37 [] [] M24 0 0 from (xb_X11_learned_37 hC hE M24 h)
    · replace h := mj_nn hc22 h
      refine mx_sub (L' := []) [] rfl ?_
      exact show mj_X g 16 [] [] M 0 0 from (xb_X11_learned_16 hC hE M h)
theorem tw1065 : (Jvm.Cond.methodLink "LeaseLand" (346 : Nat) ({ cls := "LeaseLand$Sales", name := "farthestOff", desc := "()J" } : Jvm.MethodName)) ∈ mj_tbl := mj_w 1118 (by decide +kernel) (by decide +kernel)
theorem tw1068 : (Jvm.Cond.code ({ cls := "LeaseLand$Sales", name := "farthestOff", desc := "()J" } : Jvm.MethodName) prog_12_method_6_code (4 : Nat) (Option.some Jvm.ClassFile.FieldType.long)) ∈ mj_tbl := mj_w 1121 (by decide +kernel) (by decide +kernel)
theorem tw1066 : (Jvm.Cond.instanceMethod ({ cls := "LeaseLand$Sales", name := "farthestOff", desc := "()J" } : Jvm.MethodName)) ∈ mj_tbl := mj_w 1119 (by decide +kernel) (by decide +kernel)
theorem tw1067 : (Jvm.Cond.selects "LeaseLand$Sales" ({ cls := "LeaseLand$Sales", name := "farthestOff", desc := "()J" } : Jvm.MethodName) ({ cls := "LeaseLand$Sales", name := "farthestOff", desc := "()J" } : Jvm.MethodName)) ∈ mj_tbl := mj_w 1120 (by decide +kernel) (by decide +kernel)
theorem ty_X10_farthestOff : mj_YV 10 yX10_farthestOff cX10_farthestOff 4 (some .long) 0 := ⟨⟨tw1068, tw9, by decide +kernel, by decide +kernel, by decide +kernel⟩, tw1066, tw1067, _, rfl, rfl⟩
def rm_X11_doubt : Room := { frames := 2, cells := 0, slots := 0, locals := 56 }
theorem dX11_doubt_0 : decode cX11_doubt 0 = .ok (.iload_n 1, 1) := by decide +kernel
theorem dX11_doubt_1 : decode cX11_doubt 1 = .ok (.ifCond .eq 14, 3) := by decide +kernel
theorem dX11_doubt_4 : decode cX11_doubt 4 = .ok (.iload_n 1, 1) := by decide +kernel
theorem dX11_doubt_5 : decode cX11_doubt 5 = .ok (.iconst 1, 1) := by decide +kernel
theorem dX11_doubt_6 : decode cX11_doubt 6 = .ok (.if_icmp .eq 9, 3) := by decide +kernel
theorem dX11_doubt_9 : decode cX11_doubt 9 = .ok (.bipush (-2), 2) := by decide +kernel
theorem dX11_doubt_11 : decode cX11_doubt 11 = .ok (.invokestatic 190, 3) := by decide +kernel
theorem dX11_doubt_14 : decode cX11_doubt 14 = .ok (.lreturn, 1) := by decide +kernel
theorem dX11_doubt_15 : decode cX11_doubt 15 = .ok (.aload_n 0, 1) := by decide +kernel
theorem dX11_doubt_16 : decode cX11_doubt 16 = .ok (.getfield 47, 3) := by decide +kernel
theorem dX11_doubt_19 : decode cX11_doubt 19 = .ok (.bipush (-6), 2) := by decide +kernel
theorem dX11_doubt_21 : decode cX11_doubt 21 = .ok (.invokevirtual 336, 3) := by decide +kernel
theorem dX11_doubt_24 : decode cX11_doubt 24 = .ok (.ifCond .ne 9, 3) := by decide +kernel
theorem dX11_doubt_27 : decode cX11_doubt 27 = .ok (.bipush (-3), 2) := by decide +kernel
theorem dX11_doubt_29 : decode cX11_doubt 29 = .ok (.invokestatic 190, 3) := by decide +kernel
theorem dX11_doubt_32 : decode cX11_doubt 32 = .ok (.lreturn, 1) := by decide +kernel
theorem dX11_doubt_33 : decode cX11_doubt 33 = .ok (.aload_n 0, 1) := by decide +kernel
theorem dX11_doubt_34 : decode cX11_doubt 34 = .ok (.getfield 47, 3) := by decide +kernel
theorem dX11_doubt_37 : decode cX11_doubt 37 = .ok (.aload_n 0, 1) := by decide +kernel
theorem dX11_doubt_38 : decode cX11_doubt 38 = .ok (.getfield 47, 3) := by decide +kernel
theorem dX11_doubt_41 : decode cX11_doubt 41 = .ok (.invokevirtual 346, 3) := by decide +kernel
theorem dX11_doubt_44 : decode cX11_doubt 44 = .ok (.iload_n 1, 1) := by decide +kernel
theorem dX11_doubt_45 : decode cX11_doubt 45 = .ok (.invokevirtual 342, 3) := by decide +kernel
theorem dX11_doubt_48 : decode cX11_doubt 48 = .ok (.lreturn, 1) := by decide +kernel
def vb_X11_doubt_15 (post : Int64 → mj_M → Prop) (l0 : Nat) (l1 : Int32) (M : mj_M) : Prop := mj_tag M l0 = 12 ∧ mj_tag M (mj_r M l0 5) = 11 ∧ vc_X10_learn (mj_r M l0 5) ((-6)) M (fun r3 M4 => if r3 = true then (mj_tag M4 l0 = 12 ∧ mj_tag M4 (mj_r M4 l0 5) = 11 ∧ vc_X10_farthestOff (mj_r M4 l0 5) M4 (fun r8 M9 => mj_tag M9 (mj_r M4 l0 5) = 11 ∧ vc_X10_lowest (mj_r M4 l0 5) r8 l1 M9 (fun r11 M12 => post r11 M12))) else (vc_X11_lost ((-3)) M4 (fun r13 M14 => post r13 M14)))
def vc_X11_doubt (l0 : Nat) (l1 : Int32) (M : mj_M) (post : Int64 → mj_M → Prop) : Prop := if l1 = 0 then (vb_X11_doubt_15 post l0 l1 M) else (if l1 = 1 then (vb_X11_doubt_15 post l0 l1 M) else (vc_X11_lost ((-2)) M (fun r17 M18 => post r17 M18)))
set_option maxHeartbeats 4000000 in
set_option maxRecDepth 100000 in
theorem xb_X11_doubt_15 {g : mj_G} {post : Int64 → mj_M → Prop} (hC : mj_C g yX11_doubt cX11_doubt 2 (some .long) rm_X11_doubt) (hE : mj_E g mj_jL post 0 0) (l0 : Nat) (l1 : Int32) (M : mj_M) (h : vb_X11_doubt_15 post l0 l1 M) : mj_X g 15 [(0, vR l0), (1, vI l1)] [] M 0 0 := by
  simp only [vb_X11_doubt_15] at h
  refine mx_aload_n (j := 0) hC dX11_doubt_15 rfl rfl ?_
  obtain ⟨ht1, h⟩ := h
  refine mx_get (v := vR (mj_r M l0 5)) hC tf_X11_47 ht1 rfl dX11_doubt_16 ?_
  refine mx_bipush (v := (-6)) hC dX11_doubt_19 (by decide) ?_
  obtain ⟨ht2, h⟩ := h
  refine mx_callV (inj := mj_jB) (As := [vI ((-6))]) (st := []) hC (ct_X10_learn (mj_r M l0 5) ((-6)) M _ h) ty_X10_learn tw1038 ht2 rfl (Nat.le_of_ble_eq_true rfl) ⟨rfl, rfl, ⟨by decide, by decide⟩, by decide, by decide⟩ dX11_doubt_21 (fun r3 M4 h => ?_)
  show mj_X g 24 [(0, vR l0), (1, vI l1)] [vI (mj_b r3)] M4 0 0
  refine mx_ifneB (tgt := 33) hC dX11_doubt_24 (by decide) (fun hc5 => ?_) (fun hc5 => ?_)
  · replace h := mj_yy hc5 h
    refine mx_aload_n (j := 0) hC dX11_doubt_33 rfl rfl ?_
    obtain ⟨ht6, h⟩ := h
    refine mx_get (v := vR (mj_r M4 l0 5)) hC tf_X11_47 ht6 rfl dX11_doubt_34 ?_
    refine mx_aload_n (j := 0) hC dX11_doubt_37 rfl rfl ?_
    refine mx_get (v := vR (mj_r M4 l0 5)) hC tf_X11_47 ht6 rfl dX11_doubt_38 ?_
    obtain ⟨ht7, h⟩ := h
    refine mx_callV (inj := mj_jL) (As := []) (st := [vR (mj_r M4 l0 5)]) hC (ct_X10_farthestOff (mj_r M4 l0 5) M4 _ h) ty_X10_farthestOff tw1065 ht7 rfl (Nat.le_of_ble_eq_true rfl) ⟨rfl, rfl, ⟨by decide, by decide⟩, by decide, by decide⟩ dX11_doubt_41 (fun r8 M9 h => ?_)
    show mj_X g 44 [(0, vR l0), (1, vI l1)] [vL r8, vR (mj_r M4 l0 5)] M9 0 0
    refine mx_iload_n (j := 1) hC dX11_doubt_44 rfl rfl ?_
    obtain ⟨ht10, h⟩ := h
    refine mx_callV (inj := mj_jL) (As := [vL r8, vI l1]) (st := []) hC (ct_X10_lowest (mj_r M4 l0 5) r8 l1 M9 _ h) ty_X10_lowest tw1046 ht10 rfl (Nat.le_of_ble_eq_true rfl) ⟨rfl, rfl, ⟨by decide, by decide⟩, by decide, by decide⟩ dX11_doubt_45 (fun r11 M12 h => ?_)
    show mj_X g 48 [(0, vR l0), (1, vI l1)] [vL r11] M12 0 0
    exact mx_lret hC hE rfl dX11_doubt_48 h
  · replace h := mj_nn hc5 h
    refine mx_bipush (v := (-3)) hC dX11_doubt_27 (by decide) ?_
    refine mx_callS (inj := mj_jL) (As := [vI ((-3))]) (st := []) hC (ct_X11_lost ((-3)) M4 _ h) ty_X11_lost tw548 rfl (Nat.le_of_ble_eq_true rfl) ⟨rfl, rfl, ⟨by decide, by decide⟩, by decide, by decide⟩ dX11_doubt_29 (fun r13 M14 h => ?_)
    show mj_X g 32 [(0, vR l0), (1, vI l1)] [vL r13] M14 0 0
    exact mx_lret hC hE rfl dX11_doubt_32 h
set_option maxHeartbeats 4000000 in
set_option maxRecDepth 100000 in
theorem ct_X11_doubt {l : Launch} {base : Nat} {D : va_G} {A : ClassId × ClassId × ClassId} (l0 : Nat) (l1 : Int32) (M : mj_M) (post : Int64 → mj_M → Prop) (h : vc_X11_doubt l0 l1 M post) : mj_Met l base D A mj_jL yX11_doubt cX11_doubt 2 (some .long) rm_X11_doubt 0 0 [vR l0, vI l1] M post := by
  refine mj_entry (by decide +kernel) (Nat.le_of_ble_eq_true rfl) (fun g hC hE h1 h2 h3 h4 => ?_)
  show mj_X g 0 [(0, vR l0), (1, vI l1)] [] M 0 0
  simp only [vc_X11_doubt] at h
  refine mx_iload_n (j := 1) hC dX11_doubt_0 rfl rfl ?_
  refine mx_ifeq (tgt := 15) hC dX11_doubt_1 (by decide) (fun hc15 => ?_) (fun hc15 => ?_)
  · replace h := mj_yy hc15 h
    refine mx_sub (L' := [(0, vR l0), (1, vI l1)]) [0, 1] rfl ?_
    exact show mj_X g 15 [(0, vR l0), (1, vI l1)] [] M 0 0 from (xb_X11_doubt_15 hC hE l0 l1 M h)
  · replace h := mj_nn hc15 h
    refine mx_iload_n (j := 1) hC dX11_doubt_4 rfl rfl ?_
    refine mx_iconst (v := 1) hC dX11_doubt_5 (by decide) ?_
    refine mx_icmpeq (tgt := 15) hC dX11_doubt_6 (by decide) (fun hc16 => ?_) (fun hc16 => ?_)
    · replace h := mj_yy hc16 h
      refine mx_sub (L' := [(0, vR l0), (1, vI l1)]) [0, 1] rfl ?_
      exact show mj_X g 15 [(0, vR l0), (1, vI l1)] [] M 0 0 from (xb_X11_doubt_15 hC hE l0 l1 M h)
    · replace h := mj_nn hc16 h
      refine mx_bipush (v := (-2)) hC dX11_doubt_9 (by decide) ?_
      refine mx_callS (inj := mj_jL) (As := [vI ((-2))]) (st := []) hC (ct_X11_lost ((-2)) M _ h) ty_X11_lost tw548 rfl (Nat.le_of_ble_eq_true rfl) ⟨rfl, rfl, ⟨by decide, by decide⟩, by decide, by decide⟩ dX11_doubt_11 (fun r17 M18 h => ?_)
      show mj_X g 14 [(0, vR l0), (1, vI l1)] [vL r17] M18 0 0
      exact mx_lret hC hE rfl dX11_doubt_14 h
theorem tw166 : (Jvm.Cond.fieldLink "LeaseLand" (350 : Nat) "LeaseLand$Market" "purchase" "I") ∈ mj_tbl := mj_w 219 (by decide +kernel) (by decide +kernel)
theorem tf_X11_350 : mj_F 5 4 .int false "LeaseLand" 350 := ⟨_, tk5, by decide, rfl, rfl, rfl, tw166⟩
theorem tw168 : (Jvm.Cond.fieldLink "LeaseLand" (353 : Nat) "LeaseLand$Market" "defer" "I") ∈ mj_tbl := mj_w 221 (by decide +kernel) (by decide +kernel)
theorem tf_X11_353 : mj_F 5 5 .int false "LeaseLand" 353 := ⟨_, tk5, by decide, rfl, rfl, rfl, tw168⟩
def rm_X11_set : Room := { frames := 0, cells := 0, slots := 0, locals := 0 }
theorem dX11_set_0 : decode cX11_set 0 = .ok (.iload_n 2, 1) := by decide +kernel
theorem dX11_set_1 : decode cX11_set 1 = .ok (.ifCond .lt 28, 3) := by decide +kernel
theorem dX11_set_4 : decode cX11_set 4 = .ok (.iload_n 1, 1) := by decide +kernel
theorem dX11_set_5 : decode cX11_set 5 = .ok (.ifCond .eq 8, 3) := by decide +kernel
theorem dX11_set_8 : decode cX11_set 8 = .ok (.iload_n 1, 1) := by decide +kernel
theorem dX11_set_9 : decode cX11_set 9 = .ok (.iconst 1, 1) := by decide +kernel
theorem dX11_set_10 : decode cX11_set 10 = .ok (.if_icmp .ne 19, 3) := by decide +kernel
theorem dX11_set_13 : decode cX11_set 13 = .ok (.iload_n 2, 1) := by decide +kernel
theorem dX11_set_14 : decode cX11_set 14 = .ok (.iload_n 1, 1) := by decide +kernel
theorem dX11_set_15 : decode cX11_set 15 = .ok (.ifCond .ne 9, 3) := by decide +kernel
theorem dX11_set_18 : decode cX11_set 18 = .ok (.sipush 500, 3) := by decide +kernel
theorem dX11_set_21 : decode cX11_set 21 = .ok (.goto 5, 3) := by decide +kernel
theorem dX11_set_24 : decode cX11_set 24 = .ok (.bipush 100, 2) := by decide +kernel
theorem dX11_set_26 : decode cX11_set 26 = .ok (.if_icmp .le 6, 3) := by decide +kernel
theorem dX11_set_29 : decode cX11_set 29 = .ok (.bipush (-2), 2) := by decide +kernel
theorem dX11_set_31 : decode cX11_set 31 = .ok (.ireturn, 1) := by decide +kernel
theorem dX11_set_32 : decode cX11_set 32 = .ok (.iload_n 1, 1) := by decide +kernel
theorem dX11_set_33 : decode cX11_set 33 = .ok (.ifCond .ne 13, 3) := by decide +kernel
theorem dX11_set_36 : decode cX11_set 36 = .ok (.aload_n 0, 1) := by decide +kernel
theorem dX11_set_37 : decode cX11_set 37 = .ok (.getfield 40, 3) := by decide +kernel
theorem dX11_set_40 : decode cX11_set 40 = .ok (.getfield 350, 3) := by decide +kernel
theorem dX11_set_43 : decode cX11_set 43 = .ok (.goto 10, 3) := by decide +kernel
theorem dX11_set_46 : decode cX11_set 46 = .ok (.aload_n 0, 1) := by decide +kernel
theorem dX11_set_47 : decode cX11_set 47 = .ok (.getfield 40, 3) := by decide +kernel
theorem dX11_set_50 : decode cX11_set 50 = .ok (.getfield 353, 3) := by decide +kernel
theorem dX11_set_53 : decode cX11_set 53 = .ok (.istore_n 3, 1) := by decide +kernel
theorem dX11_set_54 : decode cX11_set 54 = .ok (.iload_n 1, 1) := by decide +kernel
theorem dX11_set_55 : decode cX11_set 55 = .ok (.ifCond .ne 14, 3) := by decide +kernel
theorem dX11_set_58 : decode cX11_set 58 = .ok (.aload_n 0, 1) := by decide +kernel
theorem dX11_set_59 : decode cX11_set 59 = .ok (.getfield 40, 3) := by decide +kernel
theorem dX11_set_62 : decode cX11_set 62 = .ok (.iload_n 2, 1) := by decide +kernel
theorem dX11_set_63 : decode cX11_set 63 = .ok (.putfield 350, 3) := by decide +kernel
theorem dX11_set_66 : decode cX11_set 66 = .ok (.goto 11, 3) := by decide +kernel
theorem dX11_set_69 : decode cX11_set 69 = .ok (.aload_n 0, 1) := by decide +kernel
theorem dX11_set_70 : decode cX11_set 70 = .ok (.getfield 40, 3) := by decide +kernel
theorem dX11_set_73 : decode cX11_set 73 = .ok (.iload_n 2, 1) := by decide +kernel
theorem dX11_set_74 : decode cX11_set 74 = .ok (.putfield 353, 3) := by decide +kernel
theorem dX11_set_77 : decode cX11_set 77 = .ok (.iload_n 3, 1) := by decide +kernel
theorem dX11_set_78 : decode cX11_set 78 = .ok (.ireturn, 1) := by decide +kernel
def vb_X11_set_53 (post : Int32 → mj_M → Prop) (l0 : Nat) (l1 : Int32) (l2 : Int32) (s0 : Int32) (M : mj_M) : Prop := if l1 = 0 then (mj_tag M l0 = 12 ∧ mj_tag M (mj_r M l0 4) = 6 ∧ post s0 (mj_wi M (mj_r M l0 4) 4 l2)) else (mj_tag M l0 = 12 ∧ mj_tag M (mj_r M l0 4) = 6 ∧ post s0 (mj_wi M (mj_r M l0 4) 5 l2))
def vb_X11_set_26 (post : Int32 → mj_M → Prop) (l0 : Nat) (l1 : Int32) (l2 : Int32) (s0 : Int32) (s1 : Int32) (M : mj_M) : Prop := if s0 ≤ s1 then (if l1 = 0 then (mj_tag M l0 = 12 ∧ mj_tag M (mj_r M l0 4) = 6 ∧ vb_X11_set_53 post l0 l1 l2 (mj_i M (mj_r M l0 4) 4) M) else (mj_tag M l0 = 12 ∧ mj_tag M (mj_r M l0 4) = 6 ∧ vb_X11_set_53 post l0 l1 l2 (mj_i M (mj_r M l0 4) 5) M)) else (post ((-2)) M)
def vb_X11_set_13 (post : Int32 → mj_M → Prop) (l0 : Nat) (l1 : Int32) (l2 : Int32) (M : mj_M) : Prop := if l1 = 0 then (vb_X11_set_26 post l0 l1 l2 l2 500 M) else (vb_X11_set_26 post l0 l1 l2 l2 100 M)
def vc_X11_set (l0 : Nat) (l1 : Int32) (l2 : Int32) (M : mj_M) (post : Int32 → mj_M → Prop) : Prop := if l2 < 0 then (post ((-2)) M) else (if l1 = 0 then (vb_X11_set_13 post l0 l1 l2 M) else (if l1 = 1 then (vb_X11_set_13 post l0 l1 l2 M) else (post ((-2)) M)))
set_option maxHeartbeats 4000000 in
set_option maxRecDepth 100000 in
theorem xb_X11_set_53 {g : mj_G} {post : Int32 → mj_M → Prop} (hC : mj_C g yX11_set cX11_set 4 (some .int) rm_X11_set) (hE : mj_E g mj_jI post 0 0) (l0 : Nat) (l1 : Int32) (l2 : Int32) (s0 : Int32) (M : mj_M) (h : vb_X11_set_53 post l0 l1 l2 s0 M) : mj_X g 53 [(0, vR l0), (1, vI l1), (2, vI l2)] [vI s0] M 0 0 := by
  simp only [vb_X11_set_53] at h
  refine mx_istore_n (L' := [(3, vI s0), (0, vR l0), (1, vI l1), (2, vI l2)]) hC dX11_set_53 rfl (by decide) rfl ?_
  refine mx_iload_n (j := 2) hC dX11_set_54 rfl rfl ?_
  refine mx_ifne (tgt := 69) hC dX11_set_55 (by decide) (fun hc1 => ?_) (fun hc1 => ?_)
  · replace h := mj_nn hc1 h
    refine mx_aload_n (j := 1) hC dX11_set_69 rfl rfl ?_
    obtain ⟨ht2, h⟩ := h
    refine mx_get (v := vR (mj_r M l0 4)) hC tf_X11_40 ht2 rfl dX11_set_70 ?_
    refine mx_iload_n (j := 3) hC dX11_set_73 rfl rfl ?_
    obtain ⟨ht3, h⟩ := h
    refine mx_put (v := vI l2) (M1 := mj_wi M (mj_r M l0 4) 5 l2) hC tf_X11_353 ht3 (Or.inl rfl) ⟨rfl, rfl⟩ (mj_off_wi _ _ _ _) mj_put_wi dX11_set_74 ?_
    refine mx_iload_n (j := 0) hC dX11_set_77 rfl rfl ?_
    exact mx_iret hC hE rfl dX11_set_78 h
  · replace h := mj_yy hc1 h
    refine mx_aload_n (j := 1) hC dX11_set_58 rfl rfl ?_
    obtain ⟨ht4, h⟩ := h
    refine mx_get (v := vR (mj_r M l0 4)) hC tf_X11_40 ht4 rfl dX11_set_59 ?_
    refine mx_iload_n (j := 3) hC dX11_set_62 rfl rfl ?_
    obtain ⟨ht5, h⟩ := h
    refine mx_put (v := vI l2) (M1 := mj_wi M (mj_r M l0 4) 4 l2) hC tf_X11_350 ht5 (Or.inl rfl) ⟨rfl, rfl⟩ (mj_off_wi _ _ _ _) mj_put_wi dX11_set_63 ?_
    refine mx_goto (tgt := 77) hC dX11_set_66 (by decide) ?_
    refine mx_iload_n (j := 0) hC dX11_set_77 rfl rfl ?_
    exact mx_iret hC hE rfl dX11_set_78 h
set_option maxHeartbeats 4000000 in
set_option maxRecDepth 100000 in
theorem xb_X11_set_26 {g : mj_G} {post : Int32 → mj_M → Prop} (hC : mj_C g yX11_set cX11_set 4 (some .int) rm_X11_set) (hE : mj_E g mj_jI post 0 0) (l0 : Nat) (l1 : Int32) (l2 : Int32) (s0 : Int32) (s1 : Int32) (M : mj_M) (h : vb_X11_set_26 post l0 l1 l2 s0 s1 M) : mj_X g 26 [(0, vR l0), (1, vI l1), (2, vI l2)] [vI s1, vI s0] M 0 0 := by
  simp only [vb_X11_set_26] at h
  refine mx_icmple (tgt := 32) hC dX11_set_26 (by decide) (fun hc6 => ?_) (fun hc6 => ?_)
  · replace h := mj_yy hc6 h
    refine mx_iload_n (j := 1) hC dX11_set_32 rfl rfl ?_
    refine mx_ifne (tgt := 46) hC dX11_set_33 (by decide) (fun hc7 => ?_) (fun hc7 => ?_)
    · replace h := mj_nn hc7 h
      refine mx_aload_n (j := 0) hC dX11_set_46 rfl rfl ?_
      obtain ⟨ht8, h⟩ := h
      refine mx_get (v := vR (mj_r M l0 4)) hC tf_X11_40 ht8 rfl dX11_set_47 ?_
      obtain ⟨ht9, h⟩ := h
      refine mx_get (v := vI (mj_i M (mj_r M l0 4) 5)) hC tf_X11_353 ht9 rfl dX11_set_50 ?_
      refine mx_sub (L' := [(0, vR l0), (1, vI l1), (2, vI l2)]) [0, 1, 2] rfl ?_
      exact show mj_X g 53 [(0, vR l0), (1, vI l1), (2, vI l2)] [vI (mj_i M (mj_r M l0 4) 5)] M 0 0 from (xb_X11_set_53 hC hE l0 l1 l2 (mj_i M (mj_r M l0 4) 5) M h)
    · replace h := mj_yy hc7 h
      refine mx_aload_n (j := 0) hC dX11_set_36 rfl rfl ?_
      obtain ⟨ht10, h⟩ := h
      refine mx_get (v := vR (mj_r M l0 4)) hC tf_X11_40 ht10 rfl dX11_set_37 ?_
      obtain ⟨ht11, h⟩ := h
      refine mx_get (v := vI (mj_i M (mj_r M l0 4) 4)) hC tf_X11_350 ht11 rfl dX11_set_40 ?_
      refine mx_goto (tgt := 53) hC dX11_set_43 (by decide) ?_
      refine mx_sub (L' := [(0, vR l0), (1, vI l1), (2, vI l2)]) [0, 1, 2] rfl ?_
      exact show mj_X g 53 [(0, vR l0), (1, vI l1), (2, vI l2)] [vI (mj_i M (mj_r M l0 4) 4)] M 0 0 from (xb_X11_set_53 hC hE l0 l1 l2 (mj_i M (mj_r M l0 4) 4) M h)
  · replace h := mj_nn hc6 h
    refine mx_bipush (v := (-2)) hC dX11_set_29 (by decide) ?_
    exact mx_iret hC hE rfl dX11_set_31 h
set_option maxHeartbeats 4000000 in
set_option maxRecDepth 100000 in
theorem xb_X11_set_13 {g : mj_G} {post : Int32 → mj_M → Prop} (hC : mj_C g yX11_set cX11_set 4 (some .int) rm_X11_set) (hE : mj_E g mj_jI post 0 0) (l0 : Nat) (l1 : Int32) (l2 : Int32) (M : mj_M) (h : vb_X11_set_13 post l0 l1 l2 M) : mj_X g 13 [(0, vR l0), (1, vI l1), (2, vI l2)] [] M 0 0 := by
  simp only [vb_X11_set_13] at h
  refine mx_iload_n (j := 2) hC dX11_set_13 rfl rfl ?_
  refine mx_iload_n (j := 1) hC dX11_set_14 rfl rfl ?_
  refine mx_ifne (tgt := 24) hC dX11_set_15 (by decide) (fun hc12 => ?_) (fun hc12 => ?_)
  · replace h := mj_nn hc12 h
    refine mx_bipush (v := 100) hC dX11_set_24 (by decide) ?_
    refine mx_sub (L' := [(0, vR l0), (1, vI l1), (2, vI l2)]) [0, 1, 2] rfl ?_
    exact show mj_X g 26 [(0, vR l0), (1, vI l1), (2, vI l2)] [vI 100, vI l2] M 0 0 from (xb_X11_set_26 hC hE l0 l1 l2 l2 100 M h)
  · replace h := mj_yy hc12 h
    refine mx_sipush (v := 500) hC dX11_set_18 (by decide) ?_
    refine mx_goto (tgt := 26) hC dX11_set_21 (by decide) ?_
    refine mx_sub (L' := [(0, vR l0), (1, vI l1), (2, vI l2)]) [0, 1, 2] rfl ?_
    exact show mj_X g 26 [(0, vR l0), (1, vI l1), (2, vI l2)] [vI 500, vI l2] M 0 0 from (xb_X11_set_26 hC hE l0 l1 l2 l2 500 M h)
set_option maxHeartbeats 4000000 in
set_option maxRecDepth 100000 in
theorem ct_X11_set {l : Launch} {base : Nat} {D : va_G} {A : ClassId × ClassId × ClassId} (l0 : Nat) (l1 : Int32) (l2 : Int32) (M : mj_M) (post : Int32 → mj_M → Prop) (h : vc_X11_set l0 l1 l2 M post) : mj_Met l base D A mj_jI yX11_set cX11_set 4 (some .int) rm_X11_set 0 0 [vR l0, vI l1, vI l2] M post := by
  refine mj_entry (by decide +kernel) (Nat.le_of_ble_eq_true rfl) (fun g hC hE h1 h2 h3 h4 => ?_)
  show mj_X g 0 [(0, vR l0), (1, vI l1), (2, vI l2)] [] M 0 0
  simp only [vc_X11_set] at h
  refine mx_iload_n (j := 2) hC dX11_set_0 rfl rfl ?_
  refine mx_iflt (tgt := 29) hC dX11_set_1 (by decide) (fun hc13 => ?_) (fun hc13 => ?_)
  · replace h := mj_yy hc13 h
    refine mx_bipush (v := (-2)) hC dX11_set_29 (by decide) ?_
    exact mx_iret hC hE rfl dX11_set_31 h
  · replace h := mj_nn hc13 h
    refine mx_iload_n (j := 1) hC dX11_set_4 rfl rfl ?_
    refine mx_ifeq (tgt := 13) hC dX11_set_5 (by decide) (fun hc14 => ?_) (fun hc14 => ?_)
    · replace h := mj_yy hc14 h
      refine mx_sub (L' := [(0, vR l0), (1, vI l1), (2, vI l2)]) [0, 1, 2] rfl ?_
      exact show mj_X g 13 [(0, vR l0), (1, vI l1), (2, vI l2)] [] M 0 0 from (xb_X11_set_13 hC hE l0 l1 l2 M h)
    · replace h := mj_nn hc14 h
      refine mx_iload_n (j := 1) hC dX11_set_8 rfl rfl ?_
      refine mx_iconst (v := 1) hC dX11_set_9 (by decide) ?_
      refine mx_icmpne (tgt := 29) hC dX11_set_10 (by decide) (fun hc15 => ?_) (fun hc15 => ?_)
      · replace h := mj_nn hc15 h
        refine mx_bipush (v := (-2)) hC dX11_set_29 (by decide) ?_
        exact mx_iret hC hE rfl dX11_set_31 h
      · replace h := mj_yy hc15 h
        refine mx_sub (L' := [(0, vR l0), (1, vI l1), (2, vI l2)]) [0, 1, 2] rfl ?_
        exact show mj_X g 13 [(0, vR l0), (1, vI l1), (2, vI l2)] [] M 0 0 from (xb_X11_set_13 hC hE l0 l1 l2 M h)
theorem tw173 : (Jvm.Cond.fieldLink "LeaseLand" (359 : Nat) "LeaseLand$Market" "losses" "J") ∈ mj_tbl := mj_w 226 (by decide +kernel) (by decide +kernel)
theorem tf_X11_359 : mj_F 5 8 .long false "LeaseLand" 359 := ⟨_, tk5, by decide, rfl, rfl, rfl, tw173⟩
theorem tw175 : (Jvm.Cond.fieldLink "LeaseLand" (363 : Nat) "LeaseLand$Market" "marriage" "J") ∈ mj_tbl := mj_w 228 (by decide +kernel) (by decide +kernel)
theorem tf_X11_363 : mj_F 5 9 .long false "LeaseLand" 363 := ⟨_, tk5, by decide, rfl, rfl, rfl, tw175⟩
theorem tw170 : (Jvm.Cond.fieldLink "LeaseLand" (366 : Nat) "LeaseLand$Market" "gain" "J") ∈ mj_tbl := mj_w 223 (by decide +kernel) (by decide +kernel)
theorem tf_X11_366 : mj_F 5 6 .long false "LeaseLand" 366 := ⟨_, tk5, by decide, rfl, rfl, rfl, tw170⟩
theorem tw1081 : (Jvm.Cond.methodLink "LeaseLand" (356 : Nat) ({ cls := "LeaseLand$Market", name := "appraise", desc := "(LLeaseLand$Holding;I)V" } : Jvm.MethodName)) ∈ mj_tbl := mj_w 1134 (by decide +kernel) (by decide +kernel)
theorem tw1084 : (Jvm.Cond.code ({ cls := "LeaseLand$Market", name := "appraise", desc := "(LLeaseLand$Holding;I)V" } : Jvm.MethodName) prog_7_method_9_code (6 : Nat) (Option.none : Option Jvm.ClassFile.FieldType)) ∈ mj_tbl := mj_w 1137 (by decide +kernel) (by decide +kernel)
theorem tw1082 : (Jvm.Cond.instanceMethod ({ cls := "LeaseLand$Market", name := "appraise", desc := "(LLeaseLand$Holding;I)V" } : Jvm.MethodName)) ∈ mj_tbl := mj_w 1135 (by decide +kernel) (by decide +kernel)
theorem tw1083 : (Jvm.Cond.selects "LeaseLand$Market" ({ cls := "LeaseLand$Market", name := "appraise", desc := "(LLeaseLand$Holding;I)V" } : Jvm.MethodName) ({ cls := "LeaseLand$Market", name := "appraise", desc := "(LLeaseLand$Holding;I)V" } : Jvm.MethodName)) ∈ mj_tbl := mj_w 1136 (by decide +kernel) (by decide +kernel)
theorem ty_X5_appraise : mj_YV 5 yX5_appraise cX5_appraise 6 (none) 2 := ⟨⟨tw1084, tw8, by decide +kernel, by decide +kernel, by decide +kernel⟩, tw1082, tw1083, _, rfl, rfl⟩
def rm_X11_price : Room := { frames := 5, cells := 0, slots := 0, locals := 113 }
theorem dX11_price_0 : decode cX11_price 0 = .ok (.aload_n 0, 1) := by decide +kernel
theorem dX11_price_1 : decode cX11_price 1 = .ok (.getfield 10, 3) := by decide +kernel
theorem dX11_price_4 : decode cX11_price 4 = .ok (.iload_n 1, 1) := by decide +kernel
theorem dX11_price_5 : decode cX11_price 5 = .ok (.invokevirtual 121, 3) := by decide +kernel
theorem dX11_price_8 : decode cX11_price 8 = .ok (.astore_n 3, 1) := by decide +kernel
theorem dX11_price_9 : decode cX11_price 9 = .ok (.aload_n 3, 1) := by decide +kernel
theorem dX11_price_10 : decode cX11_price 10 = .ok (.ifnonnull 8, 3) := by decide +kernel
theorem dX11_price_13 : decode cX11_price 13 = .ok (.iconst (-1), 1) := by decide +kernel
theorem dX11_price_14 : decode cX11_price 14 = .ok (.invokestatic 190, 3) := by decide +kernel
theorem dX11_price_17 : decode cX11_price 17 = .ok (.lreturn, 1) := by decide +kernel
theorem dX11_price_18 : decode cX11_price 18 = .ok (.iload_n 2, 1) := by decide +kernel
theorem dX11_price_19 : decode cX11_price 19 = .ok (.ifCond .lt 8, 3) := by decide +kernel
theorem dX11_price_22 : decode cX11_price 22 = .ok (.iload_n 2, 1) := by decide +kernel
theorem dX11_price_23 : decode cX11_price 23 = .ok (.iconst 3, 1) := by decide +kernel
theorem dX11_price_24 : decode cX11_price 24 = .ok (.if_icmp .le 9, 3) := by decide +kernel
theorem dX11_price_27 : decode cX11_price 27 = .ok (.bipush (-2), 2) := by decide +kernel
theorem dX11_price_29 : decode cX11_price 29 = .ok (.invokestatic 190, 3) := by decide +kernel
theorem dX11_price_32 : decode cX11_price 32 = .ok (.lreturn, 1) := by decide +kernel
theorem dX11_price_33 : decode cX11_price 33 = .ok (.aload_n 0, 1) := by decide +kernel
theorem dX11_price_34 : decode cX11_price 34 = .ok (.getfield 10, 3) := by decide +kernel
theorem dX11_price_37 : decode cX11_price 37 = .ok (.aload_n 3, 1) := by decide +kernel
theorem dX11_price_38 : decode cX11_price 38 = .ok (.invokevirtual 111, 3) := by decide +kernel
theorem dX11_price_41 : decode cX11_price 41 = .ok (.ifCond .ne 9, 3) := by decide +kernel
theorem dX11_price_44 : decode cX11_price 44 = .ok (.bipush (-3), 2) := by decide +kernel
theorem dX11_price_46 : decode cX11_price 46 = .ok (.invokestatic 190, 3) := by decide +kernel
theorem dX11_price_49 : decode cX11_price 49 = .ok (.lreturn, 1) := by decide +kernel
theorem dX11_price_50 : decode cX11_price 50 = .ok (.aload_n 0, 1) := by decide +kernel
theorem dX11_price_51 : decode cX11_price 51 = .ok (.getfield 40, 3) := by decide +kernel
theorem dX11_price_54 : decode cX11_price 54 = .ok (.aload_n 3, 1) := by decide +kernel
theorem dX11_price_55 : decode cX11_price 55 = .ok (.aload_n 0, 1) := by decide +kernel
theorem dX11_price_56 : decode cX11_price 56 = .ok (.getfield 10, 3) := by decide +kernel
theorem dX11_price_59 : decode cX11_price 59 = .ok (.getfield 66, 3) := by decide +kernel
theorem dX11_price_62 : decode cX11_price 62 = .ok (.invokevirtual 356, 3) := by decide +kernel
theorem dX11_price_65 : decode cX11_price 65 = .ok (.iload_n 2, 1) := by decide +kernel
theorem dX11_price_66 : decode cX11_price 66 = .ok (.tableswitch 58 0 2 #[26, 42, 50], 26) := by decide +kernel
theorem dX11_price_92 : decode cX11_price 92 = .ok (.aload_n 0, 1) := by decide +kernel
theorem dX11_price_93 : decode cX11_price 93 = .ok (.getfield 40, 3) := by decide +kernel
theorem dX11_price_96 : decode cX11_price 96 = .ok (.getfield 359, 3) := by decide +kernel
theorem dX11_price_99 : decode cX11_price 99 = .ok (.aload_n 0, 1) := by decide +kernel
theorem dX11_price_100 : decode cX11_price 100 = .ok (.getfield 40, 3) := by decide +kernel
theorem dX11_price_103 : decode cX11_price 103 = .ok (.getfield 363, 3) := by decide +kernel
theorem dX11_price_106 : decode cX11_price 106 = .ok (.ladd, 1) := by decide +kernel
theorem dX11_price_107 : decode cX11_price 107 = .ok (.lreturn, 1) := by decide +kernel
theorem dX11_price_108 : decode cX11_price 108 = .ok (.aload_n 0, 1) := by decide +kernel
theorem dX11_price_109 : decode cX11_price 109 = .ok (.getfield 40, 3) := by decide +kernel
theorem dX11_price_112 : decode cX11_price 112 = .ok (.getfield 366, 3) := by decide +kernel
theorem dX11_price_115 : decode cX11_price 115 = .ok (.lreturn, 1) := by decide +kernel
theorem dX11_price_116 : decode cX11_price 116 = .ok (.aload_n 0, 1) := by decide +kernel
theorem dX11_price_117 : decode cX11_price 117 = .ok (.getfield 40, 3) := by decide +kernel
theorem dX11_price_120 : decode cX11_price 120 = .ok (.getfield 363, 3) := by decide +kernel
theorem dX11_price_123 : decode cX11_price 123 = .ok (.lreturn, 1) := by decide +kernel
theorem dX11_price_124 : decode cX11_price 124 = .ok (.aload_n 0, 1) := by decide +kernel
theorem dX11_price_125 : decode cX11_price 125 = .ok (.getfield 40, 3) := by decide +kernel
theorem dX11_price_128 : decode cX11_price 128 = .ok (.getfield 359, 3) := by decide +kernel
theorem dX11_price_131 : decode cX11_price 131 = .ok (.lreturn, 1) := by decide +kernel
def vb_X11_price_27 (post : Int64 → mj_M → Prop) (M : mj_M) : Prop := vc_X11_lost ((-2)) M (fun r1 M2 => post r1 M2)
def vc_X11_price (l0 : Nat) (l1 : Int32) (l2 : Int32) (M : mj_M) (post : Int64 → mj_M → Prop) : Prop := mj_tag M l0 = 12 ∧ mj_tag M (mj_r M l0 0) = 5 ∧ vc_X4_findLease (mj_r M l0 0) l1 M (fun r5 M6 => if r5 = 0 then (vc_X11_lost ((-1)) M6 (fun r32 M33 => post r32 M33)) else (if l2 < 0 then (vb_X11_price_27 post M6) else (if l2 ≤ 3 then (mj_tag M6 l0 = 12 ∧ mj_tag M6 (mj_r M6 l0 0) = 5 ∧ vc_X4_isInForce (mj_r M6 l0 0) r5 M6 (fun r12 M13 => if r12 = true then (mj_tag M13 l0 = 12 ∧ mj_tag M13 (mj_r M13 l0 0) = 5 ∧ mj_tag M13 (mj_r M13 l0 4) = 6 ∧ vc_X5_appraise (mj_r M13 l0 4) r5 (mj_i M13 (mj_r M13 l0 0) 0) M13 (fun _ M18 => if l2 = 0 then (mj_tag M18 l0 = 12 ∧ mj_tag M18 (mj_r M18 l0 4) = 6 ∧ post ((mj_l M18 (mj_r M18 l0 4) 8) + (mj_l M18 (mj_r M18 l0 4) 9)) M18) else (if l2 = 1 then (mj_tag M18 l0 = 12 ∧ mj_tag M18 (mj_r M18 l0 4) = 6 ∧ post (mj_l M18 (mj_r M18 l0 4) 6) M18) else (if l2 = 2 then (mj_tag M18 l0 = 12 ∧ mj_tag M18 (mj_r M18 l0 4) = 6 ∧ post (mj_l M18 (mj_r M18 l0 4) 9) M18) else (mj_tag M18 l0 = 12 ∧ mj_tag M18 (mj_r M18 l0 4) = 6 ∧ post (mj_l M18 (mj_r M18 l0 4) 8) M18))))) else (vc_X11_lost ((-3)) M13 (fun r30 M31 => post r30 M31)))) else (vb_X11_price_27 post M6))))
set_option maxHeartbeats 4000000 in
set_option maxRecDepth 100000 in
theorem xb_X11_price_27 {g : mj_G} {post : Int64 → mj_M → Prop} (hC : mj_C g yX11_price cX11_price 4 (some .long) rm_X11_price) (hE : mj_E g mj_jL post 0 0) (M : mj_M) (h : vb_X11_price_27 post M) : mj_X g 27 [] [] M 0 0 := by
  simp only [vb_X11_price_27] at h
  refine mx_bipush (v := (-2)) hC dX11_price_27 (by decide) ?_
  refine mx_callS (inj := mj_jL) (As := [vI ((-2))]) (st := []) hC (ct_X11_lost ((-2)) M _ h) ty_X11_lost tw548 rfl (Nat.le_of_ble_eq_true rfl) ⟨rfl, rfl, ⟨by decide, by decide⟩, by decide, by decide⟩ dX11_price_29 (fun r1 M2 h => ?_)
  show mj_X g 32 [] [vL r1] M2 0 0
  exact mx_lret hC hE rfl dX11_price_32 h
set_option maxHeartbeats 4000000 in
set_option maxRecDepth 100000 in
theorem ct_X11_price {l : Launch} {base : Nat} {D : va_G} {A : ClassId × ClassId × ClassId} (l0 : Nat) (l1 : Int32) (l2 : Int32) (M : mj_M) (post : Int64 → mj_M → Prop) (h : vc_X11_price l0 l1 l2 M post) : mj_Met l base D A mj_jL yX11_price cX11_price 4 (some .long) rm_X11_price 0 0 [vR l0, vI l1, vI l2] M post := by
  refine mj_entry (by decide +kernel) (Nat.le_of_ble_eq_true rfl) (fun g hC hE h1 h2 h3 h4 => ?_)
  show mj_X g 0 [(0, vR l0), (1, vI l1), (2, vI l2)] [] M 0 0
  simp only [vc_X11_price] at h
  refine mx_aload_n (j := 0) hC dX11_price_0 rfl rfl ?_
  obtain ⟨ht3, h⟩ := h
  refine mx_get (v := vR (mj_r M l0 0)) hC tf_X11_10 ht3 rfl dX11_price_1 ?_
  refine mx_iload_n (j := 1) hC dX11_price_4 rfl rfl ?_
  obtain ⟨ht4, h⟩ := h
  refine mx_callV (inj := mj_jR) (As := [vI l1]) (st := []) hC (ct_X4_findLease (mj_r M l0 0) l1 M _ h) ty_X4_findLease tw470 ht4 rfl (Nat.le_of_ble_eq_true rfl) ⟨rfl, rfl, ⟨by decide, by decide⟩, by decide, by decide⟩ dX11_price_5 (fun r5 M6 h => ?_)
  show mj_X g 8 [(0, vR l0), (1, vI l1), (2, vI l2)] [vR r5] M6 0 0
  refine mx_astore_n (L' := [(3, vR r5), (0, vR l0), (1, vI l1), (2, vI l2)]) hC dX11_price_8 rfl (by decide) rfl ?_
  refine mx_aload_n (j := 0) hC dX11_price_9 rfl rfl ?_
  refine mx_ifnonnull (tgt := 18) hC dX11_price_10 (by decide) (fun hc7 => ?_) (fun hc7 => ?_)
  · replace h := mj_nn hc7 h
    refine mx_iload_n (j := 3) hC dX11_price_18 rfl rfl ?_
    refine mx_iflt (tgt := 27) hC dX11_price_19 (by decide) (fun hc8 => ?_) (fun hc8 => ?_)
    · replace h := mj_yy hc8 h
      refine mx_sub (L' := []) [] rfl ?_
      exact show mj_X g 27 [] [] M6 0 0 from (xb_X11_price_27 hC hE M6 h)
    · replace h := mj_nn hc8 h
      refine mx_iload_n (j := 3) hC dX11_price_22 rfl rfl ?_
      refine mx_iconst (v := 3) hC dX11_price_23 (by decide) ?_
      refine mx_icmple (tgt := 33) hC dX11_price_24 (by decide) (fun hc9 => ?_) (fun hc9 => ?_)
      · replace h := mj_yy hc9 h
        refine mx_aload_n (j := 1) hC dX11_price_33 rfl rfl ?_
        obtain ⟨ht10, h⟩ := h
        refine mx_get (v := vR (mj_r M6 l0 0)) hC tf_X11_10 ht10 rfl dX11_price_34 ?_
        refine mx_aload_n (j := 0) hC dX11_price_37 rfl rfl ?_
        obtain ⟨ht11, h⟩ := h
        refine mx_callV (inj := mj_jB) (As := [vR r5]) (st := []) hC (ct_X4_isInForce (mj_r M6 l0 0) r5 M6 _ h) ty_X4_isInForce tw458 ht11 rfl (Nat.le_of_ble_eq_true rfl) ⟨rfl, rfl, ⟨by decide, by decide⟩, by decide, by decide⟩ dX11_price_38 (fun r12 M13 h => ?_)
        show mj_X g 41 [(3, vR r5), (0, vR l0), (1, vI l1), (2, vI l2)] [vI (mj_b r12)] M13 0 0
        refine mx_ifneB (tgt := 50) hC dX11_price_41 (by decide) (fun hc14 => ?_) (fun hc14 => ?_)
        · replace h := mj_yy hc14 h
          refine mx_aload_n (j := 1) hC dX11_price_50 rfl rfl ?_
          obtain ⟨ht15, h⟩ := h
          refine mx_get (v := vR (mj_r M13 l0 4)) hC tf_X11_40 ht15 rfl dX11_price_51 ?_
          refine mx_aload_n (j := 0) hC dX11_price_54 rfl rfl ?_
          refine mx_aload_n (j := 1) hC dX11_price_55 rfl rfl ?_
          refine mx_get (v := vR (mj_r M13 l0 0)) hC tf_X11_10 ht15 rfl dX11_price_56 ?_
          obtain ⟨ht16, h⟩ := h
          refine mx_get (v := vI (mj_i M13 (mj_r M13 l0 0) 0)) hC tf_X11_66 ht16 rfl dX11_price_59 ?_
          obtain ⟨ht17, h⟩ := h
          refine mx_callV (inj := mj_jV) (As := [vR r5, vI (mj_i M13 (mj_r M13 l0 0) 0)]) (st := []) hC (ct_X5_appraise (mj_r M13 l0 4) r5 (mj_i M13 (mj_r M13 l0 0) 0) M13 _ h) ty_X5_appraise tw1081 ht17 rfl (Nat.le_of_ble_eq_true rfl) ⟨rfl, rfl, ⟨by decide, by decide⟩, by decide, by decide⟩ dX11_price_62 (fun _ M18 h => ?_)
          show mj_X g 65 [(3, vR r5), (0, vR l0), (1, vI l1), (2, vI l2)] [] M18 0 0
          refine mx_iload_n (j := 3) hC dX11_price_65 rfl rfl ?_
          by_cases hc19 : l2 = 0
          · replace h := mj_yy hc19 h
            refine mx_tsin (v := 0) (off := 26) (tgt := 92) hC dX11_price_66 hc19 (by decide) (by decide) (by decide) (by decide) ?_
            refine mx_aload_n (j := 1) hC dX11_price_92 rfl rfl ?_
            obtain ⟨ht20, h⟩ := h
            refine mx_get (v := vR (mj_r M18 l0 4)) hC tf_X11_40 ht20 rfl dX11_price_93 ?_
            obtain ⟨ht21, h⟩ := h
            refine mx_get (v := vL (mj_l M18 (mj_r M18 l0 4) 8)) hC tf_X11_359 ht21 rfl dX11_price_96 ?_
            refine mx_aload_n (j := 1) hC dX11_price_99 rfl rfl ?_
            refine mx_get (v := vR (mj_r M18 l0 4)) hC tf_X11_40 ht20 rfl dX11_price_100 ?_
            refine mx_get (v := vL (mj_l M18 (mj_r M18 l0 4) 9)) hC tf_X11_363 ht21 rfl dX11_price_103 ?_
            refine mx_ladd hC dX11_price_106 ?_
            exact mx_lret hC hE rfl dX11_price_107 h
          replace h := mj_nn hc19 h
          by_cases hc22 : l2 = 1
          · replace h := mj_yy hc22 h
            refine mx_tsin (v := 1) (off := 42) (tgt := 108) hC dX11_price_66 hc22 (by decide) (by decide) (by decide) (by decide) ?_
            refine mx_aload_n (j := 1) hC dX11_price_108 rfl rfl ?_
            obtain ⟨ht23, h⟩ := h
            refine mx_get (v := vR (mj_r M18 l0 4)) hC tf_X11_40 ht23 rfl dX11_price_109 ?_
            obtain ⟨ht24, h⟩ := h
            refine mx_get (v := vL (mj_l M18 (mj_r M18 l0 4) 6)) hC tf_X11_366 ht24 rfl dX11_price_112 ?_
            exact mx_lret hC hE rfl dX11_price_115 h
          replace h := mj_nn hc22 h
          by_cases hc25 : l2 = 2
          · replace h := mj_yy hc25 h
            refine mx_tsin (v := 2) (off := 50) (tgt := 116) hC dX11_price_66 hc25 (by decide) (by decide) (by decide) (by decide) ?_
            refine mx_aload_n (j := 1) hC dX11_price_116 rfl rfl ?_
            obtain ⟨ht26, h⟩ := h
            refine mx_get (v := vR (mj_r M18 l0 4)) hC tf_X11_40 ht26 rfl dX11_price_117 ?_
            obtain ⟨ht27, h⟩ := h
            refine mx_get (v := vL (mj_l M18 (mj_r M18 l0 4) 9)) hC tf_X11_363 ht27 rfl dX11_price_120 ?_
            exact mx_lret hC hE rfl dX11_price_123 h
          replace h := mj_nn hc25 h
          refine mx_tsout (vs := [0, 1, 2]) (tgt := 124) hC dX11_price_66 (by decide) (by decide) (List.forall_mem_cons.mpr ⟨hc19, (List.forall_mem_cons.mpr ⟨hc22, (List.forall_mem_cons.mpr ⟨hc25, (fun _ q => absurd q List.not_mem_nil)⟩)⟩)⟩) ?_
          refine mx_aload_n (j := 1) hC dX11_price_124 rfl rfl ?_
          obtain ⟨ht28, h⟩ := h
          refine mx_get (v := vR (mj_r M18 l0 4)) hC tf_X11_40 ht28 rfl dX11_price_125 ?_
          obtain ⟨ht29, h⟩ := h
          refine mx_get (v := vL (mj_l M18 (mj_r M18 l0 4) 8)) hC tf_X11_359 ht29 rfl dX11_price_128 ?_
          exact mx_lret hC hE rfl dX11_price_131 h
        · replace h := mj_nn hc14 h
          refine mx_bipush (v := (-3)) hC dX11_price_44 (by decide) ?_
          refine mx_callS (inj := mj_jL) (As := [vI ((-3))]) (st := []) hC (ct_X11_lost ((-3)) M13 _ h) ty_X11_lost tw548 rfl (Nat.le_of_ble_eq_true rfl) ⟨rfl, rfl, ⟨by decide, by decide⟩, by decide, by decide⟩ dX11_price_46 (fun r30 M31 h => ?_)
          show mj_X g 49 [(3, vR r5), (0, vR l0), (1, vI l1), (2, vI l2)] [vL r30] M31 0 0
          exact mx_lret hC hE rfl dX11_price_49 h
      · replace h := mj_nn hc9 h
        refine mx_sub (L' := []) [] rfl ?_
        exact show mj_X g 27 [] [] M6 0 0 from (xb_X11_price_27 hC hE M6 h)
  · replace h := mj_yy hc7 h
    refine mx_iconst (v := (-1)) hC dX11_price_13 (by decide) ?_
    refine mx_callS (inj := mj_jL) (As := [vI ((-1))]) (st := []) hC (ct_X11_lost ((-1)) M6 _ h) ty_X11_lost tw548 rfl (Nat.le_of_ble_eq_true rfl) ⟨rfl, rfl, ⟨by decide, by decide⟩, by decide, by decide⟩ dX11_price_14 (fun r32 M33 h => ?_)
    show mj_X g 17 [(3, vR r5), (0, vR l0), (1, vI l1), (2, vI l2)] [vL r32] M33 0 0
    exact mx_lret hC hE rfl dX11_price_17 h
theorem tw1099 : (Jvm.Cond.methodLink "LeaseLand" (369 : Nat) ({ cls := "LeaseLand$Holding", name := "depth", desc := "()I" } : Jvm.MethodName)) ∈ mj_tbl := mj_w 1152 (by decide +kernel) (by decide +kernel)
theorem tw1100 : (Jvm.Cond.methodLink "LeaseLand" (372 : Nat) ({ cls := "LeaseLand$Market", name := "shareOf", desc := "(LLeaseLand$Holding;II)J" } : Jvm.MethodName)) ∈ mj_tbl := mj_w 1153 (by decide +kernel) (by decide +kernel)
theorem tw1103 : (Jvm.Cond.code ({ cls := "LeaseLand$Market", name := "shareOf", desc := "(LLeaseLand$Holding;II)J" } : Jvm.MethodName) prog_7_method_11_code (12 : Nat) (Option.some Jvm.ClassFile.FieldType.long)) ∈ mj_tbl := mj_w 1156 (by decide +kernel) (by decide +kernel)
theorem tw1101 : (Jvm.Cond.instanceMethod ({ cls := "LeaseLand$Market", name := "shareOf", desc := "(LLeaseLand$Holding;II)J" } : Jvm.MethodName)) ∈ mj_tbl := mj_w 1154 (by decide +kernel) (by decide +kernel)
theorem tw1102 : (Jvm.Cond.selects "LeaseLand$Market" ({ cls := "LeaseLand$Market", name := "shareOf", desc := "(LLeaseLand$Holding;II)J" } : Jvm.MethodName) ({ cls := "LeaseLand$Market", name := "shareOf", desc := "(LLeaseLand$Holding;II)J" } : Jvm.MethodName)) ∈ mj_tbl := mj_w 1155 (by decide +kernel) (by decide +kernel)
theorem ty_X5_shareOf : mj_YV 5 yX5_shareOf cX5_shareOf 12 (some .long) 3 := ⟨⟨tw1103, tw8, by decide +kernel, by decide +kernel, by decide +kernel⟩, tw1101, tw1102, _, rfl, rfl⟩
def rm_X11_share : Room := { frames := 5, cells := 0, slots := 0, locals := 119 }
theorem dX11_share_0 : decode cX11_share 0 = .ok (.aload_n 0, 1) := by decide +kernel
theorem dX11_share_1 : decode cX11_share 1 = .ok (.getfield 10, 3) := by decide +kernel
theorem dX11_share_4 : decode cX11_share 4 = .ok (.iload_n 1, 1) := by decide +kernel
theorem dX11_share_5 : decode cX11_share 5 = .ok (.invokevirtual 121, 3) := by decide +kernel
theorem dX11_share_8 : decode cX11_share 8 = .ok (.astore_n 3, 1) := by decide +kernel
theorem dX11_share_9 : decode cX11_share 9 = .ok (.aload_n 3, 1) := by decide +kernel
theorem dX11_share_10 : decode cX11_share 10 = .ok (.ifnonnull 8, 3) := by decide +kernel
theorem dX11_share_13 : decode cX11_share 13 = .ok (.iconst (-1), 1) := by decide +kernel
theorem dX11_share_14 : decode cX11_share 14 = .ok (.invokestatic 190, 3) := by decide +kernel
theorem dX11_share_17 : decode cX11_share 17 = .ok (.lreturn, 1) := by decide +kernel
theorem dX11_share_18 : decode cX11_share 18 = .ok (.aload_n 0, 1) := by decide +kernel
theorem dX11_share_19 : decode cX11_share 19 = .ok (.getfield 10, 3) := by decide +kernel
theorem dX11_share_22 : decode cX11_share 22 = .ok (.aload_n 3, 1) := by decide +kernel
theorem dX11_share_23 : decode cX11_share 23 = .ok (.invokevirtual 111, 3) := by decide +kernel
theorem dX11_share_26 : decode cX11_share 26 = .ok (.ifCond .ne 9, 3) := by decide +kernel
theorem dX11_share_29 : decode cX11_share 29 = .ok (.bipush (-3), 2) := by decide +kernel
theorem dX11_share_31 : decode cX11_share 31 = .ok (.invokestatic 190, 3) := by decide +kernel
theorem dX11_share_34 : decode cX11_share 34 = .ok (.lreturn, 1) := by decide +kernel
theorem dX11_share_35 : decode cX11_share 35 = .ok (.iload_n 2, 1) := by decide +kernel
theorem dX11_share_36 : decode cX11_share 36 = .ok (.ifCond .lt 11, 3) := by decide +kernel
theorem dX11_share_39 : decode cX11_share 39 = .ok (.iload_n 2, 1) := by decide +kernel
theorem dX11_share_40 : decode cX11_share 40 = .ok (.aload_n 3, 1) := by decide +kernel
theorem dX11_share_41 : decode cX11_share 41 = .ok (.invokevirtual 369, 3) := by decide +kernel
theorem dX11_share_44 : decode cX11_share 44 = .ok (.if_icmp .lt 9, 3) := by decide +kernel
theorem dX11_share_47 : decode cX11_share 47 = .ok (.bipush (-6), 2) := by decide +kernel
theorem dX11_share_49 : decode cX11_share 49 = .ok (.invokestatic 190, 3) := by decide +kernel
theorem dX11_share_52 : decode cX11_share 52 = .ok (.lreturn, 1) := by decide +kernel
theorem dX11_share_53 : decode cX11_share 53 = .ok (.aload_n 0, 1) := by decide +kernel
theorem dX11_share_54 : decode cX11_share 54 = .ok (.getfield 40, 3) := by decide +kernel
theorem dX11_share_57 : decode cX11_share 57 = .ok (.aload_n 3, 1) := by decide +kernel
theorem dX11_share_58 : decode cX11_share 58 = .ok (.aload_n 0, 1) := by decide +kernel
theorem dX11_share_59 : decode cX11_share 59 = .ok (.getfield 10, 3) := by decide +kernel
theorem dX11_share_62 : decode cX11_share 62 = .ok (.getfield 66, 3) := by decide +kernel
theorem dX11_share_65 : decode cX11_share 65 = .ok (.invokevirtual 356, 3) := by decide +kernel
theorem dX11_share_68 : decode cX11_share 68 = .ok (.aload_n 0, 1) := by decide +kernel
theorem dX11_share_69 : decode cX11_share 69 = .ok (.getfield 40, 3) := by decide +kernel
theorem dX11_share_72 : decode cX11_share 72 = .ok (.aload_n 3, 1) := by decide +kernel
theorem dX11_share_73 : decode cX11_share 73 = .ok (.iload_n 2, 1) := by decide +kernel
theorem dX11_share_74 : decode cX11_share 74 = .ok (.aload_n 0, 1) := by decide +kernel
theorem dX11_share_75 : decode cX11_share 75 = .ok (.getfield 10, 3) := by decide +kernel
theorem dX11_share_78 : decode cX11_share 78 = .ok (.getfield 66, 3) := by decide +kernel
theorem dX11_share_81 : decode cX11_share 81 = .ok (.invokevirtual 372, 3) := by decide +kernel
theorem dX11_share_84 : decode cX11_share 84 = .ok (.lreturn, 1) := by decide +kernel
def vb_X11_share_47 (post : Int64 → mj_M → Prop) (M : mj_M) : Prop := vc_X11_lost ((-6)) M (fun r1 M2 => post r1 M2)
def vc_X11_share (l0 : Nat) (l1 : Int32) (l2 : Int32) (M : mj_M) (post : Int64 → mj_M → Prop) : Prop := mj_tag M l0 = 12 ∧ mj_tag M (mj_r M l0 0) = 5 ∧ vc_X4_findLease (mj_r M l0 0) l1 M (fun r5 M6 => if r5 = 0 then (vc_X11_lost ((-1)) M6 (fun r29 M30 => post r29 M30)) else (mj_tag M6 l0 = 12 ∧ mj_tag M6 (mj_r M6 l0 0) = 5 ∧ vc_X4_isInForce (mj_r M6 l0 0) r5 M6 (fun r10 M11 => if r10 = true then (if l2 < 0 then (vb_X11_share_47 post M11) else (mj_tag M11 r5 = 4 ∧ vc_X3_depth r5 M11 (fun r15 M16 => if l2 < r15 then (mj_tag M16 l0 = 12 ∧ mj_tag M16 (mj_r M16 l0 0) = 5 ∧ mj_tag M16 (mj_r M16 l0 4) = 6 ∧ vc_X5_appraise (mj_r M16 l0 4) r5 (mj_i M16 (mj_r M16 l0 0) 0) M16 (fun _ M21 => mj_tag M21 l0 = 12 ∧ mj_tag M21 (mj_r M21 l0 0) = 5 ∧ mj_tag M21 (mj_r M21 l0 4) = 6 ∧ vc_X5_shareOf (mj_r M21 l0 4) r5 l2 (mj_i M21 (mj_r M21 l0 0) 0) M21 (fun r25 M26 => post r25 M26))) else (vb_X11_share_47 post M16)))) else (vc_X11_lost ((-3)) M11 (fun r27 M28 => post r27 M28)))))
set_option maxHeartbeats 4000000 in
set_option maxRecDepth 100000 in
theorem xb_X11_share_47 {g : mj_G} {post : Int64 → mj_M → Prop} (hC : mj_C g yX11_share cX11_share 4 (some .long) rm_X11_share) (hE : mj_E g mj_jL post 0 0) (M : mj_M) (h : vb_X11_share_47 post M) : mj_X g 47 [] [] M 0 0 := by
  simp only [vb_X11_share_47] at h
  refine mx_bipush (v := (-6)) hC dX11_share_47 (by decide) ?_
  refine mx_callS (inj := mj_jL) (As := [vI ((-6))]) (st := []) hC (ct_X11_lost ((-6)) M _ h) ty_X11_lost tw548 rfl (Nat.le_of_ble_eq_true rfl) ⟨rfl, rfl, ⟨by decide, by decide⟩, by decide, by decide⟩ dX11_share_49 (fun r1 M2 h => ?_)
  show mj_X g 52 [] [vL r1] M2 0 0
  exact mx_lret hC hE rfl dX11_share_52 h
set_option maxHeartbeats 4000000 in
set_option maxRecDepth 100000 in
theorem ct_X11_share {l : Launch} {base : Nat} {D : va_G} {A : ClassId × ClassId × ClassId} (l0 : Nat) (l1 : Int32) (l2 : Int32) (M : mj_M) (post : Int64 → mj_M → Prop) (h : vc_X11_share l0 l1 l2 M post) : mj_Met l base D A mj_jL yX11_share cX11_share 4 (some .long) rm_X11_share 0 0 [vR l0, vI l1, vI l2] M post := by
  refine mj_entry (by decide +kernel) (Nat.le_of_ble_eq_true rfl) (fun g hC hE h1 h2 h3 h4 => ?_)
  show mj_X g 0 [(0, vR l0), (1, vI l1), (2, vI l2)] [] M 0 0
  simp only [vc_X11_share] at h
  refine mx_aload_n (j := 0) hC dX11_share_0 rfl rfl ?_
  obtain ⟨ht3, h⟩ := h
  refine mx_get (v := vR (mj_r M l0 0)) hC tf_X11_10 ht3 rfl dX11_share_1 ?_
  refine mx_iload_n (j := 1) hC dX11_share_4 rfl rfl ?_
  obtain ⟨ht4, h⟩ := h
  refine mx_callV (inj := mj_jR) (As := [vI l1]) (st := []) hC (ct_X4_findLease (mj_r M l0 0) l1 M _ h) ty_X4_findLease tw470 ht4 rfl (Nat.le_of_ble_eq_true rfl) ⟨rfl, rfl, ⟨by decide, by decide⟩, by decide, by decide⟩ dX11_share_5 (fun r5 M6 h => ?_)
  show mj_X g 8 [(0, vR l0), (1, vI l1), (2, vI l2)] [vR r5] M6 0 0
  refine mx_astore_n (L' := [(3, vR r5), (0, vR l0), (1, vI l1), (2, vI l2)]) hC dX11_share_8 rfl (by decide) rfl ?_
  refine mx_aload_n (j := 0) hC dX11_share_9 rfl rfl ?_
  refine mx_ifnonnull (tgt := 18) hC dX11_share_10 (by decide) (fun hc7 => ?_) (fun hc7 => ?_)
  · replace h := mj_nn hc7 h
    refine mx_aload_n (j := 1) hC dX11_share_18 rfl rfl ?_
    obtain ⟨ht8, h⟩ := h
    refine mx_get (v := vR (mj_r M6 l0 0)) hC tf_X11_10 ht8 rfl dX11_share_19 ?_
    refine mx_aload_n (j := 0) hC dX11_share_22 rfl rfl ?_
    obtain ⟨ht9, h⟩ := h
    refine mx_callV (inj := mj_jB) (As := [vR r5]) (st := []) hC (ct_X4_isInForce (mj_r M6 l0 0) r5 M6 _ h) ty_X4_isInForce tw458 ht9 rfl (Nat.le_of_ble_eq_true rfl) ⟨rfl, rfl, ⟨by decide, by decide⟩, by decide, by decide⟩ dX11_share_23 (fun r10 M11 h => ?_)
    show mj_X g 26 [(3, vR r5), (0, vR l0), (1, vI l1), (2, vI l2)] [vI (mj_b r10)] M11 0 0
    refine mx_ifneB (tgt := 35) hC dX11_share_26 (by decide) (fun hc12 => ?_) (fun hc12 => ?_)
    · replace h := mj_yy hc12 h
      refine mx_iload_n (j := 3) hC dX11_share_35 rfl rfl ?_
      refine mx_iflt (tgt := 47) hC dX11_share_36 (by decide) (fun hc13 => ?_) (fun hc13 => ?_)
      · replace h := mj_yy hc13 h
        refine mx_sub (L' := []) [] rfl ?_
        exact show mj_X g 47 [] [] M11 0 0 from (xb_X11_share_47 hC hE M11 h)
      · replace h := mj_nn hc13 h
        refine mx_iload_n (j := 3) hC dX11_share_39 rfl rfl ?_
        refine mx_aload_n (j := 0) hC dX11_share_40 rfl rfl ?_
        obtain ⟨ht14, h⟩ := h
        refine mx_callV (inj := mj_jI) (As := []) (st := [vI l2]) hC (ct_X3_depth r5 M11 _ h) ty_X3_depth tw1099 ht14 rfl (Nat.le_of_ble_eq_true rfl) ⟨rfl, rfl, ⟨by decide, by decide⟩, by decide, by decide⟩ dX11_share_41 (fun r15 M16 h => ?_)
        show mj_X g 44 [(3, vR r5), (0, vR l0), (1, vI l1), (2, vI l2)] [vI r15, vI l2] M16 0 0
        refine mx_icmplt (tgt := 53) hC dX11_share_44 (by decide) (fun hc17 => ?_) (fun hc17 => ?_)
        · replace h := mj_yy hc17 h
          refine mx_aload_n (j := 1) hC dX11_share_53 rfl rfl ?_
          obtain ⟨ht18, h⟩ := h
          refine mx_get (v := vR (mj_r M16 l0 4)) hC tf_X11_40 ht18 rfl dX11_share_54 ?_
          refine mx_aload_n (j := 0) hC dX11_share_57 rfl rfl ?_
          refine mx_aload_n (j := 1) hC dX11_share_58 rfl rfl ?_
          refine mx_get (v := vR (mj_r M16 l0 0)) hC tf_X11_10 ht18 rfl dX11_share_59 ?_
          obtain ⟨ht19, h⟩ := h
          refine mx_get (v := vI (mj_i M16 (mj_r M16 l0 0) 0)) hC tf_X11_66 ht19 rfl dX11_share_62 ?_
          obtain ⟨ht20, h⟩ := h
          refine mx_callV (inj := mj_jV) (As := [vR r5, vI (mj_i M16 (mj_r M16 l0 0) 0)]) (st := []) hC (ct_X5_appraise (mj_r M16 l0 4) r5 (mj_i M16 (mj_r M16 l0 0) 0) M16 _ h) ty_X5_appraise tw1081 ht20 rfl (Nat.le_of_ble_eq_true rfl) ⟨rfl, rfl, ⟨by decide, by decide⟩, by decide, by decide⟩ dX11_share_65 (fun _ M21 h => ?_)
          show mj_X g 68 [(3, vR r5), (0, vR l0), (1, vI l1), (2, vI l2)] [] M21 0 0
          refine mx_aload_n (j := 1) hC dX11_share_68 rfl rfl ?_
          obtain ⟨ht22, h⟩ := h
          refine mx_get (v := vR (mj_r M21 l0 4)) hC tf_X11_40 ht22 rfl dX11_share_69 ?_
          refine mx_aload_n (j := 0) hC dX11_share_72 rfl rfl ?_
          refine mx_iload_n (j := 3) hC dX11_share_73 rfl rfl ?_
          refine mx_aload_n (j := 1) hC dX11_share_74 rfl rfl ?_
          refine mx_get (v := vR (mj_r M21 l0 0)) hC tf_X11_10 ht22 rfl dX11_share_75 ?_
          obtain ⟨ht23, h⟩ := h
          refine mx_get (v := vI (mj_i M21 (mj_r M21 l0 0) 0)) hC tf_X11_66 ht23 rfl dX11_share_78 ?_
          obtain ⟨ht24, h⟩ := h
          refine mx_callV (inj := mj_jL) (As := [vR r5, vI l2, vI (mj_i M21 (mj_r M21 l0 0) 0)]) (st := []) hC (ct_X5_shareOf (mj_r M21 l0 4) r5 l2 (mj_i M21 (mj_r M21 l0 0) 0) M21 _ h) ty_X5_shareOf tw1100 ht24 rfl (Nat.le_of_ble_eq_true rfl) ⟨rfl, rfl, ⟨by decide, by decide⟩, by decide, by decide⟩ dX11_share_81 (fun r25 M26 h => ?_)
          show mj_X g 84 [(3, vR r5), (0, vR l0), (1, vI l1), (2, vI l2)] [vL r25] M26 0 0
          exact mx_lret hC hE rfl dX11_share_84 h
        · replace h := mj_nn hc17 h
          refine mx_sub (L' := []) [] rfl ?_
          exact show mj_X g 47 [] [] M16 0 0 from (xb_X11_share_47 hC hE M16 h)
    · replace h := mj_nn hc12 h
      refine mx_bipush (v := (-3)) hC dX11_share_29 (by decide) ?_
      refine mx_callS (inj := mj_jL) (As := [vI ((-3))]) (st := []) hC (ct_X11_lost ((-3)) M11 _ h) ty_X11_lost tw548 rfl (Nat.le_of_ble_eq_true rfl) ⟨rfl, rfl, ⟨by decide, by decide⟩, by decide, by decide⟩ dX11_share_31 (fun r27 M28 h => ?_)
      show mj_X g 34 [(3, vR r5), (0, vR l0), (1, vI l1), (2, vI l2)] [vL r27] M28 0 0
      exact mx_lret hC hE rfl dX11_share_34 h
  · replace h := mj_yy hc7 h
    refine mx_iconst (v := (-1)) hC dX11_share_13 (by decide) ?_
    refine mx_callS (inj := mj_jL) (As := [vI ((-1))]) (st := []) hC (ct_X11_lost ((-1)) M6 _ h) ty_X11_lost tw548 rfl (Nat.le_of_ble_eq_true rfl) ⟨rfl, rfl, ⟨by decide, by decide⟩, by decide, by decide⟩ dX11_share_14 (fun r29 M30 h => ?_)
    show mj_X g 17 [(3, vR r5), (0, vR l0), (1, vI l1), (2, vI l2)] [vL r29] M30 0 0
    exact mx_lret hC hE rfl dX11_share_17 h
def rm_X11_isPersons : Room := { frames := 0, cells := 0, slots := 0, locals := 0 }
theorem dX11_isPersons_0 : decode cX11_isPersons 0 = .ok (.iload_n 0, 1) := by decide +kernel
theorem dX11_isPersons_1 : decode cX11_isPersons 1 = .ok (.ifCond .lt 14, 3) := by decide +kernel
theorem dX11_isPersons_4 : decode cX11_isPersons 4 = .ok (.iload_n 0, 1) := by decide +kernel
theorem dX11_isPersons_5 : decode cX11_isPersons 5 = .ok (.sipush 1024, 3) := by decide +kernel
theorem dX11_isPersons_8 : decode cX11_isPersons 8 = .ok (.if_icmp .ge 7, 3) := by decide +kernel
theorem dX11_isPersons_11 : decode cX11_isPersons 11 = .ok (.iconst 1, 1) := by decide +kernel
theorem dX11_isPersons_12 : decode cX11_isPersons 12 = .ok (.goto 4, 3) := by decide +kernel
theorem dX11_isPersons_15 : decode cX11_isPersons 15 = .ok (.iconst 0, 1) := by decide +kernel
theorem dX11_isPersons_16 : decode cX11_isPersons 16 = .ok (.ireturn, 1) := by decide +kernel
def vc_X11_isPersons (l0 : Int32) (M : mj_M) (post : Bool → mj_M → Prop) : Prop := if l0 < 0 then (post false M) else (if 1024 ≤ l0 then (post false M) else (post true M))
set_option maxHeartbeats 4000000 in
set_option maxRecDepth 100000 in
theorem ct_X11_isPersons {l : Launch} {base : Nat} {D : va_G} {A : ClassId × ClassId × ClassId} (l0 : Int32) (M : mj_M) (post : Bool → mj_M → Prop) (h : vc_X11_isPersons l0 M post) : mj_Met l base D A mj_jB yX11_isPersons cX11_isPersons 1 (some .boolean) rm_X11_isPersons 0 0 [vI l0] M post := by
  refine mj_entry (by decide +kernel) (Nat.le_of_ble_eq_true rfl) (fun g hC hE h1 h2 h3 h4 => ?_)
  show mj_X g 0 [(0, vI l0)] [] M 0 0
  simp only [vc_X11_isPersons] at h
  refine mx_iload_n (j := 0) hC dX11_isPersons_0 rfl rfl ?_
  refine mx_iflt (tgt := 15) hC dX11_isPersons_1 (by decide) (fun hc1 => ?_) (fun hc1 => ?_)
  · replace h := mj_yy hc1 h
    refine mx_iconst (v := 0) hC dX11_isPersons_15 (by decide) ?_
    exact mx_zret (b := false) hC hE rfl dX11_isPersons_16 h
  · replace h := mj_nn hc1 h
    refine mx_iload_n (j := 0) hC dX11_isPersons_4 rfl rfl ?_
    refine mx_sipush (v := 1024) hC dX11_isPersons_5 (by decide) ?_
    refine mx_icmpge (tgt := 15) hC dX11_isPersons_8 (by decide) (fun hc2 => ?_) (fun hc2 => ?_)
    · replace h := mj_yy hc2 h
      refine mx_iconst (v := 0) hC dX11_isPersons_15 (by decide) ?_
      exact mx_zret (b := false) hC hE rfl dX11_isPersons_16 h
    · replace h := mj_nn hc2 h
      refine mx_iconst (v := 1) hC dX11_isPersons_11 (by decide) ?_
      refine mx_goto (tgt := 16) hC dX11_isPersons_12 (by decide) ?_
      exact mx_zret (b := true) hC hE rfl dX11_isPersons_16 h
theorem tw1119 : (Jvm.Cond.methodLink "LeaseLand" (393 : Nat) ({ cls := "java/util/Arrays", name := "fill", desc := "([II)V" } : Jvm.MethodName)) ∈ mj_tbl := mj_w 1172 (by decide +kernel) (by decide +kernel)
theorem tw1120 : (Jvm.Cond.methodLink "LeaseLand" (399 : Nat) ({ cls := "LeaseLand$Holding", name := "hasFloor", desc := "(I)Z" } : Jvm.MethodName)) ∈ mj_tbl := mj_w 1173 (by decide +kernel) (by decide +kernel)
theorem tw1121 : (Jvm.Cond.methodLink "LeaseLand" (402 : Nat) ({ cls := "LeaseLand$Land", name := "lastOf", desc := "(I)LLeaseLand$Holding;" } : Jvm.MethodName)) ∈ mj_tbl := mj_w 1174 (by decide +kernel) (by decide +kernel)
theorem tw1124 : (Jvm.Cond.code ({ cls := "LeaseLand$Land", name := "lastOf", desc := "(I)LLeaseLand$Holding;" } : Jvm.MethodName) prog_6_method_31_code (5 : Nat) (Option.some (Jvm.ClassFile.FieldType.object "LeaseLand$Holding"))) ∈ mj_tbl := mj_w 1177 (by decide +kernel) (by decide +kernel)
theorem tw1122 : (Jvm.Cond.instanceMethod ({ cls := "LeaseLand$Land", name := "lastOf", desc := "(I)LLeaseLand$Holding;" } : Jvm.MethodName)) ∈ mj_tbl := mj_w 1175 (by decide +kernel) (by decide +kernel)
theorem tw1123 : (Jvm.Cond.selects "LeaseLand$Land" ({ cls := "LeaseLand$Land", name := "lastOf", desc := "(I)LLeaseLand$Holding;" } : Jvm.MethodName) ({ cls := "LeaseLand$Land", name := "lastOf", desc := "(I)LLeaseLand$Holding;" } : Jvm.MethodName)) ∈ mj_tbl := mj_w 1176 (by decide +kernel) (by decide +kernel)
theorem ty_X4_lastOf : mj_YV 4 yX4_lastOf cX4_lastOf 5 (some (.object "LeaseLand$Holding")) 1 := ⟨⟨tw1124, tw2, by decide +kernel, by decide +kernel, by decide +kernel⟩, tw1122, tw1123, _, rfl, rfl⟩
def rm_X11_countJoined : Room := { frames := 10, cells := 0, slots := 0, locals := 297 }
theorem dX11_countJoined_0 : decode cX11_countJoined 0 = .ok (.aload_n 0, 1) := by decide +kernel
theorem dX11_countJoined_1 : decode cX11_countJoined 1 = .ok (.getfield 58, 3) := by decide +kernel
theorem dX11_countJoined_4 : decode cX11_countJoined 4 = .ok (.iconst 0, 1) := by decide +kernel
theorem dX11_countJoined_5 : decode cX11_countJoined 5 = .ok (.invokestatic 393, 3) := by decide +kernel
theorem dX11_countJoined_8 : decode cX11_countJoined 8 = .ok (.aload_n 0, 1) := by decide +kernel
theorem dX11_countJoined_9 : decode cX11_countJoined 9 = .ok (.getfield 19, 3) := by decide +kernel
theorem dX11_countJoined_12 : decode cX11_countJoined 12 = .ok (.iconst 3, 1) := by decide +kernel
theorem dX11_countJoined_13 : decode cX11_countJoined 13 = .ok (.aload_n 0, 1) := by decide +kernel
theorem dX11_countJoined_14 : decode cX11_countJoined 14 = .ok (.getfield 10, 3) := by decide +kernel
theorem dX11_countJoined_17 : decode cX11_countJoined 17 = .ok (.getfield 66, 3) := by decide +kernel
theorem dX11_countJoined_20 : decode cX11_countJoined 20 = .ok (.invokevirtual 223, 3) := by decide +kernel
theorem dX11_countJoined_23 : decode cX11_countJoined 23 = .ok (.astore_n 2, 1) := by decide +kernel
theorem dX11_countJoined_24 : decode cX11_countJoined 24 = .ok (.iconst 0, 1) := by decide +kernel
theorem dX11_countJoined_25 : decode cX11_countJoined 25 = .ok (.istore_n 3, 1) := by decide +kernel
theorem dX11_countJoined_26 : decode cX11_countJoined 26 = .ok (.iload_n 3, 1) := by decide +kernel
theorem dX11_countJoined_27 : decode cX11_countJoined 27 = .ok (.bipush 12, 2) := by decide +kernel
theorem dX11_countJoined_29 : decode cX11_countJoined 29 = .ok (.if_icmp .ge 103, 3) := by decide +kernel
theorem dX11_countJoined_32 : decode cX11_countJoined 32 = .ok (.aload_n 1, 1) := by decide +kernel
theorem dX11_countJoined_33 : decode cX11_countJoined 33 = .ok (.iload_n 3, 1) := by decide +kernel
theorem dX11_countJoined_34 : decode cX11_countJoined 34 = .ok (.invokevirtual 399, 3) := by decide +kernel
theorem dX11_countJoined_37 : decode cX11_countJoined 37 = .ok (.ifCond .eq 14, 3) := by decide +kernel
theorem dX11_countJoined_40 : decode cX11_countJoined 40 = .ok (.aload_n 0, 1) := by decide +kernel
theorem dX11_countJoined_41 : decode cX11_countJoined 41 = .ok (.getfield 10, 3) := by decide +kernel
theorem dX11_countJoined_44 : decode cX11_countJoined 44 = .ok (.iload_n 3, 1) := by decide +kernel
theorem dX11_countJoined_45 : decode cX11_countJoined 45 = .ok (.invokevirtual 402, 3) := by decide +kernel
theorem dX11_countJoined_48 : decode cX11_countJoined 48 = .ok (.goto 4, 3) := by decide +kernel
theorem dX11_countJoined_51 : decode cX11_countJoined 51 = .ok (.aconst_null, 1) := by decide +kernel
theorem dX11_countJoined_52 : decode cX11_countJoined 52 = .ok (.astore 4, 2) := by decide +kernel
theorem dX11_countJoined_54 : decode cX11_countJoined 54 = .ok (.aload 4, 2) := by decide +kernel
theorem dX11_countJoined_56 : decode cX11_countJoined 56 = .ok (.ifnull 15, 3) := by decide +kernel
theorem dX11_countJoined_59 : decode cX11_countJoined 59 = .ok (.aload 4, 2) := by decide +kernel
theorem dX11_countJoined_61 : decode cX11_countJoined 61 = .ok (.getfield 132, 3) := by decide +kernel
theorem dX11_countJoined_64 : decode cX11_countJoined 64 = .ok (.ifnull 7, 3) := by decide +kernel
theorem dX11_countJoined_67 : decode cX11_countJoined 67 = .ok (.iconst 1, 1) := by decide +kernel
theorem dX11_countJoined_68 : decode cX11_countJoined 68 = .ok (.goto 4, 3) := by decide +kernel
theorem dX11_countJoined_71 : decode cX11_countJoined 71 = .ok (.iconst 0, 1) := by decide +kernel
theorem dX11_countJoined_72 : decode cX11_countJoined 72 = .ok (.istore 5, 2) := by decide +kernel
theorem dX11_countJoined_74 : decode cX11_countJoined 74 = .ok (.iload 5, 2) := by decide +kernel
theorem dX11_countJoined_76 : decode cX11_countJoined 76 = .ok (.ifCond .eq 50, 3) := by decide +kernel
theorem dX11_countJoined_79 : decode cX11_countJoined 79 = .ok (.aload_n 2, 1) := by decide +kernel
theorem dX11_countJoined_80 : decode cX11_countJoined 80 = .ok (.ifnull 46, 3) := by decide +kernel
theorem dX11_countJoined_83 : decode cX11_countJoined 83 = .ok (.aload_n 0, 1) := by decide +kernel
theorem dX11_countJoined_84 : decode cX11_countJoined 84 = .ok (.getfield 26, 3) := by decide +kernel
theorem dX11_countJoined_87 : decode cX11_countJoined 87 = .ok (.aload_n 2, 1) := by decide +kernel
theorem dX11_countJoined_88 : decode cX11_countJoined 88 = .ok (.getfield 231, 3) := by decide +kernel
theorem dX11_countJoined_91 : decode cX11_countJoined 91 = .ok (.aload_n 0, 1) := by decide +kernel
theorem dX11_countJoined_92 : decode cX11_countJoined 92 = .ok (.getfield 10, 3) := by decide +kernel
theorem dX11_countJoined_95 : decode cX11_countJoined 95 = .ok (.aload 4, 2) := by decide +kernel
theorem dX11_countJoined_97 : decode cX11_countJoined 97 = .ok (.aload_n 0, 1) := by decide +kernel
theorem dX11_countJoined_98 : decode cX11_countJoined 98 = .ok (.getfield 10, 3) := by decide +kernel
theorem dX11_countJoined_101 : decode cX11_countJoined 101 = .ok (.getfield 66, 3) := by decide +kernel
theorem dX11_countJoined_104 : decode cX11_countJoined 104 = .ok (.bipush (-6), 2) := by decide +kernel
theorem dX11_countJoined_106 : decode cX11_countJoined 106 = .ok (.invokevirtual 236, 3) := by decide +kernel
theorem dX11_countJoined_109 : decode cX11_countJoined 109 = .ok (.ifCond .eq 17, 3) := by decide +kernel
theorem dX11_countJoined_112 : decode cX11_countJoined 112 = .ok (.aload_n 0, 1) := by decide +kernel
theorem dX11_countJoined_113 : decode cX11_countJoined 113 = .ok (.getfield 58, 3) := by decide +kernel
theorem dX11_countJoined_116 : decode cX11_countJoined 116 = .ok (.aload 4, 2) := by decide +kernel
theorem dX11_countJoined_118 : decode cX11_countJoined 118 = .ok (.getfield 115, 3) := by decide +kernel
theorem dX11_countJoined_121 : decode cX11_countJoined 121 = .ok (.dup2, 1) := by decide +kernel
theorem dX11_countJoined_122 : decode cX11_countJoined 122 = .ok (.iaload, 1) := by decide +kernel
theorem dX11_countJoined_123 : decode cX11_countJoined 123 = .ok (.iconst 1, 1) := by decide +kernel
theorem dX11_countJoined_124 : decode cX11_countJoined 124 = .ok (.iadd, 1) := by decide +kernel
theorem dX11_countJoined_125 : decode cX11_countJoined 125 = .ok (.iastore, 1) := by decide +kernel
theorem dX11_countJoined_126 : decode cX11_countJoined 126 = .ok (.iinc 3 1, 3) := by decide +kernel
theorem dX11_countJoined_129 : decode cX11_countJoined 129 = .ok (.goto (-103), 3) := by decide +kernel
theorem dX11_countJoined_132 : decode cX11_countJoined 132 = .ok (.return_, 1) := by decide +kernel
def vb_X11_countJoined_72 (k26 : Nat → Nat → Nat → Int32 → mj_M → Prop) (post : Unit → mj_M → Prop) (l0 : Nat) (l1 : Nat) (l2 : Nat) (l3 : Int32) (l4 : Nat) (s0 : Bool) (M : mj_M) : Prop := if s0 = true then (if l2 = 0 then (k26 l0 l1 l2 (l3 + 1) M) else (mj_tag M l0 = 12 ∧ mj_tag M l2 = 1 ∧ mj_tag M (mj_r M l0 0) = 5 ∧ mj_tag M (mj_r M l0 2) = 9 ∧ vc_X8_isSo (mj_r M l0 2) (mj_r M l2 2) (mj_r M l0 0) l4 (mj_i M (mj_r M l0 0) 0) ((-6)) M (fun r7 M8 => if r7 = true then (mj_tag M8 l0 = 12 ∧ mj_tag M8 l4 = 4 ∧ mj_tag M8 (mj_r M8 l0 7) = 101 ∧ vp_in (mj_i M8 l4 8) (mj_len M8 (mj_r M8 l0 7)) ∧ k26 l0 l1 l2 (l3 + 1) (mj_wi M8 (mj_r M8 l0 7) (mj_i M8 l4 8 : Int32).toNatClampNeg ((mj_i M8 (mj_r M8 l0 7) (mj_i M8 l4 8 : Int32).toNatClampNeg) + 1))) else (k26 l0 l1 l2 (l3 + 1) M8)))) else (k26 l0 l1 l2 (l3 + 1) M)
def vb_X11_countJoined_71 (k26 : Nat → Nat → Nat → Int32 → mj_M → Prop) (post : Unit → mj_M → Prop) (l0 : Nat) (l1 : Nat) (l2 : Nat) (l3 : Int32) (l4 : Nat) (M : mj_M) : Prop := vb_X11_countJoined_72 k26 post l0 l1 l2 l3 l4 false M
def vb_X11_countJoined_52 (k26 : Nat → Nat → Nat → Int32 → mj_M → Prop) (post : Unit → mj_M → Prop) (l0 : Nat) (l1 : Nat) (l2 : Nat) (l3 : Int32) (s0 : Nat) (M : mj_M) : Prop := if s0 = 0 then (vb_X11_countJoined_71 k26 post l0 l1 l2 l3 s0 M) else (mj_tag M s0 = 4 ∧ if (mj_r M s0 2) = 0 then (vb_X11_countJoined_71 k26 post l0 l1 l2 l3 s0 M) else (vb_X11_countJoined_72 k26 post l0 l1 l2 l3 s0 true M))
def vb_X11_countJoined_26 (post : Unit → mj_M → Prop) : Nat → Nat → Nat → Nat → Int32 → mj_M → Prop
  | 0 => fun _ _ _ _ _ => False
  | f + 1 => fun l0 l1 l2 l3 M => if 12 ≤ l3 then (post () M) else (mj_tag M l1 = 4 ∧ vc_X3_hasFloor l1 l3 M (fun r19 M20 => if r19 = true then (mj_tag M20 l0 = 12 ∧ mj_tag M20 (mj_r M20 l0 0) = 5 ∧ vc_X4_lastOf (mj_r M20 l0 0) l3 M20 (fun r24 M25 => vb_X11_countJoined_52 (vb_X11_countJoined_26 post f) post l0 l1 l2 l3 r24 M25)) else (vb_X11_countJoined_52 (vb_X11_countJoined_26 post f) post l0 l1 l2 l3 0 M20)))
def vc_X11_countJoined (l0 : Nat) (l1 : Nat) (M : mj_M) (post : Unit → mj_M → Prop) : Prop := mj_tag M l0 = 12 ∧ vc_J7_fill_53178 (mj_r M l0 7) 0 M (fun _ M27 => mj_tag M27 l0 = 12 ∧ mj_tag M27 (mj_r M27 l0 0) = 5 ∧ mj_tag M27 (mj_r M27 l0 1) = 2 ∧ vc_X1_inForce (mj_r M27 l0 1) 3 (mj_i M27 (mj_r M27 l0 0) 0) M27 (fun r31 M32 => ∃ fe, vb_X11_countJoined_26 post fe l0 l1 r31 0 M32))
set_option maxHeartbeats 4000000 in
set_option maxRecDepth 100000 in
theorem xb_X11_countJoined_72 {g : mj_G} {post : Unit → mj_M → Prop} (hC : mj_C g yX11_countJoined cX11_countJoined 6 (none) rm_X11_countJoined) (hE : mj_E g mj_jV post 0 0) {k26 : Nat → Nat → Nat → Int32 → mj_M → Prop} (hk26 : ∀ (l0 : Nat) (l1 : Nat) (l2 : Nat) (l3 : Int32) (M : mj_M), k26 l0 l1 l2 l3 M → mj_X g 26 [(0, vR l0), (1, vR l1), (2, vR l2), (3, vI l3)] [] M 0 0) (l0 : Nat) (l1 : Nat) (l2 : Nat) (l3 : Int32) (l4 : Nat) (s0 : Bool) (M : mj_M) (h : vb_X11_countJoined_72 k26 post l0 l1 l2 l3 l4 s0 M) : mj_X g 72 [(0, vR l0), (1, vR l1), (2, vR l2), (3, vI l3), (4, vR l4)] [vI (mj_b s0)] M 0 0 := by
  simp only [vb_X11_countJoined_72] at h
  refine mx_istore (L' := [(5, vI (mj_b s0)), (0, vR l0), (1, vR l1), (2, vR l2), (3, vI l3), (4, vR l4)]) hC dX11_countJoined_72 (by decide) rfl ?_
  refine mx_iload (j := 0) hC dX11_countJoined_74 rfl ?_
  refine mx_ifeqB (tgt := 126) hC dX11_countJoined_76 (by decide) (fun hc1 => ?_) (fun hc1 => ?_)
  · replace h := mj_nn hc1 h
    refine mx_iinc (j := 4) (v := l3 + 1) (L' := [(3, vI (l3 + 1)), (5, vI (mj_b s0)), (0, vR l0), (1, vR l1), (2, vR l2), (4, vR l4)]) hC dX11_countJoined_126 rfl rfl (by decide) rfl ?_
    refine mx_goto (tgt := 26) hC dX11_countJoined_129 (by decide) ?_
    refine mx_sub (L' := [(0, vR l0), (1, vR l1), (2, vR l2), (3, vI (l3 + 1))]) [2, 3, 4, 0] rfl ?_
    exact show mj_X g 26 [(0, vR l0), (1, vR l1), (2, vR l2), (3, vI (l3 + 1))] [] M 0 0 from (hk26 l0 l1 l2 (l3 + 1) M h)
  · replace h := mj_yy hc1 h
    refine mx_aload_n (j := 3) hC dX11_countJoined_79 rfl rfl ?_
    refine mx_ifnull (tgt := 126) hC dX11_countJoined_80 (by decide) (fun hc2 => ?_) (fun hc2 => ?_)
    · replace h := mj_yy hc2 h
      refine mx_iinc (j := 4) (v := l3 + 1) (L' := [(3, vI (l3 + 1)), (5, vI (mj_b s0)), (0, vR l0), (1, vR l1), (2, vR l2), (4, vR l4)]) hC dX11_countJoined_126 rfl rfl (by decide) rfl ?_
      refine mx_goto (tgt := 26) hC dX11_countJoined_129 (by decide) ?_
      refine mx_sub (L' := [(0, vR l0), (1, vR l1), (2, vR l2), (3, vI (l3 + 1))]) [2, 3, 4, 0] rfl ?_
      exact show mj_X g 26 [(0, vR l0), (1, vR l1), (2, vR l2), (3, vI (l3 + 1))] [] M 0 0 from (hk26 l0 l1 l2 (l3 + 1) M h)
    · replace h := mj_nn hc2 h
      refine mx_aload_n (j := 1) hC dX11_countJoined_83 rfl rfl ?_
      obtain ⟨ht3, h⟩ := h
      refine mx_get (v := vR (mj_r M l0 2)) hC tf_X11_26 ht3 rfl dX11_countJoined_84 ?_
      refine mx_aload_n (j := 3) hC dX11_countJoined_87 rfl rfl ?_
      obtain ⟨ht4, h⟩ := h
      refine mx_get (v := vR (mj_r M l2 2)) hC tf_X11_231 ht4 rfl dX11_countJoined_88 ?_
      refine mx_aload_n (j := 1) hC dX11_countJoined_91 rfl rfl ?_
      refine mx_get (v := vR (mj_r M l0 0)) hC tf_X11_10 ht3 rfl dX11_countJoined_92 ?_
      refine mx_aload (j := 5) hC dX11_countJoined_95 rfl ?_
      refine mx_aload_n (j := 1) hC dX11_countJoined_97 rfl rfl ?_
      refine mx_get (v := vR (mj_r M l0 0)) hC tf_X11_10 ht3 rfl dX11_countJoined_98 ?_
      obtain ⟨ht5, h⟩ := h
      refine mx_get (v := vI (mj_i M (mj_r M l0 0) 0)) hC tf_X11_66 ht5 rfl dX11_countJoined_101 ?_
      refine mx_bipush (v := (-6)) hC dX11_countJoined_104 (by decide) ?_
      obtain ⟨ht6, h⟩ := h
      refine mx_callV (inj := mj_jB) (As := [vR (mj_r M l2 2), vR (mj_r M l0 0), vR l4, vI (mj_i M (mj_r M l0 0) 0), vI ((-6))]) (st := []) hC (ct_X8_isSo (mj_r M l0 2) (mj_r M l2 2) (mj_r M l0 0) l4 (mj_i M (mj_r M l0 0) 0) ((-6)) M _ h) ty_X8_isSo tw769 ht6 rfl (Nat.le_of_ble_eq_true rfl) ⟨rfl, rfl, ⟨by decide, by decide⟩, by decide, by decide⟩ dX11_countJoined_106 (fun r7 M8 h => ?_)
      show mj_X g 109 [(5, vI (mj_b s0)), (0, vR l0), (1, vR l1), (2, vR l2), (3, vI l3), (4, vR l4)] [vI (mj_b r7)] M8 0 0
      refine mx_ifeqB (tgt := 126) hC dX11_countJoined_109 (by decide) (fun hc9 => ?_) (fun hc9 => ?_)
      · replace h := mj_nn hc9 h
        refine mx_iinc (j := 4) (v := l3 + 1) (L' := [(3, vI (l3 + 1)), (5, vI (mj_b s0)), (0, vR l0), (1, vR l1), (2, vR l2), (4, vR l4)]) hC dX11_countJoined_126 rfl rfl (by decide) rfl ?_
        refine mx_goto (tgt := 26) hC dX11_countJoined_129 (by decide) ?_
        refine mx_sub (L' := [(0, vR l0), (1, vR l1), (2, vR l2), (3, vI (l3 + 1))]) [2, 3, 4, 0] rfl ?_
        exact show mj_X g 26 [(0, vR l0), (1, vR l1), (2, vR l2), (3, vI (l3 + 1))] [] M8 0 0 from (hk26 l0 l1 l2 (l3 + 1) M8 h)
      · replace h := mj_yy hc9 h
        refine mx_aload_n (j := 1) hC dX11_countJoined_112 rfl rfl ?_
        obtain ⟨ht10, h⟩ := h
        refine mx_get (v := vR (mj_r M8 l0 7)) hC tf_X11_58 ht10 rfl dX11_countJoined_113 ?_
        refine mx_aload (j := 5) hC dX11_countJoined_116 rfl ?_
        obtain ⟨ht11, h⟩ := h
        refine mx_get (v := vI (mj_i M8 l4 8)) hC tf_X11_115 ht11 rfl dX11_countJoined_118 ?_
        refine mx_dup2 hC dX11_countJoined_121 rfl rfl ?_
        obtain ⟨ht12, h⟩ := h
        obtain ⟨hi13, h⟩ := h
        refine mx_iaload hC ht12 hi13 dX11_countJoined_122 ?_
        refine mx_iconst (v := 1) hC dX11_countJoined_123 (by decide) ?_
        refine mx_iadd hC dX11_countJoined_124 ?_
        refine mx_iastore hC ht12 hi13 dX11_countJoined_125 ?_
        refine mx_iinc (j := 4) (v := l3 + 1) (L' := [(3, vI (l3 + 1)), (5, vI (mj_b s0)), (0, vR l0), (1, vR l1), (2, vR l2), (4, vR l4)]) hC dX11_countJoined_126 rfl rfl (by decide) rfl ?_
        refine mx_goto (tgt := 26) hC dX11_countJoined_129 (by decide) ?_
        refine mx_sub (L' := [(0, vR l0), (1, vR l1), (2, vR l2), (3, vI (l3 + 1))]) [2, 3, 4, 0] rfl ?_
        exact show mj_X g 26 [(0, vR l0), (1, vR l1), (2, vR l2), (3, vI (l3 + 1))] [] (mj_wi M8 (mj_r M8 l0 7) (mj_i M8 l4 8 : Int32).toNatClampNeg ((mj_i M8 (mj_r M8 l0 7) (mj_i M8 l4 8 : Int32).toNatClampNeg) + 1)) 0 0 from (hk26 l0 l1 l2 (l3 + 1) (mj_wi M8 (mj_r M8 l0 7) (mj_i M8 l4 8 : Int32).toNatClampNeg ((mj_i M8 (mj_r M8 l0 7) (mj_i M8 l4 8 : Int32).toNatClampNeg) + 1)) h)
set_option maxHeartbeats 4000000 in
set_option maxRecDepth 100000 in
theorem xb_X11_countJoined_71 {g : mj_G} {post : Unit → mj_M → Prop} (hC : mj_C g yX11_countJoined cX11_countJoined 6 (none) rm_X11_countJoined) (hE : mj_E g mj_jV post 0 0) {k26 : Nat → Nat → Nat → Int32 → mj_M → Prop} (hk26 : ∀ (l0 : Nat) (l1 : Nat) (l2 : Nat) (l3 : Int32) (M : mj_M), k26 l0 l1 l2 l3 M → mj_X g 26 [(0, vR l0), (1, vR l1), (2, vR l2), (3, vI l3)] [] M 0 0) (l0 : Nat) (l1 : Nat) (l2 : Nat) (l3 : Int32) (l4 : Nat) (M : mj_M) (h : vb_X11_countJoined_71 k26 post l0 l1 l2 l3 l4 M) : mj_X g 71 [(0, vR l0), (1, vR l1), (2, vR l2), (3, vI l3), (4, vR l4)] [] M 0 0 := by
  simp only [vb_X11_countJoined_71] at h
  refine mx_iconst (v := 0) hC dX11_countJoined_71 (by decide) ?_
  refine mx_sub (L' := [(0, vR l0), (1, vR l1), (2, vR l2), (3, vI l3), (4, vR l4)]) [0, 1, 2, 3, 4] rfl ?_
  exact show mj_X g 72 [(0, vR l0), (1, vR l1), (2, vR l2), (3, vI l3), (4, vR l4)] [vI (mj_b false)] M 0 0 from (xb_X11_countJoined_72 hC hE hk26 l0 l1 l2 l3 l4 false M h)
set_option maxHeartbeats 4000000 in
set_option maxRecDepth 100000 in
theorem xb_X11_countJoined_52 {g : mj_G} {post : Unit → mj_M → Prop} (hC : mj_C g yX11_countJoined cX11_countJoined 6 (none) rm_X11_countJoined) (hE : mj_E g mj_jV post 0 0) {k26 : Nat → Nat → Nat → Int32 → mj_M → Prop} (hk26 : ∀ (l0 : Nat) (l1 : Nat) (l2 : Nat) (l3 : Int32) (M : mj_M), k26 l0 l1 l2 l3 M → mj_X g 26 [(0, vR l0), (1, vR l1), (2, vR l2), (3, vI l3)] [] M 0 0) (l0 : Nat) (l1 : Nat) (l2 : Nat) (l3 : Int32) (s0 : Nat) (M : mj_M) (h : vb_X11_countJoined_52 k26 post l0 l1 l2 l3 s0 M) : mj_X g 52 [(0, vR l0), (1, vR l1), (2, vR l2), (3, vI l3)] [vR s0] M 0 0 := by
  simp only [vb_X11_countJoined_52] at h
  refine mx_astore (L' := [(4, vR s0), (0, vR l0), (1, vR l1), (2, vR l2), (3, vI l3)]) hC dX11_countJoined_52 (by decide) rfl ?_
  refine mx_aload (j := 0) hC dX11_countJoined_54 rfl ?_
  refine mx_ifnull (tgt := 71) hC dX11_countJoined_56 (by decide) (fun hc14 => ?_) (fun hc14 => ?_)
  · replace h := mj_yy hc14 h
    refine mx_sub (L' := [(0, vR l0), (1, vR l1), (2, vR l2), (3, vI l3), (4, vR s0)]) [1, 2, 3, 4, 0] rfl ?_
    exact show mj_X g 71 [(0, vR l0), (1, vR l1), (2, vR l2), (3, vI l3), (4, vR s0)] [] M 0 0 from (xb_X11_countJoined_71 hC hE hk26 l0 l1 l2 l3 s0 M h)
  · replace h := mj_nn hc14 h
    refine mx_aload (j := 0) hC dX11_countJoined_59 rfl ?_
    obtain ⟨ht15, h⟩ := h
    refine mx_get (v := vR (mj_r M s0 2)) hC tf_X11_132 ht15 rfl dX11_countJoined_61 ?_
    refine mx_ifnull (tgt := 71) hC dX11_countJoined_64 (by decide) (fun hc16 => ?_) (fun hc16 => ?_)
    · replace h := mj_yy hc16 h
      refine mx_sub (L' := [(0, vR l0), (1, vR l1), (2, vR l2), (3, vI l3), (4, vR s0)]) [1, 2, 3, 4, 0] rfl ?_
      exact show mj_X g 71 [(0, vR l0), (1, vR l1), (2, vR l2), (3, vI l3), (4, vR s0)] [] M 0 0 from (xb_X11_countJoined_71 hC hE hk26 l0 l1 l2 l3 s0 M h)
    · replace h := mj_nn hc16 h
      refine mx_iconst (v := 1) hC dX11_countJoined_67 (by decide) ?_
      refine mx_goto (tgt := 72) hC dX11_countJoined_68 (by decide) ?_
      refine mx_sub (L' := [(0, vR l0), (1, vR l1), (2, vR l2), (3, vI l3), (4, vR s0)]) [1, 2, 3, 4, 0] rfl ?_
      exact show mj_X g 72 [(0, vR l0), (1, vR l1), (2, vR l2), (3, vI l3), (4, vR s0)] [vI (mj_b true)] M 0 0 from (xb_X11_countJoined_72 hC hE hk26 l0 l1 l2 l3 s0 true M h)
set_option maxHeartbeats 4000000 in
set_option maxRecDepth 100000 in
theorem xb_X11_countJoined_26 {g : mj_G} {post : Unit → mj_M → Prop} (hC : mj_C g yX11_countJoined cX11_countJoined 6 (none) rm_X11_countJoined) (hE : mj_E g mj_jV post 0 0) : ∀ (f : Nat) (l0 : Nat) (l1 : Nat) (l2 : Nat) (l3 : Int32) (M : mj_M), vb_X11_countJoined_26 post f l0 l1 l2 l3 M → mj_X g 26 [(0, vR l0), (1, vR l1), (2, vR l2), (3, vI l3)] [] M 0 0 := by
  intro f
  induction f with
  | zero => exact fun _ _ _ _ _ h => absurd h (fun z => z)
  | succ f ih =>
    intro l0 l1 l2 l3 M h
    simp only [vb_X11_countJoined_26] at h
    refine mx_iload_n (j := 3) hC dX11_countJoined_26 rfl rfl ?_
    refine mx_bipush (v := 12) hC dX11_countJoined_27 (by decide) ?_
    refine mx_icmpge (tgt := 132) hC dX11_countJoined_29 (by decide) (fun hc17 => ?_) (fun hc17 => ?_)
    · replace h := mj_yy hc17 h
      exact mx_vret hC hE rfl dX11_countJoined_132 h
    · replace h := mj_nn hc17 h
      refine mx_aload_n (j := 1) hC dX11_countJoined_32 rfl rfl ?_
      refine mx_iload_n (j := 3) hC dX11_countJoined_33 rfl rfl ?_
      obtain ⟨ht18, h⟩ := h
      refine mx_callV (inj := mj_jB) (As := [vI l3]) (st := []) hC (ct_X3_hasFloor l1 l3 M _ h) ty_X3_hasFloor tw1120 ht18 rfl (Nat.le_of_ble_eq_true rfl) ⟨rfl, rfl, ⟨by decide, by decide⟩, by decide, by decide⟩ dX11_countJoined_34 (fun r19 M20 h => ?_)
      show mj_X g 37 [(0, vR l0), (1, vR l1), (2, vR l2), (3, vI l3)] [vI (mj_b r19)] M20 0 0
      refine mx_ifeqB (tgt := 51) hC dX11_countJoined_37 (by decide) (fun hc21 => ?_) (fun hc21 => ?_)
      · replace h := mj_nn hc21 h
        refine mx_null hC dX11_countJoined_51 ?_
        refine mx_sub (L' := [(0, vR l0), (1, vR l1), (2, vR l2), (3, vI l3)]) [0, 1, 2, 3] rfl ?_
        exact show mj_X g 52 [(0, vR l0), (1, vR l1), (2, vR l2), (3, vI l3)] [vR 0] M20 0 0 from (xb_X11_countJoined_52 hC hE ih l0 l1 l2 l3 0 M20 h)
      · replace h := mj_yy hc21 h
        refine mx_aload_n (j := 0) hC dX11_countJoined_40 rfl rfl ?_
        obtain ⟨ht22, h⟩ := h
        refine mx_get (v := vR (mj_r M20 l0 0)) hC tf_X11_10 ht22 rfl dX11_countJoined_41 ?_
        refine mx_iload_n (j := 3) hC dX11_countJoined_44 rfl rfl ?_
        obtain ⟨ht23, h⟩ := h
        refine mx_callV (inj := mj_jR) (As := [vI l3]) (st := []) hC (ct_X4_lastOf (mj_r M20 l0 0) l3 M20 _ h) ty_X4_lastOf tw1121 ht23 rfl (Nat.le_of_ble_eq_true rfl) ⟨rfl, rfl, ⟨by decide, by decide⟩, by decide, by decide⟩ dX11_countJoined_45 (fun r24 M25 h => ?_)
        show mj_X g 48 [(0, vR l0), (1, vR l1), (2, vR l2), (3, vI l3)] [vR r24] M25 0 0
        refine mx_goto (tgt := 52) hC dX11_countJoined_48 (by decide) ?_
        refine mx_sub (L' := [(0, vR l0), (1, vR l1), (2, vR l2), (3, vI l3)]) [0, 1, 2, 3] rfl ?_
        exact show mj_X g 52 [(0, vR l0), (1, vR l1), (2, vR l2), (3, vI l3)] [vR r24] M25 0 0 from (xb_X11_countJoined_52 hC hE ih l0 l1 l2 l3 r24 M25 h)
set_option maxHeartbeats 4000000 in
set_option maxRecDepth 100000 in
theorem ct_X11_countJoined {l : Launch} {base : Nat} {D : va_G} {A : ClassId × ClassId × ClassId} (l0 : Nat) (l1 : Nat) (M : mj_M) (post : Unit → mj_M → Prop) (h : vc_X11_countJoined l0 l1 M post) : mj_Met l base D A mj_jV yX11_countJoined cX11_countJoined 6 (none) rm_X11_countJoined 0 0 [vR l0, vR l1] M post := by
  refine mj_entry (by decide +kernel) (Nat.le_of_ble_eq_true rfl) (fun g hC hE h1 h2 h3 h4 => ?_)
  show mj_X g 0 [(0, vR l0), (1, vR l1)] [] M 0 0
  simp only [vc_X11_countJoined] at h
  refine mx_aload_n (j := 0) hC dX11_countJoined_0 rfl rfl ?_
  obtain ⟨ht26, h⟩ := h
  refine mx_get (v := vR (mj_r M l0 7)) hC tf_X11_58 ht26 rfl dX11_countJoined_1 ?_
  refine mx_iconst (v := 0) hC dX11_countJoined_4 (by decide) ?_
  refine mx_callS (inj := mj_jV) (As := [vR (mj_r M l0 7), vI 0]) (st := []) hC (ct_J7_fill_53178 (mj_r M l0 7) 0 M _ h) ty_J7_fill_53178 tw1119 rfl (Nat.le_of_ble_eq_true rfl) ⟨rfl, rfl, ⟨by decide, by decide⟩, by decide, by decide⟩ dX11_countJoined_5 (fun _ M27 h => ?_)
  show mj_X g 8 [(0, vR l0), (1, vR l1)] [] M27 0 0
  refine mx_aload_n (j := 0) hC dX11_countJoined_8 rfl rfl ?_
  obtain ⟨ht28, h⟩ := h
  refine mx_get (v := vR (mj_r M27 l0 1)) hC tf_X11_19 ht28 rfl dX11_countJoined_9 ?_
  refine mx_iconst (v := 3) hC dX11_countJoined_12 (by decide) ?_
  refine mx_aload_n (j := 0) hC dX11_countJoined_13 rfl rfl ?_
  refine mx_get (v := vR (mj_r M27 l0 0)) hC tf_X11_10 ht28 rfl dX11_countJoined_14 ?_
  obtain ⟨ht29, h⟩ := h
  refine mx_get (v := vI (mj_i M27 (mj_r M27 l0 0) 0)) hC tf_X11_66 ht29 rfl dX11_countJoined_17 ?_
  obtain ⟨ht30, h⟩ := h
  refine mx_callV (inj := mj_jR) (As := [vI 3, vI (mj_i M27 (mj_r M27 l0 0) 0)]) (st := []) hC (ct_X1_inForce (mj_r M27 l0 1) 3 (mj_i M27 (mj_r M27 l0 0) 0) M27 _ h) ty_X1_inForce tw761 ht30 rfl (Nat.le_of_ble_eq_true rfl) ⟨rfl, rfl, ⟨by decide, by decide⟩, by decide, by decide⟩ dX11_countJoined_20 (fun r31 M32 h => ?_)
  show mj_X g 23 [(0, vR l0), (1, vR l1)] [vR r31] M32 0 0
  refine mx_astore_n (L' := [(2, vR r31), (0, vR l0), (1, vR l1)]) hC dX11_countJoined_23 rfl (by decide) rfl ?_
  refine mx_iconst (v := 0) hC dX11_countJoined_24 (by decide) ?_
  refine mx_istore_n (L' := [(3, vI 0), (2, vR r31), (0, vR l0), (1, vR l1)]) hC dX11_countJoined_25 rfl (by decide) rfl ?_
  refine mx_sub (L' := [(0, vR l0), (1, vR l1), (2, vR r31), (3, vI 0)]) [2, 3, 1, 0] rfl ?_
  obtain ⟨fe, h⟩ := h
  exact show mj_X g 26 [(0, vR l0), (1, vR l1), (2, vR r31), (3, vI 0)] [] M32 0 0 from (xb_X11_countJoined_26 hC hE fe l0 l1 r31 0 M32 h)

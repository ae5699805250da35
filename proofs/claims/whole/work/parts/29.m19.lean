/-! methods 19. By program (wip/gen) out of the bytecode: vc_KEY: what must hold of a call; ct_KEY: then the machine does it. -/
def rm_X12_yearsLeft : Room := { frames := 1, cells := 0, slots := 0, locals := 21 }
theorem dX12_yearsLeft_0 : decode cX12_yearsLeft 0 = .ok (.aload_n 0, 1) := by decide +kernel
theorem dX12_yearsLeft_1 : decode cX12_yearsLeft 1 = .ok (.iload_n 1, 1) := by decide +kernel
theorem dX12_yearsLeft_2 : decode cX12_yearsLeft 2 = .ok (.invokevirtual 147, 3) := by decide +kernel
theorem dX12_yearsLeft_5 : decode cX12_yearsLeft 5 = .ok (.aload_n 0, 1) := by decide +kernel
theorem dX12_yearsLeft_6 : decode cX12_yearsLeft 6 = .ok (.getfield 151, 3) := by decide +kernel
theorem dX12_yearsLeft_9 : decode cX12_yearsLeft 9 = .ok (.isub, 1) := by decide +kernel
theorem dX12_yearsLeft_10 : decode cX12_yearsLeft 10 = .ok (.sipush 365, 3) := by decide +kernel
theorem dX12_yearsLeft_13 : decode cX12_yearsLeft 13 = .ok (.idiv, 1) := by decide +kernel
theorem dX12_yearsLeft_14 : decode cX12_yearsLeft 14 = .ok (.ireturn, 1) := by decide +kernel
def vc_X12_yearsLeft (l0 : Nat) (l1 : Int32) (M : mj_M) (post : Int32 → mj_M → Prop) : Prop := mj_tag M l0 = 13 ∧ vc_X12_until l0 l1 M (fun r2 M3 => mj_tag M3 l0 = 13 ∧ post ((r2 - (mj_i M3 l0 0)) / 365) M3)
set_option maxHeartbeats 4000000 in
set_option maxRecDepth 100000 in
theorem ct_X12_yearsLeft {l : Launch} {base : Nat} {D : va_G} {A : ClassId × ClassId × ClassId} (l0 : Nat) (l1 : Int32) (M : mj_M) (post : Int32 → mj_M → Prop) (h : vc_X12_yearsLeft l0 l1 M post) : mj_Met l base D A mj_jI yX12_yearsLeft cX12_yearsLeft 2 (some .int) rm_X12_yearsLeft 0 0 [vR l0, vI l1] M post := by
  refine mj_entry (by decide +kernel) (Nat.le_of_ble_eq_true rfl) (fun g hC hE h1 h2 h3 h4 => ?_)
  show mj_X g 0 [(0, vR l0), (1, vI l1)] [] M 0 0
  simp only [vc_X12_yearsLeft] at h
  refine mx_aload_n (j := 0) hC dX12_yearsLeft_0 rfl rfl ?_
  refine mx_iload_n (j := 1) hC dX12_yearsLeft_1 rfl rfl ?_
  obtain ⟨ht1, h⟩ := h
  refine mx_callV (inj := mj_jI) (As := [vI l1]) (st := []) hC (ct_X12_until l0 l1 M _ h) ty_X12_until tw1415 ht1 rfl (Nat.le_of_ble_eq_true rfl) ⟨rfl, rfl, ⟨by decide, by decide⟩, by decide, by decide⟩ dX12_yearsLeft_2 (fun r2 M3 h => ?_)
  show mj_X g 5 [(0, vR l0), (1, vI l1)] [vI r2] M3 0 0
  refine mx_aload_n (j := 0) hC dX12_yearsLeft_5 rfl rfl ?_
  obtain ⟨ht4, h⟩ := h
  refine mx_get (v := vI (mj_i M3 l0 0)) hC tf_X12_151 ht4 rfl dX12_yearsLeft_6 ?_
  refine mx_isub hC dX12_yearsLeft_9 ?_
  refine mx_sipush (v := 365) hC dX12_yearsLeft_10 (by decide) ?_
  refine mx_idiv hC dX12_yearsLeft_13 (by decide) ?_
  exact mx_iret hC hE rfl dX12_yearsLeft_14 h
theorem tw1704 : (Jvm.Cond.methodLink "LeaseLandModel" (344 : Nat) ({ cls := "LeaseLandModel", name := "yearsLeft", desc := "(I)I" } : Jvm.MethodName)) ∈ mj_tbl := mj_w 1757 (by decide +kernel) (by decide +kernel)
theorem tw1708 : (Jvm.Cond.methodLink "LeaseLandModel" (347 : Nat) ({ cls := "LeaseLandModel", name := "worthOf", desc := "(II)J" } : Jvm.MethodName)) ∈ mj_tbl := mj_w 1761 (by decide +kernel) (by decide +kernel)
theorem tw1711 : (Jvm.Cond.code ({ cls := "LeaseLandModel", name := "worthOf", desc := "(II)J" } : Jvm.MethodName) prog_14_method_85_code (3 : Nat) (Option.some Jvm.ClassFile.FieldType.long)) ∈ mj_tbl := mj_w 1764 (by decide +kernel) (by decide +kernel)
theorem tw1710 : (Jvm.Cond.instanceMethod ({ cls := "LeaseLandModel", name := "worthOf", desc := "(II)J" } : Jvm.MethodName)) ∈ mj_tbl := mj_w 1763 (by decide +kernel) (by decide +kernel)
theorem ty_X12_worthOf : mj_YV 12 yX12_worthOf cX12_worthOf 3 (some .long) 2 := ⟨⟨tw1711, tw11, by decide +kernel, by decide +kernel, by decide +kernel⟩, tw1710, mj_w 41 (by decide +kernel) (by decide +kernel), _, rfl, rfl⟩
theorem tw1707 : (Jvm.Cond.code ({ cls := "LeaseLandModel", name := "yearsLeft", desc := "(I)I" } : Jvm.MethodName) prog_14_method_86_code (2 : Nat) (Option.some Jvm.ClassFile.FieldType.int)) ∈ mj_tbl := mj_w 1760 (by decide +kernel) (by decide +kernel)
theorem tw1706 : (Jvm.Cond.instanceMethod ({ cls := "LeaseLandModel", name := "yearsLeft", desc := "(I)I" } : Jvm.MethodName)) ∈ mj_tbl := mj_w 1759 (by decide +kernel) (by decide +kernel)
theorem ty_X12_yearsLeft : mj_YV 12 yX12_yearsLeft cX12_yearsLeft 2 (some .int) 1 := ⟨⟨tw1707, tw11, by decide +kernel, by decide +kernel, by decide +kernel⟩, tw1706, mj_w 40 (by decide +kernel) (by decide +kernel), _, rfl, rfl⟩
def rm_X12_worth : Room := { frames := 2, cells := 0, slots := 0, locals := 46 }
theorem dX12_worth_0 : decode cX12_worth 0 = .ok (.aload_n 0, 1) := by decide +kernel
theorem dX12_worth_1 : decode cX12_worth 1 = .ok (.iload_n 1, 1) := by decide +kernel
theorem dX12_worth_2 : decode cX12_worth 2 = .ok (.invokevirtual 137, 3) := by decide +kernel
theorem dX12_worth_5 : decode cX12_worth 5 = .ok (.ifCond .ne 5, 3) := by decide +kernel
theorem dX12_worth_8 : decode cX12_worth 8 = .ok (.iconst (-1), 1) := by decide +kernel
theorem dX12_worth_9 : decode cX12_worth 9 = .ok (.ireturn, 1) := by decide +kernel
theorem dX12_worth_10 : decode cX12_worth 10 = .ok (.aload_n 0, 1) := by decide +kernel
theorem dX12_worth_11 : decode cX12_worth 11 = .ok (.iload_n 1, 1) := by decide +kernel
theorem dX12_worth_12 : decode cX12_worth 12 = .ok (.aload_n 0, 1) := by decide +kernel
theorem dX12_worth_13 : decode cX12_worth 13 = .ok (.getfield 151, 3) := by decide +kernel
theorem dX12_worth_16 : decode cX12_worth 16 = .ok (.invokevirtual 187, 3) := by decide +kernel
theorem dX12_worth_19 : decode cX12_worth 19 = .ok (.ifCond .eq 22, 3) := by decide +kernel
theorem dX12_worth_22 : decode cX12_worth 22 = .ok (.aload_n 0, 1) := by decide +kernel
theorem dX12_worth_23 : decode cX12_worth 23 = .ok (.aload_n 0, 1) := by decide +kernel
theorem dX12_worth_24 : decode cX12_worth 24 = .ok (.getfield 13, 3) := by decide +kernel
theorem dX12_worth_27 : decode cX12_worth 27 = .ok (.iload_n 1, 1) := by decide +kernel
theorem dX12_worth_28 : decode cX12_worth 28 = .ok (.iaload, 1) := by decide +kernel
theorem dX12_worth_29 : decode cX12_worth 29 = .ok (.aload_n 0, 1) := by decide +kernel
theorem dX12_worth_30 : decode cX12_worth 30 = .ok (.iload_n 1, 1) := by decide +kernel
theorem dX12_worth_31 : decode cX12_worth 31 = .ok (.invokevirtual 344, 3) := by decide +kernel
theorem dX12_worth_34 : decode cX12_worth 34 = .ok (.invokevirtual 347, 3) := by decide +kernel
theorem dX12_worth_37 : decode cX12_worth 37 = .ok (.l2i, 1) := by decide +kernel
theorem dX12_worth_38 : decode cX12_worth 38 = .ok (.goto 5, 3) := by decide +kernel
theorem dX12_worth_41 : decode cX12_worth 41 = .ok (.bipush (-3), 2) := by decide +kernel
theorem dX12_worth_43 : decode cX12_worth 43 = .ok (.ireturn, 1) := by decide +kernel
def vc_X12_worth (l0 : Nat) (l1 : Int32) (M : mj_M) (post : Int32 → mj_M → Prop) : Prop := mj_tag M l0 = 13 ∧ vc_X12_isHolding l0 l1 M (fun r2 M3 => if r2 = true then (mj_tag M3 l0 = 13 ∧ vc_X12_isOn l0 l1 (mj_i M3 l0 0) M3 (fun r6 M7 => if r6 = true then (mj_tag M7 l0 = 13 ∧ mj_tag M7 (mj_r M7 l0 2) = 101 ∧ vp_in l1 (mj_len M7 (mj_r M7 l0 2)) ∧ vc_X12_yearsLeft l0 l1 M7 (fun r12 M13 => mj_tag M13 l0 = 13 ∧ vc_X12_worthOf l0 (mj_i M7 (mj_r M7 l0 2) (l1 : Int32).toNatClampNeg) r12 M13 (fun r15 M16 => post ((r15 : Int64).toInt32) M16))) else (post ((-3)) M7))) else (post ((-1)) M3))
set_option maxHeartbeats 4000000 in
set_option maxRecDepth 100000 in
theorem ct_X12_worth {l : Launch} {base : Nat} {D : va_G} {A : ClassId × ClassId × ClassId} (l0 : Nat) (l1 : Int32) (M : mj_M) (post : Int32 → mj_M → Prop) (h : vc_X12_worth l0 l1 M post) : mj_Met l base D A mj_jI yX12_worth cX12_worth 2 (some .int) rm_X12_worth 0 0 [vR l0, vI l1] M post := by
  refine mj_entry (by decide +kernel) (Nat.le_of_ble_eq_true rfl) (fun g hC hE h1 h2 h3 h4 => ?_)
  show mj_X g 0 [(0, vR l0), (1, vI l1)] [] M 0 0
  simp only [vc_X12_worth] at h
  refine mx_aload_n (j := 0) hC dX12_worth_0 rfl rfl ?_
  refine mx_iload_n (j := 1) hC dX12_worth_1 rfl rfl ?_
  obtain ⟨ht1, h⟩ := h
  refine mx_callV (inj := mj_jB) (As := [vI l1]) (st := []) hC (ct_X12_isHolding l0 l1 M _ h) ty_X12_isHolding tw1407 ht1 rfl (Nat.le_of_ble_eq_true rfl) ⟨rfl, rfl, ⟨by decide, by decide⟩, by decide, by decide⟩ dX12_worth_2 (fun r2 M3 h => ?_)
  show mj_X g 5 [(0, vR l0), (1, vI l1)] [vI (mj_b r2)] M3 0 0
  refine mx_ifneB (tgt := 10) hC dX12_worth_5 (by decide) (fun hc4 => ?_) (fun hc4 => ?_)
  · replace h := mj_yy hc4 h
    refine mx_aload_n (j := 0) hC dX12_worth_10 rfl rfl ?_
    refine mx_iload_n (j := 1) hC dX12_worth_11 rfl rfl ?_
    refine mx_aload_n (j := 0) hC dX12_worth_12 rfl rfl ?_
    obtain ⟨ht5, h⟩ := h
    refine mx_get (v := vI (mj_i M3 l0 0)) hC tf_X12_151 ht5 rfl dX12_worth_13 ?_
    refine mx_callV (inj := mj_jB) (As := [vI l1, vI (mj_i M3 l0 0)]) (st := []) hC (ct_X12_isOn l0 l1 (mj_i M3 l0 0) M3 _ h) ty_X12_isOn tw1440 ht5 rfl (Nat.le_of_ble_eq_true rfl) ⟨rfl, rfl, ⟨by decide, by decide⟩, by decide, by decide⟩ dX12_worth_16 (fun r6 M7 h => ?_)
    show mj_X g 19 [(0, vR l0), (1, vI l1)] [vI (mj_b r6)] M7 0 0
    refine mx_ifeqB (tgt := 41) hC dX12_worth_19 (by decide) (fun hc8 => ?_) (fun hc8 => ?_)
    · replace h := mj_nn hc8 h
      refine mx_bipush (v := (-3)) hC dX12_worth_41 (by decide) ?_
      exact mx_iret hC hE rfl dX12_worth_43 h
    · replace h := mj_yy hc8 h
      refine mx_aload_n (j := 0) hC dX12_worth_22 rfl rfl ?_
      refine mx_aload_n (j := 0) hC dX12_worth_23 rfl rfl ?_
      obtain ⟨ht9, h⟩ := h
      refine mx_get (v := vR (mj_r M7 l0 2)) hC tf_X12_13 ht9 rfl dX12_worth_24 ?_
      refine mx_iload_n (j := 1) hC dX12_worth_27 rfl rfl ?_
      obtain ⟨ht10, h⟩ := h
      obtain ⟨hi11, h⟩ := h
      refine mx_iaload hC ht10 hi11 dX12_worth_28 ?_
      refine mx_aload_n (j := 0) hC dX12_worth_29 rfl rfl ?_
      refine mx_iload_n (j := 1) hC dX12_worth_30 rfl rfl ?_
      refine mx_callV (inj := mj_jI) (As := [vI l1]) (st := [vI (mj_i M7 (mj_r M7 l0 2) (l1 : Int32).toNatClampNeg), vR l0]) hC (ct_X12_yearsLeft l0 l1 M7 _ h) ty_X12_yearsLeft tw1704 ht9 rfl (Nat.le_of_ble_eq_true rfl) ⟨rfl, rfl, ⟨by decide, by decide⟩, by decide, by decide⟩ dX12_worth_31 (fun r12 M13 h => ?_)
      show mj_X g 34 [(0, vR l0), (1, vI l1)] [vI r12, vI (mj_i M7 (mj_r M7 l0 2) (l1 : Int32).toNatClampNeg), vR l0] M13 0 0
      obtain ⟨ht14, h⟩ := h
      refine mx_callV (inj := mj_jL) (As := [vI (mj_i M7 (mj_r M7 l0 2) (l1 : Int32).toNatClampNeg), vI r12]) (st := []) hC (ct_X12_worthOf l0 (mj_i M7 (mj_r M7 l0 2) (l1 : Int32).toNatClampNeg) r12 M13 _ h) ty_X12_worthOf tw1708 ht14 rfl (Nat.le_of_ble_eq_true rfl) ⟨rfl, rfl, ⟨by decide, by decide⟩, by decide, by decide⟩ dX12_worth_34 (fun r15 M16 h => ?_)
      show mj_X g 37 [(0, vR l0), (1, vI l1)] [vL r15] M16 0 0
      refine mx_l2i hC dX12_worth_37 ?_
      refine mx_goto (tgt := 43) hC dX12_worth_38 (by decide) ?_
      exact mx_iret hC hE rfl dX12_worth_43 h
  · replace h := mj_nn hc4 h
    refine mx_iconst (v := (-1)) hC dX12_worth_8 (by decide) ?_
    exact mx_iret hC hE rfl dX12_worth_9 h
theorem tw1247 : (Jvm.Cond.fieldLink "LeaseLandModel" (351 : Nat) "LeaseLandModel" "sales" "I") ∈ mj_tbl := mj_w 1300 (by decide +kernel) (by decide +kernel)
theorem tf_X12_351 : mj_F 12 38 .int false "LeaseLandModel" 351 := ⟨_, tk12, by decide, rfl, rfl, rfl, tw1247⟩
def rm_X12_sale : Room := { frames := 1, cells := 0, slots := 0, locals := 25 }
theorem dX12_sale_0 : decode cX12_sale 0 = .ok (.iload_n 1, 1) := by decide +kernel
theorem dX12_sale_1 : decode cX12_sale 1 = .ok (.i2l, 1) := by decide +kernel
theorem dX12_sale_2 : decode cX12_sale 2 = .ok (.lconst 0, 1) := by decide +kernel
theorem dX12_sale_3 : decode cX12_sale 3 = .ok (.ldc2_w 330, 3) := by decide +kernel
theorem dX12_sale_6 : decode cX12_sale 6 = .ok (.invokestatic 133, 3) := by decide +kernel
theorem dX12_sale_9 : decode cX12_sale 9 = .ok (.ifCond .eq 15, 3) := by decide +kernel
theorem dX12_sale_12 : decode cX12_sale 12 = .ok (.iload_n 2, 1) := by decide +kernel
theorem dX12_sale_13 : decode cX12_sale 13 = .ok (.i2l, 1) := by decide +kernel
theorem dX12_sale_14 : decode cX12_sale 14 = .ok (.lconst 0, 1) := by decide +kernel
theorem dX12_sale_15 : decode cX12_sale 15 = .ok (.ldc2_w 332, 3) := by decide +kernel
theorem dX12_sale_18 : decode cX12_sale 18 = .ok (.invokestatic 133, 3) := by decide +kernel
theorem dX12_sale_21 : decode cX12_sale 21 = .ok (.ifCond .ne 6, 3) := by decide +kernel
theorem dX12_sale_24 : decode cX12_sale 24 = .ok (.bipush (-2), 2) := by decide +kernel
theorem dX12_sale_26 : decode cX12_sale 26 = .ok (.ireturn, 1) := by decide +kernel
theorem dX12_sale_27 : decode cX12_sale 27 = .ok (.aload_n 0, 1) := by decide +kernel
theorem dX12_sale_28 : decode cX12_sale 28 = .ok (.getfield 351, 3) := by decide +kernel
theorem dX12_sale_31 : decode cX12_sale 31 = .ok (.bipush 20, 2) := by decide +kernel
theorem dX12_sale_33 : decode cX12_sale 33 = .ok (.if_icmp .ne 6, 3) := by decide +kernel
theorem dX12_sale_36 : decode cX12_sale 36 = .ok (.bipush (-4), 2) := by decide +kernel
theorem dX12_sale_38 : decode cX12_sale 38 = .ok (.ireturn, 1) := by decide +kernel
theorem dX12_sale_39 : decode cX12_sale 39 = .ok (.aload_n 0, 1) := by decide +kernel
theorem dX12_sale_40 : decode cX12_sale 40 = .ok (.getfield 101, 3) := by decide +kernel
theorem dX12_sale_43 : decode cX12_sale 43 = .ok (.aload_n 0, 1) := by decide +kernel
theorem dX12_sale_44 : decode cX12_sale 44 = .ok (.getfield 351, 3) := by decide +kernel
theorem dX12_sale_47 : decode cX12_sale 47 = .ok (.iload_n 1, 1) := by decide +kernel
theorem dX12_sale_48 : decode cX12_sale 48 = .ok (.iastore, 1) := by decide +kernel
theorem dX12_sale_49 : decode cX12_sale 49 = .ok (.aload_n 0, 1) := by decide +kernel
theorem dX12_sale_50 : decode cX12_sale 50 = .ok (.getfield 104, 3) := by decide +kernel
theorem dX12_sale_53 : decode cX12_sale 53 = .ok (.aload_n 0, 1) := by decide +kernel
theorem dX12_sale_54 : decode cX12_sale 54 = .ok (.getfield 351, 3) := by decide +kernel
theorem dX12_sale_57 : decode cX12_sale 57 = .ok (.iload_n 2, 1) := by decide +kernel
theorem dX12_sale_58 : decode cX12_sale 58 = .ok (.iastore, 1) := by decide +kernel
theorem dX12_sale_59 : decode cX12_sale 59 = .ok (.aload_n 0, 1) := by decide +kernel
theorem dX12_sale_60 : decode cX12_sale 60 = .ok (.dup, 1) := by decide +kernel
theorem dX12_sale_61 : decode cX12_sale 61 = .ok (.getfield 351, 3) := by decide +kernel
theorem dX12_sale_64 : decode cX12_sale 64 = .ok (.iconst 1, 1) := by decide +kernel
theorem dX12_sale_65 : decode cX12_sale 65 = .ok (.iadd, 1) := by decide +kernel
theorem dX12_sale_66 : decode cX12_sale 66 = .ok (.putfield 351, 3) := by decide +kernel
theorem dX12_sale_69 : decode cX12_sale 69 = .ok (.aload_n 0, 1) := by decide +kernel
theorem dX12_sale_70 : decode cX12_sale 70 = .ok (.getfield 351, 3) := by decide +kernel
theorem dX12_sale_73 : decode cX12_sale 73 = .ok (.ireturn, 1) := by decide +kernel
def vc_X12_sale (l0 : Nat) (l1 : Int32) (l2 : Int32) (M : mj_M) (post : Int32 → mj_M → Prop) : Prop := vc_X12_in ((l1 : Int32).toInt64) 0 200 M (fun r1 M2 => if r1 = true then (vc_X12_in ((l2 : Int32).toInt64) 0 10000 M2 (fun r4 M5 => if r4 = true then (mj_tag M5 l0 = 13 ∧ if (mj_i M5 l0 38) = 20 then (post ((-4)) M5) else (mj_tag M5 (mj_r M5 l0 36) = 101 ∧ vp_in (mj_i M5 l0 38) (mj_len M5 (mj_r M5 l0 36)) ∧ mj_tag M5 (mj_r M5 l0 37) = 101 ∧ vp_in (mj_i (mj_wi M5 (mj_r M5 l0 36) (mj_i M5 l0 38 : Int32).toNatClampNeg l1) l0 38) (mj_len M5 (mj_r M5 l0 37)) ∧ post (mj_i (mj_wi (mj_wi (mj_wi M5 (mj_r M5 l0 36) (mj_i M5 l0 38 : Int32).toNatClampNeg l1) (mj_r M5 l0 37) (mj_i (mj_wi M5 (mj_r M5 l0 36) (mj_i M5 l0 38 : Int32).toNatClampNeg l1) l0 38 : Int32).toNatClampNeg l2) l0 38 ((mj_i (mj_wi (mj_wi M5 (mj_r M5 l0 36) (mj_i M5 l0 38 : Int32).toNatClampNeg l1) (mj_r M5 l0 37) (mj_i (mj_wi M5 (mj_r M5 l0 36) (mj_i M5 l0 38 : Int32).toNatClampNeg l1) l0 38 : Int32).toNatClampNeg l2) l0 38) + 1)) l0 38) (mj_wi (mj_wi (mj_wi M5 (mj_r M5 l0 36) (mj_i M5 l0 38 : Int32).toNatClampNeg l1) (mj_r M5 l0 37) (mj_i (mj_wi M5 (mj_r M5 l0 36) (mj_i M5 l0 38 : Int32).toNatClampNeg l1) l0 38 : Int32).toNatClampNeg l2) l0 38 ((mj_i (mj_wi (mj_wi M5 (mj_r M5 l0 36) (mj_i M5 l0 38 : Int32).toNatClampNeg l1) (mj_r M5 l0 37) (mj_i (mj_wi M5 (mj_r M5 l0 36) (mj_i M5 l0 38 : Int32).toNatClampNeg l1) l0 38 : Int32).toNatClampNeg l2) l0 38) + 1)))) else (post ((-2)) M5))) else (post ((-2)) M2))
set_option maxHeartbeats 4000000 in
set_option maxRecDepth 100000 in
theorem ct_X12_sale {l : Launch} {base : Nat} {D : va_G} {A : ClassId × ClassId × ClassId} (l0 : Nat) (l1 : Int32) (l2 : Int32) (M : mj_M) (post : Int32 → mj_M → Prop) (h : vc_X12_sale l0 l1 l2 M post) : mj_Met l base D A mj_jI yX12_sale cX12_sale 3 (some .int) rm_X12_sale 0 0 [vR l0, vI l1, vI l2] M post := by
  refine mj_entry (by decide +kernel) (Nat.le_of_ble_eq_true rfl) (fun g hC hE h1 h2 h3 h4 => ?_)
  show mj_X g 0 [(0, vR l0), (1, vI l1), (2, vI l2)] [] M 0 0
  simp only [vc_X12_sale] at h
  refine mx_iload_n (j := 1) hC dX12_sale_0 rfl rfl ?_
  refine mx_i2l hC dX12_sale_1 ?_
  refine mx_lconst (v := 0) hC dX12_sale_2 (by decide) ?_
  refine mx_ldc2 (v := 200) hC dX12_sale_3 tw1686 ?_
  refine mx_callS (inj := mj_jB) (As := [vL ((l1 : Int32).toInt64), vL 0, vL 200]) (st := []) hC (ct_X12_in ((l1 : Int32).toInt64) 0 200 M _ h) ty_X12_in tw1379 rfl (Nat.le_of_ble_eq_true rfl) ⟨rfl, rfl, ⟨by decide, by decide⟩, by decide, by decide⟩ dX12_sale_6 (fun r1 M2 h => ?_)
  show mj_X g 9 [(0, vR l0), (1, vI l1), (2, vI l2)] [vI (mj_b r1)] M2 0 0
  refine mx_ifeqB (tgt := 24) hC dX12_sale_9 (by decide) (fun hc3 => ?_) (fun hc3 => ?_)
  · replace h := mj_nn hc3 h
    refine mx_bipush (v := (-2)) hC dX12_sale_24 (by decide) ?_
    exact mx_iret hC hE rfl dX12_sale_26 h
  · replace h := mj_yy hc3 h
    refine mx_iload_n (j := 2) hC dX12_sale_12 rfl rfl ?_
    refine mx_i2l hC dX12_sale_13 ?_
    refine mx_lconst (v := 0) hC dX12_sale_14 (by decide) ?_
    refine mx_ldc2 (v := 10000) hC dX12_sale_15 tw1687 ?_
    refine mx_callS (inj := mj_jB) (As := [vL ((l2 : Int32).toInt64), vL 0, vL 10000]) (st := []) hC (ct_X12_in ((l2 : Int32).toInt64) 0 10000 M2 _ h) ty_X12_in tw1379 rfl (Nat.le_of_ble_eq_true rfl) ⟨rfl, rfl, ⟨by decide, by decide⟩, by decide, by decide⟩ dX12_sale_18 (fun r4 M5 h => ?_)
    show mj_X g 21 [(0, vR l0), (1, vI l1), (2, vI l2)] [vI (mj_b r4)] M5 0 0
    refine mx_ifneB (tgt := 27) hC dX12_sale_21 (by decide) (fun hc6 => ?_) (fun hc6 => ?_)
    · replace h := mj_yy hc6 h
      refine mx_aload_n (j := 0) hC dX12_sale_27 rfl rfl ?_
      obtain ⟨ht7, h⟩ := h
      refine mx_get (v := vI (mj_i M5 l0 38)) hC tf_X12_351 ht7 rfl dX12_sale_28 ?_
      refine mx_bipush (v := 20) hC dX12_sale_31 (by decide) ?_
      refine mx_icmpne (tgt := 39) hC dX12_sale_33 (by decide) (fun hc8 => ?_) (fun hc8 => ?_)
      · replace h := mj_nn hc8 h
        refine mx_aload_n (j := 0) hC dX12_sale_39 rfl rfl ?_
        refine mx_get (v := vR (mj_r M5 l0 36)) hC tf_X12_101 ht7 rfl dX12_sale_40 ?_
        refine mx_aload_n (j := 0) hC dX12_sale_43 rfl rfl ?_
        refine mx_get (v := vI (mj_i M5 l0 38)) hC tf_X12_351 ht7 rfl dX12_sale_44 ?_
        refine mx_iload_n (j := 1) hC dX12_sale_47 rfl rfl ?_
        obtain ⟨ht9, h⟩ := h
        obtain ⟨hi10, h⟩ := h
        refine mx_iastore hC ht9 hi10 dX12_sale_48 ?_
        refine mx_aload_n (j := 0) hC dX12_sale_49 rfl rfl ?_
        refine mx_get (v := vR (mj_r M5 l0 37)) hC tf_X12_104 ht7 rfl dX12_sale_50 ?_
        refine mx_aload_n (j := 0) hC dX12_sale_53 rfl rfl ?_
        refine mx_get (v := vI (mj_i (mj_wi M5 (mj_r M5 l0 36) (mj_i M5 l0 38 : Int32).toNatClampNeg l1) l0 38)) hC tf_X12_351 ht7 rfl dX12_sale_54 ?_
        refine mx_iload_n (j := 2) hC dX12_sale_57 rfl rfl ?_
        obtain ⟨ht11, h⟩ := h
        obtain ⟨hi12, h⟩ := h
        refine mx_iastore hC ht11 hi12 dX12_sale_58 ?_
        refine mx_aload_n (j := 0) hC dX12_sale_59 rfl rfl ?_
        refine mx_dup hC dX12_sale_60 rfl ?_
        refine mx_get (v := vI (mj_i (mj_wi (mj_wi M5 (mj_r M5 l0 36) (mj_i M5 l0 38 : Int32).toNatClampNeg l1) (mj_r M5 l0 37) (mj_i (mj_wi M5 (mj_r M5 l0 36) (mj_i M5 l0 38 : Int32).toNatClampNeg l1) l0 38 : Int32).toNatClampNeg l2) l0 38)) hC tf_X12_351 ht7 rfl dX12_sale_61 ?_
        refine mx_iconst (v := 1) hC dX12_sale_64 (by decide) ?_
        refine mx_iadd hC dX12_sale_65 ?_
        refine mx_put (v := vI ((mj_i (mj_wi (mj_wi M5 (mj_r M5 l0 36) (mj_i M5 l0 38 : Int32).toNatClampNeg l1) (mj_r M5 l0 37) (mj_i (mj_wi M5 (mj_r M5 l0 36) (mj_i M5 l0 38 : Int32).toNatClampNeg l1) l0 38 : Int32).toNatClampNeg l2) l0 38) + 1)) (M1 := mj_wi (mj_wi (mj_wi M5 (mj_r M5 l0 36) (mj_i M5 l0 38 : Int32).toNatClampNeg l1) (mj_r M5 l0 37) (mj_i (mj_wi M5 (mj_r M5 l0 36) (mj_i M5 l0 38 : Int32).toNatClampNeg l1) l0 38 : Int32).toNatClampNeg l2) l0 38 ((mj_i (mj_wi (mj_wi M5 (mj_r M5 l0 36) (mj_i M5 l0 38 : Int32).toNatClampNeg l1) (mj_r M5 l0 37) (mj_i (mj_wi M5 (mj_r M5 l0 36) (mj_i M5 l0 38 : Int32).toNatClampNeg l1) l0 38 : Int32).toNatClampNeg l2) l0 38) + 1)) hC tf_X12_351 ht7 (Or.inl rfl) ⟨rfl, rfl⟩ (mj_off_wi _ _ _ _) mj_put_wi dX12_sale_66 ?_
        refine mx_aload_n (j := 0) hC dX12_sale_69 rfl rfl ?_
        refine mx_get (v := vI (mj_i (mj_wi (mj_wi (mj_wi M5 (mj_r M5 l0 36) (mj_i M5 l0 38 : Int32).toNatClampNeg l1) (mj_r M5 l0 37) (mj_i (mj_wi M5 (mj_r M5 l0 36) (mj_i M5 l0 38 : Int32).toNatClampNeg l1) l0 38 : Int32).toNatClampNeg l2) l0 38 ((mj_i (mj_wi (mj_wi M5 (mj_r M5 l0 36) (mj_i M5 l0 38 : Int32).toNatClampNeg l1) (mj_r M5 l0 37) (mj_i (mj_wi M5 (mj_r M5 l0 36) (mj_i M5 l0 38 : Int32).toNatClampNeg l1) l0 38 : Int32).toNatClampNeg l2) l0 38) + 1)) l0 38)) hC tf_X12_351 ht7 rfl dX12_sale_70 ?_
        exact mx_iret hC hE rfl dX12_sale_73 h
      · replace h := mj_yy hc8 h
        refine mx_bipush (v := (-4)) hC dX12_sale_36 (by decide) ?_
        exact mx_iret hC hE rfl dX12_sale_38 h
    · replace h := mj_nn hc6 h
      refine mx_bipush (v := (-2)) hC dX12_sale_24 (by decide) ?_
      exact mx_iret hC hE rfl dX12_sale_26 h
theorem tw1250 : (Jvm.Cond.fieldLink "LeaseLandModel" (354 : Nat) "LeaseLandModel" "lineLower" "J") ∈ mj_tbl := mj_w 1303 (by decide +kernel) (by decide +kernel)
theorem tf_X12_354 : mj_F 12 41 .long false "LeaseLandModel" 354 := ⟨_, tk12, by decide, rfl, rfl, rfl, tw1250⟩
theorem tw1249 : (Jvm.Cond.fieldLink "LeaseLandModel" (358 : Nat) "LeaseLandModel" "lineBy" "J") ∈ mj_tbl := mj_w 1302 (by decide +kernel) (by decide +kernel)
theorem tf_X12_358 : mj_F 12 40 .long false "LeaseLandModel" 358 := ⟨_, tk12, by decide, rfl, rfl, rfl, tw1249⟩
theorem tw1248 : (Jvm.Cond.fieldLink "LeaseLandModel" (361 : Nat) "LeaseLandModel" "lineAt" "J") ∈ mj_tbl := mj_w 1301 (by decide +kernel) (by decide +kernel)
theorem tf_X12_361 : mj_F 12 39 .long false "LeaseLandModel" 361 := ⟨_, tk12, by decide, rfl, rfl, rfl, tw1248⟩
def rm_X12_findLine : Room := { frames := 0, cells := 0, slots := 0, locals := 0 }
theorem dX12_findLine_0 : decode cX12_findLine 0 = .ok (.lconst 0, 1) := by decide +kernel
theorem dX12_findLine_1 : decode cX12_findLine 1 = .ok (.lstore_n 2, 1) := by decide +kernel
theorem dX12_findLine_2 : decode cX12_findLine 2 = .ok (.lconst 0, 1) := by decide +kernel
theorem dX12_findLine_3 : decode cX12_findLine 3 = .ok (.lstore 4, 2) := by decide +kernel
theorem dX12_findLine_5 : decode cX12_findLine 5 = .ok (.lconst 0, 1) := by decide +kernel
theorem dX12_findLine_6 : decode cX12_findLine 6 = .ok (.lstore 6, 2) := by decide +kernel
theorem dX12_findLine_8 : decode cX12_findLine 8 = .ok (.lconst 0, 1) := by decide +kernel
theorem dX12_findLine_9 : decode cX12_findLine 9 = .ok (.lstore 8, 2) := by decide +kernel
theorem dX12_findLine_11 : decode cX12_findLine 11 = .ok (.lconst 0, 1) := by decide +kernel
theorem dX12_findLine_12 : decode cX12_findLine 12 = .ok (.lstore 10, 2) := by decide +kernel
theorem dX12_findLine_14 : decode cX12_findLine 14 = .ok (.iconst 0, 1) := by decide +kernel
theorem dX12_findLine_15 : decode cX12_findLine 15 = .ok (.istore 12, 2) := by decide +kernel
theorem dX12_findLine_17 : decode cX12_findLine 17 = .ok (.iload 12, 2) := by decide +kernel
theorem dX12_findLine_19 : decode cX12_findLine 19 = .ok (.aload_n 0, 1) := by decide +kernel
theorem dX12_findLine_20 : decode cX12_findLine 20 = .ok (.getfield 351, 3) := by decide +kernel
theorem dX12_findLine_23 : decode cX12_findLine 23 = .ok (.if_icmp .ge 89, 3) := by decide +kernel
theorem dX12_findLine_26 : decode cX12_findLine 26 = .ok (.iload 12, 2) := by decide +kernel
theorem dX12_findLine_28 : decode cX12_findLine 28 = .ok (.iload_n 1, 1) := by decide +kernel
theorem dX12_findLine_29 : decode cX12_findLine 29 = .ok (.if_icmp .eq 77, 3) := by decide +kernel
theorem dX12_findLine_32 : decode cX12_findLine 32 = .ok (.lload_n 2, 1) := by decide +kernel
theorem dX12_findLine_33 : decode cX12_findLine 33 = .ok (.lconst 1, 1) := by decide +kernel
theorem dX12_findLine_34 : decode cX12_findLine 34 = .ok (.ladd, 1) := by decide +kernel
theorem dX12_findLine_35 : decode cX12_findLine 35 = .ok (.lstore_n 2, 1) := by decide +kernel
theorem dX12_findLine_36 : decode cX12_findLine 36 = .ok (.lload 4, 2) := by decide +kernel
theorem dX12_findLine_38 : decode cX12_findLine 38 = .ok (.aload_n 0, 1) := by decide +kernel
theorem dX12_findLine_39 : decode cX12_findLine 39 = .ok (.getfield 101, 3) := by decide +kernel
theorem dX12_findLine_42 : decode cX12_findLine 42 = .ok (.iload 12, 2) := by decide +kernel
theorem dX12_findLine_44 : decode cX12_findLine 44 = .ok (.iaload, 1) := by decide +kernel
theorem dX12_findLine_45 : decode cX12_findLine 45 = .ok (.i2l, 1) := by decide +kernel
theorem dX12_findLine_46 : decode cX12_findLine 46 = .ok (.ladd, 1) := by decide +kernel
theorem dX12_findLine_47 : decode cX12_findLine 47 = .ok (.lstore 4, 2) := by decide +kernel
theorem dX12_findLine_49 : decode cX12_findLine 49 = .ok (.lload 6, 2) := by decide +kernel
theorem dX12_findLine_51 : decode cX12_findLine 51 = .ok (.aload_n 0, 1) := by decide +kernel
theorem dX12_findLine_52 : decode cX12_findLine 52 = .ok (.getfield 104, 3) := by decide +kernel
theorem dX12_findLine_55 : decode cX12_findLine 55 = .ok (.iload 12, 2) := by decide +kernel
theorem dX12_findLine_57 : decode cX12_findLine 57 = .ok (.iaload, 1) := by decide +kernel
theorem dX12_findLine_58 : decode cX12_findLine 58 = .ok (.i2l, 1) := by decide +kernel
theorem dX12_findLine_59 : decode cX12_findLine 59 = .ok (.ladd, 1) := by decide +kernel
theorem dX12_findLine_60 : decode cX12_findLine 60 = .ok (.lstore 6, 2) := by decide +kernel
theorem dX12_findLine_62 : decode cX12_findLine 62 = .ok (.lload 8, 2) := by decide +kernel
theorem dX12_findLine_64 : decode cX12_findLine 64 = .ok (.aload_n 0, 1) := by decide +kernel
theorem dX12_findLine_65 : decode cX12_findLine 65 = .ok (.getfield 101, 3) := by decide +kernel
theorem dX12_findLine_68 : decode cX12_findLine 68 = .ok (.iload 12, 2) := by decide +kernel
theorem dX12_findLine_70 : decode cX12_findLine 70 = .ok (.iaload, 1) := by decide +kernel
theorem dX12_findLine_71 : decode cX12_findLine 71 = .ok (.i2l, 1) := by decide +kernel
theorem dX12_findLine_72 : decode cX12_findLine 72 = .ok (.aload_n 0, 1) := by decide +kernel
theorem dX12_findLine_73 : decode cX12_findLine 73 = .ok (.getfield 101, 3) := by decide +kernel
theorem dX12_findLine_76 : decode cX12_findLine 76 = .ok (.iload 12, 2) := by decide +kernel
theorem dX12_findLine_78 : decode cX12_findLine 78 = .ok (.iaload, 1) := by decide +kernel
theorem dX12_findLine_79 : decode cX12_findLine 79 = .ok (.i2l, 1) := by decide +kernel
theorem dX12_findLine_80 : decode cX12_findLine 80 = .ok (.lmul, 1) := by decide +kernel
theorem dX12_findLine_81 : decode cX12_findLine 81 = .ok (.ladd, 1) := by decide +kernel
theorem dX12_findLine_82 : decode cX12_findLine 82 = .ok (.lstore 8, 2) := by decide +kernel
theorem dX12_findLine_84 : decode cX12_findLine 84 = .ok (.lload 10, 2) := by decide +kernel
theorem dX12_findLine_86 : decode cX12_findLine 86 = .ok (.aload_n 0, 1) := by decide +kernel
theorem dX12_findLine_87 : decode cX12_findLine 87 = .ok (.getfield 101, 3) := by decide +kernel
theorem dX12_findLine_90 : decode cX12_findLine 90 = .ok (.iload 12, 2) := by decide +kernel
theorem dX12_findLine_92 : decode cX12_findLine 92 = .ok (.iaload, 1) := by decide +kernel
theorem dX12_findLine_93 : decode cX12_findLine 93 = .ok (.i2l, 1) := by decide +kernel
theorem dX12_findLine_94 : decode cX12_findLine 94 = .ok (.aload_n 0, 1) := by decide +kernel
theorem dX12_findLine_95 : decode cX12_findLine 95 = .ok (.getfield 104, 3) := by decide +kernel
theorem dX12_findLine_98 : decode cX12_findLine 98 = .ok (.iload 12, 2) := by decide +kernel
theorem dX12_findLine_100 : decode cX12_findLine 100 = .ok (.iaload, 1) := by decide +kernel
theorem dX12_findLine_101 : decode cX12_findLine 101 = .ok (.i2l, 1) := by decide +kernel
theorem dX12_findLine_102 : decode cX12_findLine 102 = .ok (.lmul, 1) := by decide +kernel
theorem dX12_findLine_103 : decode cX12_findLine 103 = .ok (.ladd, 1) := by decide +kernel
theorem dX12_findLine_104 : decode cX12_findLine 104 = .ok (.lstore 10, 2) := by decide +kernel
theorem dX12_findLine_106 : decode cX12_findLine 106 = .ok (.iinc 12 1, 3) := by decide +kernel
theorem dX12_findLine_109 : decode cX12_findLine 109 = .ok (.goto (-92), 3) := by decide +kernel
theorem dX12_findLine_112 : decode cX12_findLine 112 = .ok (.aload_n 0, 1) := by decide +kernel
theorem dX12_findLine_113 : decode cX12_findLine 113 = .ok (.lload_n 2, 1) := by decide +kernel
theorem dX12_findLine_114 : decode cX12_findLine 114 = .ok (.lload 8, 2) := by decide +kernel
theorem dX12_findLine_116 : decode cX12_findLine 116 = .ok (.lmul, 1) := by decide +kernel
theorem dX12_findLine_117 : decode cX12_findLine 117 = .ok (.lload 4, 2) := by decide +kernel
theorem dX12_findLine_119 : decode cX12_findLine 119 = .ok (.lload 4, 2) := by decide +kernel
theorem dX12_findLine_121 : decode cX12_findLine 121 = .ok (.lmul, 1) := by decide +kernel
theorem dX12_findLine_122 : decode cX12_findLine 122 = .ok (.lsub, 1) := by decide +kernel
theorem dX12_findLine_123 : decode cX12_findLine 123 = .ok (.putfield 354, 3) := by decide +kernel
theorem dX12_findLine_126 : decode cX12_findLine 126 = .ok (.aload_n 0, 1) := by decide +kernel
theorem dX12_findLine_127 : decode cX12_findLine 127 = .ok (.lload_n 2, 1) := by decide +kernel
theorem dX12_findLine_128 : decode cX12_findLine 128 = .ok (.lload 10, 2) := by decide +kernel
theorem dX12_findLine_130 : decode cX12_findLine 130 = .ok (.lmul, 1) := by decide +kernel
theorem dX12_findLine_131 : decode cX12_findLine 131 = .ok (.lload 4, 2) := by decide +kernel
theorem dX12_findLine_133 : decode cX12_findLine 133 = .ok (.lload 6, 2) := by decide +kernel
theorem dX12_findLine_135 : decode cX12_findLine 135 = .ok (.lmul, 1) := by decide +kernel
theorem dX12_findLine_136 : decode cX12_findLine 136 = .ok (.lsub, 1) := by decide +kernel
theorem dX12_findLine_137 : decode cX12_findLine 137 = .ok (.putfield 358, 3) := by decide +kernel
theorem dX12_findLine_140 : decode cX12_findLine 140 = .ok (.aload_n 0, 1) := by decide +kernel
theorem dX12_findLine_141 : decode cX12_findLine 141 = .ok (.lload 6, 2) := by decide +kernel
theorem dX12_findLine_143 : decode cX12_findLine 143 = .ok (.lload 8, 2) := by decide +kernel
theorem dX12_findLine_145 : decode cX12_findLine 145 = .ok (.lmul, 1) := by decide +kernel
theorem dX12_findLine_146 : decode cX12_findLine 146 = .ok (.lload 4, 2) := by decide +kernel
theorem dX12_findLine_148 : decode cX12_findLine 148 = .ok (.lload 10, 2) := by decide +kernel
theorem dX12_findLine_150 : decode cX12_findLine 150 = .ok (.lmul, 1) := by decide +kernel
theorem dX12_findLine_151 : decode cX12_findLine 151 = .ok (.lsub, 1) := by decide +kernel
theorem dX12_findLine_152 : decode cX12_findLine 152 = .ok (.putfield 361, 3) := by decide +kernel
theorem dX12_findLine_155 : decode cX12_findLine 155 = .ok (.aload_n 0, 1) := by decide +kernel
theorem dX12_findLine_156 : decode cX12_findLine 156 = .ok (.getfield 354, 3) := by decide +kernel
theorem dX12_findLine_159 : decode cX12_findLine 159 = .ok (.lconst 0, 1) := by decide +kernel
theorem dX12_findLine_160 : decode cX12_findLine 160 = .ok (.lcmp, 1) := by decide +kernel
theorem dX12_findLine_161 : decode cX12_findLine 161 = .ok (.ifCond .le 7, 3) := by decide +kernel
theorem dX12_findLine_164 : decode cX12_findLine 164 = .ok (.iconst 1, 1) := by decide +kernel
theorem dX12_findLine_165 : decode cX12_findLine 165 = .ok (.goto 4, 3) := by decide +kernel
theorem dX12_findLine_168 : decode cX12_findLine 168 = .ok (.iconst 0, 1) := by decide +kernel
theorem dX12_findLine_169 : decode cX12_findLine 169 = .ok (.ireturn, 1) := by decide +kernel
def vb_X12_findLine_17 (post : Bool → mj_M → Prop) : Nat → Nat → Int32 → Int64 → Int64 → Int64 → Int64 → Int64 → Int32 → mj_M → Prop
  | 0 => fun _ _ _ _ _ _ _ _ _ => False
  | f + 1 => fun l0 l1 l2 l4 l6 l8 l10 l12 M => mj_tag M l0 = 13 ∧ if (mj_i M l0 38) ≤ l12 then (if (lg_cmp (mj_l (mj_wl (mj_wl (mj_wl M l0 41 ((l2 * l8) - (l4 * l4))) l0 40 ((l2 * l10) - (l4 * l6))) l0 39 ((l6 * l8) - (l4 * l10))) l0 41) 0) ≤ 0 then (post false (mj_wl (mj_wl (mj_wl M l0 41 ((l2 * l8) - (l4 * l4))) l0 40 ((l2 * l10) - (l4 * l6))) l0 39 ((l6 * l8) - (l4 * l10)))) else (post true (mj_wl (mj_wl (mj_wl M l0 41 ((l2 * l8) - (l4 * l4))) l0 40 ((l2 * l10) - (l4 * l6))) l0 39 ((l6 * l8) - (l4 * l10))))) else (if l12 = l1 then (vb_X12_findLine_17 post f l0 l1 l2 l4 l6 l8 l10 (l12 + 1) M) else (mj_tag M (mj_r M l0 36) = 101 ∧ vp_in l12 (mj_len M (mj_r M l0 36)) ∧ mj_tag M (mj_r M l0 37) = 101 ∧ vp_in l12 (mj_len M (mj_r M l0 37)) ∧ vb_X12_findLine_17 post f l0 l1 (l2 + 1) (l4 + ((mj_i M (mj_r M l0 36) (l12 : Int32).toNatClampNeg : Int32).toInt64)) (l6 + ((mj_i M (mj_r M l0 37) (l12 : Int32).toNatClampNeg : Int32).toInt64)) (l8 + (((mj_i M (mj_r M l0 36) (l12 : Int32).toNatClampNeg : Int32).toInt64) * ((mj_i M (mj_r M l0 36) (l12 : Int32).toNatClampNeg : Int32).toInt64))) (l10 + (((mj_i M (mj_r M l0 36) (l12 : Int32).toNatClampNeg : Int32).toInt64) * ((mj_i M (mj_r M l0 37) (l12 : Int32).toNatClampNeg : Int32).toInt64))) (l12 + 1) M))
def vc_X12_findLine (l0 : Nat) (l1 : Int32) (M : mj_M) (post : Bool → mj_M → Prop) : Prop := ∃ fe, vb_X12_findLine_17 post fe l0 l1 0 0 0 0 0 0 M
set_option maxHeartbeats 4000000 in
set_option maxRecDepth 100000 in
theorem xb_X12_findLine_17 {g : mj_G} {post : Bool → mj_M → Prop} (hC : mj_C g yX12_findLine cX12_findLine 13 (some .boolean) rm_X12_findLine) (hE : mj_E g mj_jB post 0 0) : ∀ (f : Nat) (l0 : Nat) (l1 : Int32) (l2 : Int64) (l4 : Int64) (l6 : Int64) (l8 : Int64) (l10 : Int64) (l12 : Int32) (M : mj_M), vb_X12_findLine_17 post f l0 l1 l2 l4 l6 l8 l10 l12 M → mj_X g 17 [(0, vR l0), (1, vI l1), (2, vL l2), (4, vL l4), (6, vL l6), (8, vL l8), (10, vL l10), (12, vI l12)] [] M 0 0 := by
  intro f
  induction f with
  | zero => exact fun _ _ _ _ _ _ _ _ _ h => absurd h (fun z => z)
  | succ f ih =>
    intro l0 l1 l2 l4 l6 l8 l10 l12 M h
    simp only [vb_X12_findLine_17] at h
    refine mx_iload (j := 7) hC dX12_findLine_17 rfl ?_
    refine mx_aload_n (j := 0) hC dX12_findLine_19 rfl rfl ?_
    obtain ⟨ht1, h⟩ := h
    refine mx_get (v := vI (mj_i M l0 38)) hC tf_X12_351 ht1 rfl dX12_findLine_20 ?_
    refine mx_icmpge (tgt := 112) hC dX12_findLine_23 (by decide) (fun hc2 => ?_) (fun hc2 => ?_)
    · replace h := mj_yy hc2 h
      refine mx_aload_n (j := 0) hC dX12_findLine_112 rfl rfl ?_
      refine mx_lload_n (j := 2) hC dX12_findLine_113 rfl rfl ?_
      refine mx_lload (j := 5) hC dX12_findLine_114 rfl ?_
      refine mx_lmul hC dX12_findLine_116 ?_
      refine mx_lload (j := 3) hC dX12_findLine_117 rfl ?_
      refine mx_lload (j := 3) hC dX12_findLine_119 rfl ?_
      refine mx_lmul hC dX12_findLine_121 ?_
      refine mx_lsub hC dX12_findLine_122 ?_
      refine mx_put (v := vL ((l2 * l8) - (l4 * l4))) (M1 := mj_wl M l0 41 ((l2 * l8) - (l4 * l4))) hC tf_X12_354 ht1 (Or.inl rfl) ⟨rfl, rfl⟩ (mj_off_wl _ _ _ _) mj_put_wl dX12_findLine_123 ?_
      refine mx_aload_n (j := 0) hC dX12_findLine_126 rfl rfl ?_
      refine mx_lload_n (j := 2) hC dX12_findLine_127 rfl rfl ?_
      refine mx_lload (j := 6) hC dX12_findLine_128 rfl ?_
      refine mx_lmul hC dX12_findLine_130 ?_
      refine mx_lload (j := 3) hC dX12_findLine_131 rfl ?_
      refine mx_lload (j := 4) hC dX12_findLine_133 rfl ?_
      refine mx_lmul hC dX12_findLine_135 ?_
      refine mx_lsub hC dX12_findLine_136 ?_
      refine mx_put (v := vL ((l2 * l10) - (l4 * l6))) (M1 := mj_wl (mj_wl M l0 41 ((l2 * l8) - (l4 * l4))) l0 40 ((l2 * l10) - (l4 * l6))) hC tf_X12_358 ht1 (Or.inl rfl) ⟨rfl, rfl⟩ (mj_off_wl _ _ _ _) mj_put_wl dX12_findLine_137 ?_
      refine mx_aload_n (j := 0) hC dX12_findLine_140 rfl rfl ?_
      refine mx_lload (j := 4) hC dX12_findLine_141 rfl ?_
      refine mx_lload (j := 5) hC dX12_findLine_143 rfl ?_
      refine mx_lmul hC dX12_findLine_145 ?_
      refine mx_lload (j := 3) hC dX12_findLine_146 rfl ?_
      refine mx_lload (j := 6) hC dX12_findLine_148 rfl ?_
      refine mx_lmul hC dX12_findLine_150 ?_
      refine mx_lsub hC dX12_findLine_151 ?_
      refine mx_put (v := vL ((l6 * l8) - (l4 * l10))) (M1 := mj_wl (mj_wl (mj_wl M l0 41 ((l2 * l8) - (l4 * l4))) l0 40 ((l2 * l10) - (l4 * l6))) l0 39 ((l6 * l8) - (l4 * l10))) hC tf_X12_361 ht1 (Or.inl rfl) ⟨rfl, rfl⟩ (mj_off_wl _ _ _ _) mj_put_wl dX12_findLine_152 ?_
      refine mx_aload_n (j := 0) hC dX12_findLine_155 rfl rfl ?_
      refine mx_get (v := vL (mj_l (mj_wl (mj_wl (mj_wl M l0 41 ((l2 * l8) - (l4 * l4))) l0 40 ((l2 * l10) - (l4 * l6))) l0 39 ((l6 * l8) - (l4 * l10))) l0 41)) hC tf_X12_354 ht1 rfl dX12_findLine_156 ?_
      refine mx_lconst (v := 0) hC dX12_findLine_159 (by decide) ?_
      refine mx_lcmp hC dX12_findLine_160 ?_
      refine mx_ifle (tgt := 168) hC dX12_findLine_161 (by decide) (fun hc3 => ?_) (fun hc3 => ?_)
      · replace h := mj_yy hc3 h
        refine mx_iconst (v := 0) hC dX12_findLine_168 (by decide) ?_
        exact mx_zret (b := false) hC hE rfl dX12_findLine_169 h
      · replace h := mj_nn hc3 h
        refine mx_iconst (v := 1) hC dX12_findLine_164 (by decide) ?_
        refine mx_goto (tgt := 169) hC dX12_findLine_165 (by decide) ?_
        exact mx_zret (b := true) hC hE rfl dX12_findLine_169 h
    · replace h := mj_nn hc2 h
      refine mx_iload (j := 7) hC dX12_findLine_26 rfl ?_
      refine mx_iload_n (j := 1) hC dX12_findLine_28 rfl rfl ?_
      refine mx_icmpeq (tgt := 106) hC dX12_findLine_29 (by decide) (fun hc4 => ?_) (fun hc4 => ?_)
      · replace h := mj_yy hc4 h
        refine mx_iinc (j := 7) (v := l12 + 1) (L' := [(12, vI (l12 + 1)), (0, vR l0), (1, vI l1), (2, vL l2), (4, vL l4), (6, vL l6), (8, vL l8), (10, vL l10)]) hC dX12_findLine_106 rfl rfl (by decide) rfl ?_
        refine mx_goto (tgt := 17) hC dX12_findLine_109 (by decide) ?_
        refine mx_sub (L' := [(0, vR l0), (1, vI l1), (2, vL l2), (4, vL l4), (6, vL l6), (8, vL l8), (10, vL l10), (12, vI (l12 + 1))]) [1, 2, 3, 4, 5, 6, 7, 0] rfl ?_
        exact show mj_X g 17 [(0, vR l0), (1, vI l1), (2, vL l2), (4, vL l4), (6, vL l6), (8, vL l8), (10, vL l10), (12, vI (l12 + 1))] [] M 0 0 from (ih l0 l1 l2 l4 l6 l8 l10 (l12 + 1) M h)
      · replace h := mj_nn hc4 h
        refine mx_lload_n (j := 2) hC dX12_findLine_32 rfl rfl ?_
        refine mx_lconst (v := 1) hC dX12_findLine_33 (by decide) ?_
        refine mx_ladd hC dX12_findLine_34 ?_
        refine mx_lstore_n (L' := [(2, vL (l2 + 1)), (0, vR l0), (1, vI l1), (4, vL l4), (6, vL l6), (8, vL l8), (10, vL l10), (12, vI l12)]) hC dX12_findLine_35 rfl (by decide) rfl ?_
        refine mx_lload (j := 3) hC dX12_findLine_36 rfl ?_
        refine mx_aload_n (j := 1) hC dX12_findLine_38 rfl rfl ?_
        refine mx_get (v := vR (mj_r M l0 36)) hC tf_X12_101 ht1 rfl dX12_findLine_39 ?_
        refine mx_iload (j := 7) hC dX12_findLine_42 rfl ?_
        obtain ⟨ht5, h⟩ := h
        obtain ⟨hi6, h⟩ := h
        refine mx_iaload hC ht5 hi6 dX12_findLine_44 ?_
        refine mx_i2l hC dX12_findLine_45 ?_
        refine mx_ladd hC dX12_findLine_46 ?_
        refine mx_lstore (L' := [(4, vL (l4 + ((mj_i M (mj_r M l0 36) (l12 : Int32).toNatClampNeg : Int32).toInt64))), (2, vL (l2 + 1)), (0, vR l0), (1, vI l1), (6, vL l6), (8, vL l8), (10, vL l10), (12, vI l12)]) hC dX12_findLine_47 (by decide) rfl ?_
        refine mx_lload (j := 4) hC dX12_findLine_49 rfl ?_
        refine mx_aload_n (j := 2) hC dX12_findLine_51 rfl rfl ?_
        refine mx_get (v := vR (mj_r M l0 37)) hC tf_X12_104 ht1 rfl dX12_findLine_52 ?_
        refine mx_iload (j := 7) hC dX12_findLine_55 rfl ?_
        obtain ⟨ht7, h⟩ := h
        obtain ⟨hi8, h⟩ := h
        refine mx_iaload hC ht7 hi8 dX12_findLine_57 ?_
        refine mx_i2l hC dX12_findLine_58 ?_
        refine mx_ladd hC dX12_findLine_59 ?_
        refine mx_lstore (L' := [(6, vL (l6 + ((mj_i M (mj_r M l0 37) (l12 : Int32).toNatClampNeg : Int32).toInt64))), (4, vL (l4 + ((mj_i M (mj_r M l0 36) (l12 : Int32).toNatClampNeg : Int32).toInt64))), (2, vL (l2 + 1)), (0, vR l0), (1, vI l1), (8, vL l8), (10, vL l10), (12, vI l12)]) hC dX12_findLine_60 (by decide) rfl ?_
        refine mx_lload (j := 5) hC dX12_findLine_62 rfl ?_
        refine mx_aload_n (j := 3) hC dX12_findLine_64 rfl rfl ?_
        refine mx_get (v := vR (mj_r M l0 36)) hC tf_X12_101 ht1 rfl dX12_findLine_65 ?_
        refine mx_iload (j := 7) hC dX12_findLine_68 rfl ?_
        refine mx_iaload hC ht5 hi6 dX12_findLine_70 ?_
        refine mx_i2l hC dX12_findLine_71 ?_
        refine mx_aload_n (j := 3) hC dX12_findLine_72 rfl rfl ?_
        refine mx_get (v := vR (mj_r M l0 36)) hC tf_X12_101 ht1 rfl dX12_findLine_73 ?_
        refine mx_iload (j := 7) hC dX12_findLine_76 rfl ?_
        refine mx_iaload hC ht5 hi6 dX12_findLine_78 ?_
        refine mx_i2l hC dX12_findLine_79 ?_
        refine mx_lmul hC dX12_findLine_80 ?_
        refine mx_ladd hC dX12_findLine_81 ?_
        refine mx_lstore (L' := [(8, vL (l8 + (((mj_i M (mj_r M l0 36) (l12 : Int32).toNatClampNeg : Int32).toInt64) * ((mj_i M (mj_r M l0 36) (l12 : Int32).toNatClampNeg : Int32).toInt64)))), (6, vL (l6 + ((mj_i M (mj_r M l0 37) (l12 : Int32).toNatClampNeg : Int32).toInt64))), (4, vL (l4 + ((mj_i M (mj_r M l0 36) (l12 : Int32).toNatClampNeg : Int32).toInt64))), (2, vL (l2 + 1)), (0, vR l0), (1, vI l1), (10, vL l10), (12, vI l12)]) hC dX12_findLine_82 (by decide) rfl ?_
        refine mx_lload (j := 6) hC dX12_findLine_84 rfl ?_
        refine mx_aload_n (j := 4) hC dX12_findLine_86 rfl rfl ?_
        refine mx_get (v := vR (mj_r M l0 36)) hC tf_X12_101 ht1 rfl dX12_findLine_87 ?_
        refine mx_iload (j := 7) hC dX12_findLine_90 rfl ?_
        refine mx_iaload hC ht5 hi6 dX12_findLine_92 ?_
        refine mx_i2l hC dX12_findLine_93 ?_
        refine mx_aload_n (j := 4) hC dX12_findLine_94 rfl rfl ?_
        refine mx_get (v := vR (mj_r M l0 37)) hC tf_X12_104 ht1 rfl dX12_findLine_95 ?_
        refine mx_iload (j := 7) hC dX12_findLine_98 rfl ?_
        refine mx_iaload hC ht7 hi8 dX12_findLine_100 ?_
        refine mx_i2l hC dX12_findLine_101 ?_
        refine mx_lmul hC dX12_findLine_102 ?_
        refine mx_ladd hC dX12_findLine_103 ?_
        refine mx_lstore (L' := [(10, vL (l10 + (((mj_i M (mj_r M l0 36) (l12 : Int32).toNatClampNeg : Int32).toInt64) * ((mj_i M (mj_r M l0 37) (l12 : Int32).toNatClampNeg : Int32).toInt64)))), (8, vL (l8 + (((mj_i M (mj_r M l0 36) (l12 : Int32).toNatClampNeg : Int32).toInt64) * ((mj_i M (mj_r M l0 36) (l12 : Int32).toNatClampNeg : Int32).toInt64)))), (6, vL (l6 + ((mj_i M (mj_r M l0 37) (l12 : Int32).toNatClampNeg : Int32).toInt64))), (4, vL (l4 + ((mj_i M (mj_r M l0 36) (l12 : Int32).toNatClampNeg : Int32).toInt64))), (2, vL (l2 + 1)), (0, vR l0), (1, vI l1), (12, vI l12)]) hC dX12_findLine_104 (by decide) rfl ?_
        refine mx_iinc (j := 7) (v := l12 + 1) (L' := [(12, vI (l12 + 1)), (10, vL (l10 + (((mj_i M (mj_r M l0 36) (l12 : Int32).toNatClampNeg : Int32).toInt64) * ((mj_i M (mj_r M l0 37) (l12 : Int32).toNatClampNeg : Int32).toInt64)))), (8, vL (l8 + (((mj_i M (mj_r M l0 36) (l12 : Int32).toNatClampNeg : Int32).toInt64) * ((mj_i M (mj_r M l0 36) (l12 : Int32).toNatClampNeg : Int32).toInt64)))), (6, vL (l6 + ((mj_i M (mj_r M l0 37) (l12 : Int32).toNatClampNeg : Int32).toInt64))), (4, vL (l4 + ((mj_i M (mj_r M l0 36) (l12 : Int32).toNatClampNeg : Int32).toInt64))), (2, vL (l2 + 1)), (0, vR l0), (1, vI l1)]) hC dX12_findLine_106 rfl rfl (by decide) rfl ?_
        refine mx_goto (tgt := 17) hC dX12_findLine_109 (by decide) ?_
        refine mx_sub (L' := [(0, vR l0), (1, vI l1), (2, vL (l2 + 1)), (4, vL (l4 + ((mj_i M (mj_r M l0 36) (l12 : Int32).toNatClampNeg : Int32).toInt64))), (6, vL (l6 + ((mj_i M (mj_r M l0 37) (l12 : Int32).toNatClampNeg : Int32).toInt64))), (8, vL (l8 + (((mj_i M (mj_r M l0 36) (l12 : Int32).toNatClampNeg : Int32).toInt64) * ((mj_i M (mj_r M l0 36) (l12 : Int32).toNatClampNeg : Int32).toInt64)))), (10, vL (l10 + (((mj_i M (mj_r M l0 36) (l12 : Int32).toNatClampNeg : Int32).toInt64) * ((mj_i M (mj_r M l0 37) (l12 : Int32).toNatClampNeg : Int32).toInt64)))), (12, vI (l12 + 1))]) [6, 7, 5, 4, 3, 2, 1, 0] rfl ?_
        exact show mj_X g 17 [(0, vR l0), (1, vI l1), (2, vL (l2 + 1)), (4, vL (l4 + ((mj_i M (mj_r M l0 36) (l12 : Int32).toNatClampNeg : Int32).toInt64))), (6, vL (l6 + ((mj_i M (mj_r M l0 37) (l12 : Int32).toNatClampNeg : Int32).toInt64))), (8, vL (l8 + (((mj_i M (mj_r M l0 36) (l12 : Int32).toNatClampNeg : Int32).toInt64) * ((mj_i M (mj_r M l0 36) (l12 : Int32).toNatClampNeg : Int32).toInt64)))), (10, vL (l10 + (((mj_i M (mj_r M l0 36) (l12 : Int32).toNatClampNeg : Int32).toInt64) * ((mj_i M (mj_r M l0 37) (l12 : Int32).toNatClampNeg : Int32).toInt64)))), (12, vI (l12 + 1))] [] M 0 0 from (ih l0 l1 (l2 + 1) (l4 + ((mj_i M (mj_r M l0 36) (l12 : Int32).toNatClampNeg : Int32).toInt64)) (l6 + ((mj_i M (mj_r M l0 37) (l12 : Int32).toNatClampNeg : Int32).toInt64)) (l8 + (((mj_i M (mj_r M l0 36) (l12 : Int32).toNatClampNeg : Int32).toInt64) * ((mj_i M (mj_r M l0 36) (l12 : Int32).toNatClampNeg : Int32).toInt64))) (l10 + (((mj_i M (mj_r M l0 36) (l12 : Int32).toNatClampNeg : Int32).toInt64) * ((mj_i M (mj_r M l0 37) (l12 : Int32).toNatClampNeg : Int32).toInt64))) (l12 + 1) M h)
set_option maxHeartbeats 4000000 in
set_option maxRecDepth 100000 in
theorem ct_X12_findLine {l : Launch} {base : Nat} {D : va_G} {A : ClassId × ClassId × ClassId} (l0 : Nat) (l1 : Int32) (M : mj_M) (post : Bool → mj_M → Prop) (h : vc_X12_findLine l0 l1 M post) : mj_Met l base D A mj_jB yX12_findLine cX12_findLine 13 (some .boolean) rm_X12_findLine 0 0 [vR l0, vI l1] M post := by
  refine mj_entry (by decide +kernel) (Nat.le_of_ble_eq_true rfl) (fun g hC hE h1 h2 h3 h4 => ?_)
  show mj_X g 0 [(0, vR l0), (1, vI l1)] [] M 0 0
  simp only [vc_X12_findLine] at h
  refine mx_lconst (v := 0) hC dX12_findLine_0 (by decide) ?_
  refine mx_lstore_n (L' := [(2, vL 0), (0, vR l0), (1, vI l1)]) hC dX12_findLine_1 rfl (by decide) rfl ?_
  refine mx_lconst (v := 0) hC dX12_findLine_2 (by decide) ?_
  refine mx_lstore (L' := [(4, vL 0), (2, vL 0), (0, vR l0), (1, vI l1)]) hC dX12_findLine_3 (by decide) rfl ?_
  refine mx_lconst (v := 0) hC dX12_findLine_5 (by decide) ?_
  refine mx_lstore (L' := [(6, vL 0), (4, vL 0), (2, vL 0), (0, vR l0), (1, vI l1)]) hC dX12_findLine_6 (by decide) rfl ?_
  refine mx_lconst (v := 0) hC dX12_findLine_8 (by decide) ?_
  refine mx_lstore (L' := [(8, vL 0), (6, vL 0), (4, vL 0), (2, vL 0), (0, vR l0), (1, vI l1)]) hC dX12_findLine_9 (by decide) rfl ?_
  refine mx_lconst (v := 0) hC dX12_findLine_11 (by decide) ?_
  refine mx_lstore (L' := [(10, vL 0), (8, vL 0), (6, vL 0), (4, vL 0), (2, vL 0), (0, vR l0), (1, vI l1)]) hC dX12_findLine_12 (by decide) rfl ?_
  refine mx_iconst (v := 0) hC dX12_findLine_14 (by decide) ?_
  refine mx_istore (L' := [(12, vI 0), (10, vL 0), (8, vL 0), (6, vL 0), (4, vL 0), (2, vL 0), (0, vR l0), (1, vI l1)]) hC dX12_findLine_15 (by decide) rfl ?_
  refine mx_sub (L' := [(0, vR l0), (1, vI l1), (2, vL 0), (4, vL 0), (6, vL 0), (8, vL 0), (10, vL 0), (12, vI 0)]) [6, 7, 5, 4, 3, 2, 1, 0] rfl ?_
  obtain ⟨fe, h⟩ := h
  exact show mj_X g 17 [(0, vR l0), (1, vI l1), (2, vL 0), (4, vL 0), (6, vL 0), (8, vL 0), (10, vL 0), (12, vI 0)] [] M 0 0 from (xb_X12_findLine_17 hC hE fe l0 l1 0 0 0 0 0 0 M h)
def rm_X12_size : Room := { frames := 0, cells := 0, slots := 0, locals := 0 }
theorem dX12_size_0 : decode cX12_size 0 = .ok (.lload_n 0, 1) := by decide +kernel
theorem dX12_size_1 : decode cX12_size 1 = .ok (.lconst 0, 1) := by decide +kernel
theorem dX12_size_2 : decode cX12_size 2 = .ok (.lcmp, 1) := by decide +kernel
theorem dX12_size_3 : decode cX12_size 3 = .ok (.ifCond .ge 8, 3) := by decide +kernel
theorem dX12_size_6 : decode cX12_size 6 = .ok (.lload_n 0, 1) := by decide +kernel
theorem dX12_size_7 : decode cX12_size 7 = .ok (.lneg, 1) := by decide +kernel
theorem dX12_size_8 : decode cX12_size 8 = .ok (.goto 4, 3) := by decide +kernel
theorem dX12_size_11 : decode cX12_size 11 = .ok (.lload_n 0, 1) := by decide +kernel
theorem dX12_size_12 : decode cX12_size 12 = .ok (.lreturn, 1) := by decide +kernel
def vc_X12_size (l0 : Int64) (M : mj_M) (post : Int64 → mj_M → Prop) : Prop := if 0 ≤ (lg_cmp l0 0) then (post l0 M) else (post (-l0) M)
set_option maxHeartbeats 4000000 in
set_option maxRecDepth 100000 in
theorem ct_X12_size {l : Launch} {base : Nat} {D : va_G} {A : ClassId × ClassId × ClassId} (l0 : Int64) (M : mj_M) (post : Int64 → mj_M → Prop) (h : vc_X12_size l0 M post) : mj_Met l base D A mj_jL yX12_size cX12_size 2 (some .long) rm_X12_size 0 0 [vL l0] M post := by
  refine mj_entry (by decide +kernel) (Nat.le_of_ble_eq_true rfl) (fun g hC hE h1 h2 h3 h4 => ?_)
  show mj_X g 0 [(0, vL l0)] [] M 0 0
  simp only [vc_X12_size] at h
  refine mx_lload_n (j := 0) hC dX12_size_0 rfl rfl ?_
  refine mx_lconst (v := 0) hC dX12_size_1 (by decide) ?_
  refine mx_lcmp hC dX12_size_2 ?_
  refine mx_ifge (tgt := 11) hC dX12_size_3 (by decide) (fun hc1 => ?_) (fun hc1 => ?_)
  · replace h := mj_yy hc1 h
    refine mx_lload_n (j := 0) hC dX12_size_11 rfl rfl ?_
    exact mx_lret hC hE rfl dX12_size_12 h
  · replace h := mj_nn hc1 h
    refine mx_lload_n (j := 0) hC dX12_size_6 rfl rfl ?_
    refine mx_lneg hC dX12_size_7 ?_
    refine mx_goto (tgt := 12) hC dX12_size_8 (by decide) ?_
    exact mx_lret hC hE rfl dX12_size_12 h
theorem tw1731 : (Jvm.Cond.methodLink "LeaseLandModel" (364 : Nat) ({ cls := "LeaseLandModel", name := "size", desc := "(J)J" } : Jvm.MethodName)) ∈ mj_tbl := mj_w 1784 (by decide +kernel) (by decide +kernel)
theorem tw1733 : (Jvm.Cond.code ({ cls := "LeaseLandModel", name := "size", desc := "(J)J" } : Jvm.MethodName) prog_14_method_90_code (2 : Nat) (Option.some Jvm.ClassFile.FieldType.long)) ∈ mj_tbl := mj_w 1786 (by decide +kernel) (by decide +kernel)
theorem tw1732 : (Jvm.Cond.static ({ cls := "LeaseLandModel", name := "size", desc := "(J)J" } : Jvm.MethodName)) ∈ mj_tbl := mj_w 1785 (by decide +kernel) (by decide +kernel)
theorem ty_X12_size : mj_YS yX12_size cX12_size 2 (some .long) 1 := ⟨⟨tw1733, tw11, by decide +kernel, by decide +kernel, by decide +kernel⟩, tw1732⟩
def rm_X12_lowest : Room := { frames := 1, cells := 0, slots := 0, locals := 21 }
theorem dX12_lowest_0 : decode cX12_lowest 0 = .ok (.lload_n 0, 1) := by decide +kernel
theorem dX12_lowest_1 : decode cX12_lowest 1 = .ok (.invokestatic 364, 3) := by decide +kernel
theorem dX12_lowest_4 : decode cX12_lowest 4 = .ok (.lstore 5, 2) := by decide +kernel
theorem dX12_lowest_6 : decode cX12_lowest 6 = .ok (.lload_n 2, 1) := by decide +kernel
theorem dX12_lowest_7 : decode cX12_lowest 7 = .ok (.lstore 7, 2) := by decide +kernel
theorem dX12_lowest_9 : decode cX12_lowest 9 = .ok (.lload 7, 2) := by decide +kernel
theorem dX12_lowest_11 : decode cX12_lowest 11 = .ok (.lconst 0, 1) := by decide +kernel
theorem dX12_lowest_12 : decode cX12_lowest 12 = .ok (.lcmp, 1) := by decide +kernel
theorem dX12_lowest_13 : decode cX12_lowest 13 = .ok (.ifCond .eq 21, 3) := by decide +kernel
theorem dX12_lowest_16 : decode cX12_lowest 16 = .ok (.lload 5, 2) := by decide +kernel
theorem dX12_lowest_18 : decode cX12_lowest 18 = .ok (.lload 7, 2) := by decide +kernel
theorem dX12_lowest_20 : decode cX12_lowest 20 = .ok (.lrem, 1) := by decide +kernel
theorem dX12_lowest_21 : decode cX12_lowest 21 = .ok (.lstore 9, 2) := by decide +kernel
theorem dX12_lowest_23 : decode cX12_lowest 23 = .ok (.lload 7, 2) := by decide +kernel
theorem dX12_lowest_25 : decode cX12_lowest 25 = .ok (.lstore 5, 2) := by decide +kernel
theorem dX12_lowest_27 : decode cX12_lowest 27 = .ok (.lload 9, 2) := by decide +kernel
theorem dX12_lowest_29 : decode cX12_lowest 29 = .ok (.lstore 7, 2) := by decide +kernel
theorem dX12_lowest_31 : decode cX12_lowest 31 = .ok (.goto (-22), 3) := by decide +kernel
theorem dX12_lowest_34 : decode cX12_lowest 34 = .ok (.iload 4, 2) := by decide +kernel
theorem dX12_lowest_36 : decode cX12_lowest 36 = .ok (.ifCond .ne 10, 3) := by decide +kernel
theorem dX12_lowest_39 : decode cX12_lowest 39 = .ok (.lload_n 0, 1) := by decide +kernel
theorem dX12_lowest_40 : decode cX12_lowest 40 = .ok (.lload 5, 2) := by decide +kernel
theorem dX12_lowest_42 : decode cX12_lowest 42 = .ok (.ldiv, 1) := by decide +kernel
theorem dX12_lowest_43 : decode cX12_lowest 43 = .ok (.goto 7, 3) := by decide +kernel
theorem dX12_lowest_46 : decode cX12_lowest 46 = .ok (.lload_n 2, 1) := by decide +kernel
theorem dX12_lowest_47 : decode cX12_lowest 47 = .ok (.lload 5, 2) := by decide +kernel
theorem dX12_lowest_49 : decode cX12_lowest 49 = .ok (.ldiv, 1) := by decide +kernel
theorem dX12_lowest_50 : decode cX12_lowest 50 = .ok (.lreturn, 1) := by decide +kernel
def vb_X12_lowest_9 (post : Int64 → mj_M → Prop) : Nat → Int64 → Int64 → Int32 → Int64 → Int64 → mj_M → Prop
  | 0 => fun _ _ _ _ _ _ => False
  | f + 1 => fun l0 l2 l4 l5 l7 M => if (lg_cmp l7 0) = 0 then (if l4 = 0 then ((¬ l5 = 0) ∧ post (l0 / l5) M) else ((¬ l5 = 0) ∧ post (l2 / l5) M)) else ((¬ l7 = 0) ∧ vb_X12_lowest_9 post f l0 l2 l4 l7 (l5 - l5 / l7 * l7) M)
def vc_X12_lowest (l0 : Int64) (l2 : Int64) (l4 : Int32) (M : mj_M) (post : Int64 → mj_M → Prop) : Prop := vc_X12_size l0 M (fun r6 M7 => ∃ fe, vb_X12_lowest_9 post fe l0 l2 l4 r6 l2 M7)
set_option maxHeartbeats 4000000 in
set_option maxRecDepth 100000 in
theorem xb_X12_lowest_9 {g : mj_G} {post : Int64 → mj_M → Prop} (hC : mj_C g yX12_lowest cX12_lowest 11 (some .long) rm_X12_lowest) (hE : mj_E g mj_jL post 0 0) : ∀ (f : Nat) (l0 : Int64) (l2 : Int64) (l4 : Int32) (l5 : Int64) (l7 : Int64) (M : mj_M), vb_X12_lowest_9 post f l0 l2 l4 l5 l7 M → mj_X g 9 [(0, vL l0), (2, vL l2), (4, vI l4), (5, vL l5), (7, vL l7)] [] M 0 0 := by
  intro f
  induction f with
  | zero => exact fun _ _ _ _ _ _ h => absurd h (fun z => z)
  | succ f ih =>
    intro l0 l2 l4 l5 l7 M h
    simp only [vb_X12_lowest_9] at h
    refine mx_lload (j := 4) hC dX12_lowest_9 rfl ?_
    refine mx_lconst (v := 0) hC dX12_lowest_11 (by decide) ?_
    refine mx_lcmp hC dX12_lowest_12 ?_
    refine mx_ifeq (tgt := 34) hC dX12_lowest_13 (by decide) (fun hc1 => ?_) (fun hc1 => ?_)
    · replace h := mj_yy hc1 h
      refine mx_iload (j := 2) hC dX12_lowest_34 rfl ?_
      refine mx_ifne (tgt := 46) hC dX12_lowest_36 (by decide) (fun hc2 => ?_) (fun hc2 => ?_)
      · replace h := mj_nn hc2 h
        refine mx_lload_n (j := 1) hC dX12_lowest_46 rfl rfl ?_
        refine mx_lload (j := 3) hC dX12_lowest_47 rfl ?_
        obtain ⟨hz3, h⟩ := h
        refine mx_ldiv hC dX12_lowest_49 hz3 ?_
        exact mx_lret hC hE rfl dX12_lowest_50 h
      · replace h := mj_yy hc2 h
        refine mx_lload_n (j := 0) hC dX12_lowest_39 rfl rfl ?_
        refine mx_lload (j := 3) hC dX12_lowest_40 rfl ?_
        obtain ⟨hz4, h⟩ := h
        refine mx_ldiv hC dX12_lowest_42 hz4 ?_
        refine mx_goto (tgt := 50) hC dX12_lowest_43 (by decide) ?_
        exact mx_lret hC hE rfl dX12_lowest_50 h
    · replace h := mj_nn hc1 h
      refine mx_lload (j := 3) hC dX12_lowest_16 rfl ?_
      refine mx_lload (j := 4) hC dX12_lowest_18 rfl ?_
      obtain ⟨hz5, h⟩ := h
      refine mx_lrem hC dX12_lowest_20 hz5 ?_
      refine mx_lstore (L' := [(9, vL (l5 - l5 / l7 * l7)), (0, vL l0), (2, vL l2), (4, vI l4), (5, vL l5), (7, vL l7)]) hC dX12_lowest_21 (by decide) rfl ?_
      refine mx_lload (j := 5) hC dX12_lowest_23 rfl ?_
      refine mx_lstore (L' := [(5, vL l7), (9, vL (l5 - l5 / l7 * l7)), (0, vL l0), (2, vL l2), (4, vI l4), (7, vL l7)]) hC dX12_lowest_25 (by decide) rfl ?_
      refine mx_lload (j := 1) hC dX12_lowest_27 rfl ?_
      refine mx_lstore (L' := [(7, vL (l5 - l5 / l7 * l7)), (5, vL l7), (9, vL (l5 - l5 / l7 * l7)), (0, vL l0), (2, vL l2), (4, vI l4)]) hC dX12_lowest_29 (by decide) rfl ?_
      refine mx_goto (tgt := 9) hC dX12_lowest_31 (by decide) ?_
      refine mx_sub (L' := [(0, vL l0), (2, vL l2), (4, vI l4), (5, vL l7), (7, vL (l5 - l5 / l7 * l7))]) [3, 4, 5, 1, 0] rfl ?_
      exact show mj_X g 9 [(0, vL l0), (2, vL l2), (4, vI l4), (5, vL l7), (7, vL (l5 - l5 / l7 * l7))] [] M 0 0 from (ih l0 l2 l4 l7 (l5 - l5 / l7 * l7) M h)
set_option maxHeartbeats 4000000 in
set_option maxRecDepth 100000 in
theorem ct_X12_lowest {l : Launch} {base : Nat} {D : va_G} {A : ClassId × ClassId × ClassId} (l0 : Int64) (l2 : Int64) (l4 : Int32) (M : mj_M) (post : Int64 → mj_M → Prop) (h : vc_X12_lowest l0 l2 l4 M post) : mj_Met l base D A mj_jL yX12_lowest cX12_lowest 11 (some .long) rm_X12_lowest 0 0 [vL l0, vL l2, vI l4] M post := by
  refine mj_entry (by decide +kernel) (Nat.le_of_ble_eq_true rfl) (fun g hC hE h1 h2 h3 h4 => ?_)
  show mj_X g 0 [(0, vL l0), (2, vL l2), (4, vI l4)] [] M 0 0
  simp only [vc_X12_lowest] at h
  refine mx_lload_n (j := 0) hC dX12_lowest_0 rfl rfl ?_
  refine mx_callS (inj := mj_jL) (As := [vL l0]) (st := []) hC (ct_X12_size l0 M _ h) ty_X12_size tw1731 rfl (Nat.le_of_ble_eq_true rfl) ⟨rfl, rfl, ⟨by decide, by decide⟩, by decide, by decide⟩ dX12_lowest_1 (fun r6 M7 h => ?_)
  show mj_X g 4 [(0, vL l0), (2, vL l2), (4, vI l4)] [vL r6] M7 0 0
  refine mx_lstore (L' := [(5, vL r6), (0, vL l0), (2, vL l2), (4, vI l4)]) hC dX12_lowest_4 (by decide) rfl ?_
  refine mx_lload_n (j := 2) hC dX12_lowest_6 rfl rfl ?_
  refine mx_lstore (L' := [(7, vL l2), (5, vL r6), (0, vL l0), (2, vL l2), (4, vI l4)]) hC dX12_lowest_7 (by decide) rfl ?_
  refine mx_sub (L' := [(0, vL l0), (2, vL l2), (4, vI l4), (5, vL r6), (7, vL l2)]) [2, 3, 4, 1, 0] rfl ?_
  obtain ⟨fe, h⟩ := h
  exact show mj_X g 9 [(0, vL l0), (2, vL l2), (4, vI l4), (5, vL r6), (7, vL l2)] [] M7 0 0 from (xb_X12_lowest_9 hC hE fe l0 l2 l4 r6 l2 M7 h)
theorem tw1724 : (Jvm.Cond.methodLink "LeaseLandModel" (368 : Nat) ({ cls := "LeaseLandModel", name := "findLine", desc := "(I)Z" } : Jvm.MethodName)) ∈ mj_tbl := mj_w 1777 (by decide +kernel) (by decide +kernel)
theorem tw1728 : (Jvm.Cond.methodLink "LeaseLandModel" (371 : Nat) ({ cls := "LeaseLandModel", name := "lowest", desc := "(JJI)J" } : Jvm.MethodName)) ∈ mj_tbl := mj_w 1781 (by decide +kernel) (by decide +kernel)
theorem tw1734 : (Jvm.Cond.constantLong "LeaseLandModel" (375 : Nat) (-1000000000000003 : Int64)) ∈ mj_tbl := mj_w 1787 (by decide +kernel) (by decide +kernel)
theorem tw1727 : (Jvm.Cond.code ({ cls := "LeaseLandModel", name := "findLine", desc := "(I)Z" } : Jvm.MethodName) prog_14_method_89_code (13 : Nat) (Option.some Jvm.ClassFile.FieldType.boolean)) ∈ mj_tbl := mj_w 1780 (by decide +kernel) (by decide +kernel)
theorem tw1726 : (Jvm.Cond.instanceMethod ({ cls := "LeaseLandModel", name := "findLine", desc := "(I)Z" } : Jvm.MethodName)) ∈ mj_tbl := mj_w 1779 (by decide +kernel) (by decide +kernel)
theorem ty_X12_findLine : mj_YV 12 yX12_findLine cX12_findLine 13 (some .boolean) 1 := ⟨⟨tw1727, tw11, by decide +kernel, by decide +kernel, by decide +kernel⟩, tw1726, mj_w 43 (by decide +kernel) (by decide +kernel), _, rfl, rfl⟩
theorem tw1730 : (Jvm.Cond.code ({ cls := "LeaseLandModel", name := "lowest", desc := "(JJI)J" } : Jvm.MethodName) prog_14_method_91_code (11 : Nat) (Option.some Jvm.ClassFile.FieldType.long)) ∈ mj_tbl := mj_w 1783 (by decide +kernel) (by decide +kernel)
theorem tw1729 : (Jvm.Cond.static ({ cls := "LeaseLandModel", name := "lowest", desc := "(JJI)J" } : Jvm.MethodName)) ∈ mj_tbl := mj_w 1782 (by decide +kernel) (by decide +kernel)
theorem ty_X12_lowest : mj_YS yX12_lowest cX12_lowest 11 (some .long) 3 := ⟨⟨tw1730, tw11, by decide +kernel, by decide +kernel, by decide +kernel⟩, tw1729⟩
def rm_X12_learned : Room := { frames := 2, cells := 0, slots := 0, locals := 51 }
theorem dX12_learned_0 : decode cX12_learned 0 = .ok (.iload_n 2, 1) := by decide +kernel
theorem dX12_learned_1 : decode cX12_learned 1 = .ok (.iconst (-1), 1) := by decide +kernel
theorem dX12_learned_2 : decode cX12_learned 2 = .ok (.if_icmp .eq 23, 3) := by decide +kernel
theorem dX12_learned_5 : decode cX12_learned 5 = .ok (.iload_n 2, 1) := by decide +kernel
theorem dX12_learned_6 : decode cX12_learned 6 = .ok (.i2l, 1) := by decide +kernel
theorem dX12_learned_7 : decode cX12_learned 7 = .ok (.lconst 0, 1) := by decide +kernel
theorem dX12_learned_8 : decode cX12_learned 8 = .ok (.aload_n 0, 1) := by decide +kernel
theorem dX12_learned_9 : decode cX12_learned 9 = .ok (.getfield 351, 3) := by decide +kernel
theorem dX12_learned_12 : decode cX12_learned 12 = .ok (.iconst 1, 1) := by decide +kernel
theorem dX12_learned_13 : decode cX12_learned 13 = .ok (.isub, 1) := by decide +kernel
theorem dX12_learned_14 : decode cX12_learned 14 = .ok (.i2l, 1) := by decide +kernel
theorem dX12_learned_15 : decode cX12_learned 15 = .ok (.invokestatic 133, 3) := by decide +kernel
theorem dX12_learned_18 : decode cX12_learned 18 = .ok (.ifCond .ne 7, 3) := by decide +kernel
theorem dX12_learned_21 : decode cX12_learned 21 = .ok (.ldc2_w 226, 3) := by decide +kernel
theorem dX12_learned_24 : decode cX12_learned 24 = .ok (.lreturn, 1) := by decide +kernel
theorem dX12_learned_25 : decode cX12_learned 25 = .ok (.iload_n 1, 1) := by decide +kernel
theorem dX12_learned_26 : decode cX12_learned 26 = .ok (.i2l, 1) := by decide +kernel
theorem dX12_learned_27 : decode cX12_learned 27 = .ok (.lconst 0, 1) := by decide +kernel
theorem dX12_learned_28 : decode cX12_learned 28 = .ok (.ldc2_w 330, 3) := by decide +kernel
theorem dX12_learned_31 : decode cX12_learned 31 = .ok (.invokestatic 133, 3) := by decide +kernel
theorem dX12_learned_34 : decode cX12_learned 34 = .ok (.ifCond .eq 13, 3) := by decide +kernel
theorem dX12_learned_37 : decode cX12_learned 37 = .ok (.iload_n 3, 1) := by decide +kernel
theorem dX12_learned_38 : decode cX12_learned 38 = .ok (.i2l, 1) := by decide +kernel
theorem dX12_learned_39 : decode cX12_learned 39 = .ok (.lconst 0, 1) := by decide +kernel
theorem dX12_learned_40 : decode cX12_learned 40 = .ok (.lconst 1, 1) := by decide +kernel
theorem dX12_learned_41 : decode cX12_learned 41 = .ok (.invokestatic 133, 3) := by decide +kernel
theorem dX12_learned_44 : decode cX12_learned 44 = .ok (.ifCond .ne 7, 3) := by decide +kernel
theorem dX12_learned_47 : decode cX12_learned 47 = .ok (.ldc2_w 228, 3) := by decide +kernel
theorem dX12_learned_50 : decode cX12_learned 50 = .ok (.lreturn, 1) := by decide +kernel
theorem dX12_learned_51 : decode cX12_learned 51 = .ok (.aload_n 0, 1) := by decide +kernel
theorem dX12_learned_52 : decode cX12_learned 52 = .ok (.iload_n 2, 1) := by decide +kernel
theorem dX12_learned_53 : decode cX12_learned 53 = .ok (.invokevirtual 368, 3) := by decide +kernel
theorem dX12_learned_56 : decode cX12_learned 56 = .ok (.ifCond .eq 26, 3) := by decide +kernel
theorem dX12_learned_59 : decode cX12_learned 59 = .ok (.aload_n 0, 1) := by decide +kernel
theorem dX12_learned_60 : decode cX12_learned 60 = .ok (.getfield 361, 3) := by decide +kernel
theorem dX12_learned_63 : decode cX12_learned 63 = .ok (.aload_n 0, 1) := by decide +kernel
theorem dX12_learned_64 : decode cX12_learned 64 = .ok (.getfield 358, 3) := by decide +kernel
theorem dX12_learned_67 : decode cX12_learned 67 = .ok (.iload_n 1, 1) := by decide +kernel
theorem dX12_learned_68 : decode cX12_learned 68 = .ok (.i2l, 1) := by decide +kernel
theorem dX12_learned_69 : decode cX12_learned 69 = .ok (.lmul, 1) := by decide +kernel
theorem dX12_learned_70 : decode cX12_learned 70 = .ok (.ladd, 1) := by decide +kernel
theorem dX12_learned_71 : decode cX12_learned 71 = .ok (.aload_n 0, 1) := by decide +kernel
theorem dX12_learned_72 : decode cX12_learned 72 = .ok (.getfield 354, 3) := by decide +kernel
theorem dX12_learned_75 : decode cX12_learned 75 = .ok (.iload_n 3, 1) := by decide +kernel
theorem dX12_learned_76 : decode cX12_learned 76 = .ok (.invokestatic 371, 3) := by decide +kernel
theorem dX12_learned_79 : decode cX12_learned 79 = .ok (.goto 6, 3) := by decide +kernel
theorem dX12_learned_82 : decode cX12_learned 82 = .ok (.ldc2_w 375, 3) := by decide +kernel
theorem dX12_learned_85 : decode cX12_learned 85 = .ok (.lreturn, 1) := by decide +kernel
def vb_X12_learned_25 (post : Int64 → mj_M → Prop) (l0 : Nat) (l1 : Int32) (l2 : Int32) (l3 : Int32) (M : mj_M) : Prop := vc_X12_in ((l1 : Int32).toInt64) 0 200 M (fun r1 M2 => if r1 = true then (vc_X12_in ((l3 : Int32).toInt64) 0 1 M2 (fun r4 M5 => if r4 = true then (mj_tag M5 l0 = 13 ∧ vc_X12_findLine l0 l2 M5 (fun r8 M9 => if r8 = true then (mj_tag M9 l0 = 13 ∧ vc_X12_lowest ((mj_l M9 l0 39) + ((mj_l M9 l0 40) * ((l1 : Int32).toInt64))) (mj_l M9 l0 41) l3 M9 (fun r12 M13 => post r12 M13)) else (post ((-1000000000000003)) M9))) else (post ((-1000000000000002)) M5))) else (post ((-1000000000000002)) M2))
def vc_X12_learned (l0 : Nat) (l1 : Int32) (l2 : Int32) (l3 : Int32) (M : mj_M) (post : Int64 → mj_M → Prop) : Prop := if l2 = ((-1)) then (vb_X12_learned_25 post l0 l1 l2 l3 M) else (mj_tag M l0 = 13 ∧ vc_X12_in ((l2 : Int32).toInt64) 0 (((mj_i M l0 38) - 1 : Int32).toInt64) M (fun r16 M17 => if r16 = true then (vb_X12_learned_25 post l0 l1 l2 l3 M17) else (post ((-1000000000000001)) M17)))
set_option maxHeartbeats 4000000 in
set_option maxRecDepth 100000 in
theorem xb_X12_learned_25 {g : mj_G} {post : Int64 → mj_M → Prop} (hC : mj_C g yX12_learned cX12_learned 4 (some .long) rm_X12_learned) (hE : mj_E g mj_jL post 0 0) (l0 : Nat) (l1 : Int32) (l2 : Int32) (l3 : Int32) (M : mj_M) (h : vb_X12_learned_25 post l0 l1 l2 l3 M) : mj_X g 25 [(0, vR l0), (1, vI l1), (2, vI l2), (3, vI l3)] [] M 0 0 := by
  simp only [vb_X12_learned_25] at h
  refine mx_iload_n (j := 1) hC dX12_learned_25 rfl rfl ?_
  refine mx_i2l hC dX12_learned_26 ?_
  refine mx_lconst (v := 0) hC dX12_learned_27 (by decide) ?_
  refine mx_ldc2 (v := 200) hC dX12_learned_28 tw1686 ?_
  refine mx_callS (inj := mj_jB) (As := [vL ((l1 : Int32).toInt64), vL 0, vL 200]) (st := []) hC (ct_X12_in ((l1 : Int32).toInt64) 0 200 M _ h) ty_X12_in tw1379 rfl (Nat.le_of_ble_eq_true rfl) ⟨rfl, rfl, ⟨by decide, by decide⟩, by decide, by decide⟩ dX12_learned_31 (fun r1 M2 h => ?_)
  show mj_X g 34 [(0, vR l0), (1, vI l1), (2, vI l2), (3, vI l3)] [vI (mj_b r1)] M2 0 0
  refine mx_ifeqB (tgt := 47) hC dX12_learned_34 (by decide) (fun hc3 => ?_) (fun hc3 => ?_)
  · replace h := mj_nn hc3 h
    refine mx_ldc2 (v := (-1000000000000002)) hC dX12_learned_47 tw1514 ?_
    exact mx_lret hC hE rfl dX12_learned_50 h
  · replace h := mj_yy hc3 h
    refine mx_iload_n (j := 3) hC dX12_learned_37 rfl rfl ?_
    refine mx_i2l hC dX12_learned_38 ?_
    refine mx_lconst (v := 0) hC dX12_learned_39 (by decide) ?_
    refine mx_lconst (v := 1) hC dX12_learned_40 (by decide) ?_
    refine mx_callS (inj := mj_jB) (As := [vL ((l3 : Int32).toInt64), vL 0, vL 1]) (st := []) hC (ct_X12_in ((l3 : Int32).toInt64) 0 1 M2 _ h) ty_X12_in tw1379 rfl (Nat.le_of_ble_eq_true rfl) ⟨rfl, rfl, ⟨by decide, by decide⟩, by decide, by decide⟩ dX12_learned_41 (fun r4 M5 h => ?_)
    show mj_X g 44 [(0, vR l0), (1, vI l1), (2, vI l2), (3, vI l3)] [vI (mj_b r4)] M5 0 0
    refine mx_ifneB (tgt := 51) hC dX12_learned_44 (by decide) (fun hc6 => ?_) (fun hc6 => ?_)
    · replace h := mj_yy hc6 h
      refine mx_aload_n (j := 0) hC dX12_learned_51 rfl rfl ?_
      refine mx_iload_n (j := 2) hC dX12_learned_52 rfl rfl ?_
      obtain ⟨ht7, h⟩ := h
      refine mx_callV (inj := mj_jB) (As := [vI l2]) (st := []) hC (ct_X12_findLine l0 l2 M5 _ h) ty_X12_findLine tw1724 ht7 rfl (Nat.le_of_ble_eq_true rfl) ⟨rfl, rfl, ⟨by decide, by decide⟩, by decide, by decide⟩ dX12_learned_53 (fun r8 M9 h => ?_)
      show mj_X g 56 [(0, vR l0), (1, vI l1), (2, vI l2), (3, vI l3)] [vI (mj_b r8)] M9 0 0
      refine mx_ifeqB (tgt := 82) hC dX12_learned_56 (by decide) (fun hc10 => ?_) (fun hc10 => ?_)
      · replace h := mj_nn hc10 h
        refine mx_ldc2 (v := (-1000000000000003)) hC dX12_learned_82 tw1734 ?_
        exact mx_lret hC hE rfl dX12_learned_85 h
      · replace h := mj_yy hc10 h
        refine mx_aload_n (j := 0) hC dX12_learned_59 rfl rfl ?_
        obtain ⟨ht11, h⟩ := h
        refine mx_get (v := vL (mj_l M9 l0 39)) hC tf_X12_361 ht11 rfl dX12_learned_60 ?_
        refine mx_aload_n (j := 0) hC dX12_learned_63 rfl rfl ?_
        refine mx_get (v := vL (mj_l M9 l0 40)) hC tf_X12_358 ht11 rfl dX12_learned_64 ?_
        refine mx_iload_n (j := 1) hC dX12_learned_67 rfl rfl ?_
        refine mx_i2l hC dX12_learned_68 ?_
        refine mx_lmul hC dX12_learned_69 ?_
        refine mx_ladd hC dX12_learned_70 ?_
        refine mx_aload_n (j := 0) hC dX12_learned_71 rfl rfl ?_
        refine mx_get (v := vL (mj_l M9 l0 41)) hC tf_X12_354 ht11 rfl dX12_learned_72 ?_
        refine mx_iload_n (j := 3) hC dX12_learned_75 rfl rfl ?_
        refine mx_callS (inj := mj_jL) (As := [vL ((mj_l M9 l0 39) + ((mj_l M9 l0 40) * ((l1 : Int32).toInt64))), vL (mj_l M9 l0 41), vI l3]) (st := []) hC (ct_X12_lowest ((mj_l M9 l0 39) + ((mj_l M9 l0 40) * ((l1 : Int32).toInt64))) (mj_l M9 l0 41) l3 M9 _ h) ty_X12_lowest tw1728 rfl (Nat.le_of_ble_eq_true rfl) ⟨rfl, rfl, ⟨by decide, by decide⟩, by decide, by decide⟩ dX12_learned_76 (fun r12 M13 h => ?_)
        show mj_X g 79 [(0, vR l0), (1, vI l1), (2, vI l2), (3, vI l3)] [vL r12] M13 0 0
        refine mx_goto (tgt := 85) hC dX12_learned_79 (by decide) ?_
        exact mx_lret hC hE rfl dX12_learned_85 h
    · replace h := mj_nn hc6 h
      refine mx_ldc2 (v := (-1000000000000002)) hC dX12_learned_47 tw1514 ?_
      exact mx_lret hC hE rfl dX12_learned_50 h
set_option maxHeartbeats 4000000 in
set_option maxRecDepth 100000 in
theorem ct_X12_learned {l : Launch} {base : Nat} {D : va_G} {A : ClassId × ClassId × ClassId} (l0 : Nat) (l1 : Int32) (l2 : Int32) (l3 : Int32) (M : mj_M) (post : Int64 → mj_M → Prop) (h : vc_X12_learned l0 l1 l2 l3 M post) : mj_Met l base D A mj_jL yX12_learned cX12_learned 4 (some .long) rm_X12_learned 0 0 [vR l0, vI l1, vI l2, vI l3] M post := by
  refine mj_entry (by decide +kernel) (Nat.le_of_ble_eq_true rfl) (fun g hC hE h1 h2 h3 h4 => ?_)
  show mj_X g 0 [(0, vR l0), (1, vI l1), (2, vI l2), (3, vI l3)] [] M 0 0
  simp only [vc_X12_learned] at h
  refine mx_iload_n (j := 2) hC dX12_learned_0 rfl rfl ?_
  refine mx_iconst (v := (-1)) hC dX12_learned_1 (by decide) ?_
  refine mx_icmpeq (tgt := 25) hC dX12_learned_2 (by decide) (fun hc14 => ?_) (fun hc14 => ?_)
  · replace h := mj_yy hc14 h
    refine mx_sub (L' := [(0, vR l0), (1, vI l1), (2, vI l2), (3, vI l3)]) [0, 1, 2, 3] rfl ?_
    exact show mj_X g 25 [(0, vR l0), (1, vI l1), (2, vI l2), (3, vI l3)] [] M 0 0 from (xb_X12_learned_25 hC hE l0 l1 l2 l3 M h)
  · replace h := mj_nn hc14 h
    refine mx_iload_n (j := 2) hC dX12_learned_5 rfl rfl ?_
    refine mx_i2l hC dX12_learned_6 ?_
    refine mx_lconst (v := 0) hC dX12_learned_7 (by decide) ?_
    refine mx_aload_n (j := 0) hC dX12_learned_8 rfl rfl ?_
    obtain ⟨ht15, h⟩ := h
    refine mx_get (v := vI (mj_i M l0 38)) hC tf_X12_351 ht15 rfl dX12_learned_9 ?_
    refine mx_iconst (v := 1) hC dX12_learned_12 (by decide) ?_
    refine mx_isub hC dX12_learned_13 ?_
    refine mx_i2l hC dX12_learned_14 ?_
    refine mx_callS (inj := mj_jB) (As := [vL ((l2 : Int32).toInt64), vL 0, vL (((mj_i M l0 38) - 1 : Int32).toInt64)]) (st := []) hC (ct_X12_in ((l2 : Int32).toInt64) 0 (((mj_i M l0 38) - 1 : Int32).toInt64) M _ h) ty_X12_in tw1379 rfl (Nat.le_of_ble_eq_true rfl) ⟨rfl, rfl, ⟨by decide, by decide⟩, by decide, by decide⟩ dX12_learned_15 (fun r16 M17 h => ?_)
    show mj_X g 18 [(0, vR l0), (1, vI l1), (2, vI l2), (3, vI l3)] [vI (mj_b r16)] M17 0 0
    refine mx_ifneB (tgt := 25) hC dX12_learned_18 (by decide) (fun hc18 => ?_) (fun hc18 => ?_)
    · replace h := mj_yy hc18 h
      refine mx_sub (L' := [(0, vR l0), (1, vI l1), (2, vI l2), (3, vI l3)]) [0, 1, 2, 3] rfl ?_
      exact show mj_X g 25 [(0, vR l0), (1, vI l1), (2, vI l2), (3, vI l3)] [] M17 0 0 from (xb_X12_learned_25 hC hE l0 l1 l2 l3 M17 h)
    · replace h := mj_nn hc18 h
      refine mx_ldc2 (v := (-1000000000000001)) hC dX12_learned_21 tw1513 ?_
      exact mx_lret hC hE rfl dX12_learned_24 h
def rm_X12_doubt : Room := { frames := 2, cells := 0, slots := 0, locals := 51 }
theorem dX12_doubt_0 : decode cX12_doubt 0 = .ok (.iload_n 1, 1) := by decide +kernel
theorem dX12_doubt_1 : decode cX12_doubt 1 = .ok (.i2l, 1) := by decide +kernel
theorem dX12_doubt_2 : decode cX12_doubt 2 = .ok (.lconst 0, 1) := by decide +kernel
theorem dX12_doubt_3 : decode cX12_doubt 3 = .ok (.lconst 1, 1) := by decide +kernel
theorem dX12_doubt_4 : decode cX12_doubt 4 = .ok (.invokestatic 133, 3) := by decide +kernel
theorem dX12_doubt_7 : decode cX12_doubt 7 = .ok (.ifCond .ne 7, 3) := by decide +kernel
theorem dX12_doubt_10 : decode cX12_doubt 10 = .ok (.ldc2_w 228, 3) := by decide +kernel
theorem dX12_doubt_13 : decode cX12_doubt 13 = .ok (.lreturn, 1) := by decide +kernel
theorem dX12_doubt_14 : decode cX12_doubt 14 = .ok (.aload_n 0, 1) := by decide +kernel
theorem dX12_doubt_15 : decode cX12_doubt 15 = .ok (.iconst (-1), 1) := by decide +kernel
theorem dX12_doubt_16 : decode cX12_doubt 16 = .ok (.invokevirtual 368, 3) := by decide +kernel
theorem dX12_doubt_19 : decode cX12_doubt 19 = .ok (.ifCond .ne 7, 3) := by decide +kernel
theorem dX12_doubt_22 : decode cX12_doubt 22 = .ok (.ldc2_w 375, 3) := by decide +kernel
theorem dX12_doubt_25 : decode cX12_doubt 25 = .ok (.lreturn, 1) := by decide +kernel
theorem dX12_doubt_26 : decode cX12_doubt 26 = .ok (.lconst 0, 1) := by decide +kernel
theorem dX12_doubt_27 : decode cX12_doubt 27 = .ok (.lstore_n 2, 1) := by decide +kernel
theorem dX12_doubt_28 : decode cX12_doubt 28 = .ok (.iconst 0, 1) := by decide +kernel
theorem dX12_doubt_29 : decode cX12_doubt 29 = .ok (.istore 4, 2) := by decide +kernel
theorem dX12_doubt_31 : decode cX12_doubt 31 = .ok (.iload 4, 2) := by decide +kernel
theorem dX12_doubt_33 : decode cX12_doubt 33 = .ok (.aload_n 0, 1) := by decide +kernel
theorem dX12_doubt_34 : decode cX12_doubt 34 = .ok (.getfield 351, 3) := by decide +kernel
theorem dX12_doubt_37 : decode cX12_doubt 37 = .ok (.if_icmp .ge 60, 3) := by decide +kernel
theorem dX12_doubt_40 : decode cX12_doubt 40 = .ok (.aload_n 0, 1) := by decide +kernel
theorem dX12_doubt_41 : decode cX12_doubt 41 = .ok (.getfield 104, 3) := by decide +kernel
theorem dX12_doubt_44 : decode cX12_doubt 44 = .ok (.iload 4, 2) := by decide +kernel
theorem dX12_doubt_46 : decode cX12_doubt 46 = .ok (.iaload, 1) := by decide +kernel
theorem dX12_doubt_47 : decode cX12_doubt 47 = .ok (.i2l, 1) := by decide +kernel
theorem dX12_doubt_48 : decode cX12_doubt 48 = .ok (.aload_n 0, 1) := by decide +kernel
theorem dX12_doubt_49 : decode cX12_doubt 49 = .ok (.getfield 354, 3) := by decide +kernel
theorem dX12_doubt_52 : decode cX12_doubt 52 = .ok (.lmul, 1) := by decide +kernel
theorem dX12_doubt_53 : decode cX12_doubt 53 = .ok (.aload_n 0, 1) := by decide +kernel
theorem dX12_doubt_54 : decode cX12_doubt 54 = .ok (.getfield 361, 3) := by decide +kernel
theorem dX12_doubt_57 : decode cX12_doubt 57 = .ok (.lsub, 1) := by decide +kernel
theorem dX12_doubt_58 : decode cX12_doubt 58 = .ok (.aload_n 0, 1) := by decide +kernel
theorem dX12_doubt_59 : decode cX12_doubt 59 = .ok (.getfield 358, 3) := by decide +kernel
theorem dX12_doubt_62 : decode cX12_doubt 62 = .ok (.aload_n 0, 1) := by decide +kernel
theorem dX12_doubt_63 : decode cX12_doubt 63 = .ok (.getfield 101, 3) := by decide +kernel
theorem dX12_doubt_66 : decode cX12_doubt 66 = .ok (.iload 4, 2) := by decide +kernel
theorem dX12_doubt_68 : decode cX12_doubt 68 = .ok (.iaload, 1) := by decide +kernel
theorem dX12_doubt_69 : decode cX12_doubt 69 = .ok (.i2l, 1) := by decide +kernel
theorem dX12_doubt_70 : decode cX12_doubt 70 = .ok (.lmul, 1) := by decide +kernel
theorem dX12_doubt_71 : decode cX12_doubt 71 = .ok (.lsub, 1) := by decide +kernel
theorem dX12_doubt_72 : decode cX12_doubt 72 = .ok (.invokestatic 364, 3) := by decide +kernel
theorem dX12_doubt_75 : decode cX12_doubt 75 = .ok (.lstore 5, 2) := by decide +kernel
theorem dX12_doubt_77 : decode cX12_doubt 77 = .ok (.lload 5, 2) := by decide +kernel
theorem dX12_doubt_79 : decode cX12_doubt 79 = .ok (.lload_n 2, 1) := by decide +kernel
theorem dX12_doubt_80 : decode cX12_doubt 80 = .ok (.lcmp, 1) := by decide +kernel
theorem dX12_doubt_81 : decode cX12_doubt 81 = .ok (.ifCond .le 8, 3) := by decide +kernel
theorem dX12_doubt_84 : decode cX12_doubt 84 = .ok (.lload 5, 2) := by decide +kernel
theorem dX12_doubt_86 : decode cX12_doubt 86 = .ok (.goto 4, 3) := by decide +kernel
theorem dX12_doubt_89 : decode cX12_doubt 89 = .ok (.lload_n 2, 1) := by decide +kernel
theorem dX12_doubt_90 : decode cX12_doubt 90 = .ok (.lstore_n 2, 1) := by decide +kernel
theorem dX12_doubt_91 : decode cX12_doubt 91 = .ok (.iinc 4 1, 3) := by decide +kernel
theorem dX12_doubt_94 : decode cX12_doubt 94 = .ok (.goto (-63), 3) := by decide +kernel
theorem dX12_doubt_97 : decode cX12_doubt 97 = .ok (.lload_n 2, 1) := by decide +kernel
theorem dX12_doubt_98 : decode cX12_doubt 98 = .ok (.aload_n 0, 1) := by decide +kernel
theorem dX12_doubt_99 : decode cX12_doubt 99 = .ok (.getfield 354, 3) := by decide +kernel
theorem dX12_doubt_102 : decode cX12_doubt 102 = .ok (.iload_n 1, 1) := by decide +kernel
theorem dX12_doubt_103 : decode cX12_doubt 103 = .ok (.invokestatic 371, 3) := by decide +kernel
theorem dX12_doubt_106 : decode cX12_doubt 106 = .ok (.lreturn, 1) := by decide +kernel
def vb_X12_doubt_31 (post : Int64 → mj_M → Prop) : Nat → Nat → Int32 → Int64 → Int32 → mj_M → Prop
  | 0 => fun _ _ _ _ _ => False
  | f + 1 => fun l0 l1 l2 l4 M => mj_tag M l0 = 13 ∧ if (mj_i M l0 38) ≤ l4 then (vc_X12_lowest l2 (mj_l M l0 41) l1 M (fun r3 M4 => post r3 M4)) else (mj_tag M (mj_r M l0 37) = 101 ∧ vp_in l4 (mj_len M (mj_r M l0 37)) ∧ mj_tag M (mj_r M l0 36) = 101 ∧ vp_in l4 (mj_len M (mj_r M l0 36)) ∧ vc_X12_size (((((mj_i M (mj_r M l0 37) (l4 : Int32).toNatClampNeg : Int32).toInt64) * (mj_l M l0 41)) - (mj_l M l0 39)) - ((mj_l M l0 40) * ((mj_i M (mj_r M l0 36) (l4 : Int32).toNatClampNeg : Int32).toInt64))) M (fun r9 M10 => if (lg_cmp r9 l2) ≤ 0 then (vb_X12_doubt_31 post f l0 l1 l2 (l4 + 1) M10) else (vb_X12_doubt_31 post f l0 l1 r9 (l4 + 1) M10)))
def vc_X12_doubt (l0 : Nat) (l1 : Int32) (M : mj_M) (post : Int64 → mj_M → Prop) : Prop := vc_X12_in ((l1 : Int32).toInt64) 0 1 M (fun r12 M13 => if r12 = true then (mj_tag M13 l0 = 13 ∧ vc_X12_findLine l0 ((-1)) M13 (fun r16 M17 => if r16 = true then (∃ fe, vb_X12_doubt_31 post fe l0 l1 0 0 M17) else (post ((-1000000000000003)) M17))) else (post ((-1000000000000002)) M13))
set_option maxHeartbeats 4000000 in
set_option maxRecDepth 100000 in
theorem xb_X12_doubt_31 {g : mj_G} {post : Int64 → mj_M → Prop} (hC : mj_C g yX12_doubt cX12_doubt 7 (some .long) rm_X12_doubt) (hE : mj_E g mj_jL post 0 0) : ∀ (f : Nat) (l0 : Nat) (l1 : Int32) (l2 : Int64) (l4 : Int32) (M : mj_M), vb_X12_doubt_31 post f l0 l1 l2 l4 M → mj_X g 31 [(0, vR l0), (1, vI l1), (2, vL l2), (4, vI l4)] [] M 0 0 := by
  intro f
  induction f with
  | zero => exact fun _ _ _ _ _ h => absurd h (fun z => z)
  | succ f ih =>
    intro l0 l1 l2 l4 M h
    simp only [vb_X12_doubt_31] at h
    refine mx_iload (j := 3) hC dX12_doubt_31 rfl ?_
    refine mx_aload_n (j := 0) hC dX12_doubt_33 rfl rfl ?_
    obtain ⟨ht1, h⟩ := h
    refine mx_get (v := vI (mj_i M l0 38)) hC tf_X12_351 ht1 rfl dX12_doubt_34 ?_
    refine mx_icmpge (tgt := 97) hC dX12_doubt_37 (by decide) (fun hc2 => ?_) (fun hc2 => ?_)
    · replace h := mj_yy hc2 h
      refine mx_lload_n (j := 2) hC dX12_doubt_97 rfl rfl ?_
      refine mx_aload_n (j := 0) hC dX12_doubt_98 rfl rfl ?_
      refine mx_get (v := vL (mj_l M l0 41)) hC tf_X12_354 ht1 rfl dX12_doubt_99 ?_
      refine mx_iload_n (j := 1) hC dX12_doubt_102 rfl rfl ?_
      refine mx_callS (inj := mj_jL) (As := [vL l2, vL (mj_l M l0 41), vI l1]) (st := []) hC (ct_X12_lowest l2 (mj_l M l0 41) l1 M _ h) ty_X12_lowest tw1728 rfl (Nat.le_of_ble_eq_true rfl) ⟨rfl, rfl, ⟨by decide, by decide⟩, by decide, by decide⟩ dX12_doubt_103 (fun r3 M4 h => ?_)
      show mj_X g 106 [(0, vR l0), (1, vI l1), (2, vL l2), (4, vI l4)] [vL r3] M4 0 0
      exact mx_lret hC hE rfl dX12_doubt_106 h
    · replace h := mj_nn hc2 h
      refine mx_aload_n (j := 0) hC dX12_doubt_40 rfl rfl ?_
      refine mx_get (v := vR (mj_r M l0 37)) hC tf_X12_104 ht1 rfl dX12_doubt_41 ?_
      refine mx_iload (j := 3) hC dX12_doubt_44 rfl ?_
      obtain ⟨ht5, h⟩ := h
      obtain ⟨hi6, h⟩ := h
      refine mx_iaload hC ht5 hi6 dX12_doubt_46 ?_
      refine mx_i2l hC dX12_doubt_47 ?_
      refine mx_aload_n (j := 0) hC dX12_doubt_48 rfl rfl ?_
      refine mx_get (v := vL (mj_l M l0 41)) hC tf_X12_354 ht1 rfl dX12_doubt_49 ?_
      refine mx_lmul hC dX12_doubt_52 ?_
      refine mx_aload_n (j := 0) hC dX12_doubt_53 rfl rfl ?_
      refine mx_get (v := vL (mj_l M l0 39)) hC tf_X12_361 ht1 rfl dX12_doubt_54 ?_
      refine mx_lsub hC dX12_doubt_57 ?_
      refine mx_aload_n (j := 0) hC dX12_doubt_58 rfl rfl ?_
      refine mx_get (v := vL (mj_l M l0 40)) hC tf_X12_358 ht1 rfl dX12_doubt_59 ?_
      refine mx_aload_n (j := 0) hC dX12_doubt_62 rfl rfl ?_
      refine mx_get (v := vR (mj_r M l0 36)) hC tf_X12_101 ht1 rfl dX12_doubt_63 ?_
      refine mx_iload (j := 3) hC dX12_doubt_66 rfl ?_
      obtain ⟨ht7, h⟩ := h
      obtain ⟨hi8, h⟩ := h
      refine mx_iaload hC ht7 hi8 dX12_doubt_68 ?_
      refine mx_i2l hC dX12_doubt_69 ?_
      refine mx_lmul hC dX12_doubt_70 ?_
      refine mx_lsub hC dX12_doubt_71 ?_
      refine mx_callS (inj := mj_jL) (As := [vL (((((mj_i M (mj_r M l0 37) (l4 : Int32).toNatClampNeg : Int32).toInt64) * (mj_l M l0 41)) - (mj_l M l0 39)) - ((mj_l M l0 40) * ((mj_i M (mj_r M l0 36) (l4 : Int32).toNatClampNeg : Int32).toInt64)))]) (st := []) hC (ct_X12_size (((((mj_i M (mj_r M l0 37) (l4 : Int32).toNatClampNeg : Int32).toInt64) * (mj_l M l0 41)) - (mj_l M l0 39)) - ((mj_l M l0 40) * ((mj_i M (mj_r M l0 36) (l4 : Int32).toNatClampNeg : Int32).toInt64))) M _ h) ty_X12_size tw1731 rfl (Nat.le_of_ble_eq_true rfl) ⟨rfl, rfl, ⟨by decide, by decide⟩, by decide, by decide⟩ dX12_doubt_72 (fun r9 M10 h => ?_)
      show mj_X g 75 [(0, vR l0), (1, vI l1), (2, vL l2), (4, vI l4)] [vL r9] M10 0 0
      refine mx_lstore (L' := [(5, vL r9), (0, vR l0), (1, vI l1), (2, vL l2), (4, vI l4)]) hC dX12_doubt_75 (by decide) rfl ?_
      refine mx_lload (j := 0) hC dX12_doubt_77 rfl ?_
      refine mx_lload_n (j := 3) hC dX12_doubt_79 rfl rfl ?_
      refine mx_lcmp hC dX12_doubt_80 ?_
      refine mx_ifle (tgt := 89) hC dX12_doubt_81 (by decide) (fun hc11 => ?_) (fun hc11 => ?_)
      · replace h := mj_yy hc11 h
        refine mx_lload_n (j := 3) hC dX12_doubt_89 rfl rfl ?_
        refine mx_lstore_n (L' := [(2, vL l2), (5, vL r9), (0, vR l0), (1, vI l1), (4, vI l4)]) hC dX12_doubt_90 rfl (by decide) rfl ?_
        refine mx_iinc (j := 4) (v := l4 + 1) (L' := [(4, vI (l4 + 1)), (2, vL l2), (5, vL r9), (0, vR l0), (1, vI l1)]) hC dX12_doubt_91 rfl rfl (by decide) rfl ?_
        refine mx_goto (tgt := 31) hC dX12_doubt_94 (by decide) ?_
        refine mx_sub (L' := [(0, vR l0), (1, vI l1), (2, vL l2), (4, vI (l4 + 1))]) [3, 4, 1, 0] rfl ?_
        exact show mj_X g 31 [(0, vR l0), (1, vI l1), (2, vL l2), (4, vI (l4 + 1))] [] M10 0 0 from (ih l0 l1 l2 (l4 + 1) M10 h)
      · replace h := mj_nn hc11 h
        refine mx_lload (j := 0) hC dX12_doubt_84 rfl ?_
        refine mx_goto (tgt := 90) hC dX12_doubt_86 (by decide) ?_
        refine mx_lstore_n (L' := [(2, vL r9), (5, vL r9), (0, vR l0), (1, vI l1), (4, vI l4)]) hC dX12_doubt_90 rfl (by decide) rfl ?_
        refine mx_iinc (j := 4) (v := l4 + 1) (L' := [(4, vI (l4 + 1)), (2, vL r9), (5, vL r9), (0, vR l0), (1, vI l1)]) hC dX12_doubt_91 rfl rfl (by decide) rfl ?_
        refine mx_goto (tgt := 31) hC dX12_doubt_94 (by decide) ?_
        refine mx_sub (L' := [(0, vR l0), (1, vI l1), (2, vL r9), (4, vI (l4 + 1))]) [3, 4, 1, 0] rfl ?_
        exact show mj_X g 31 [(0, vR l0), (1, vI l1), (2, vL r9), (4, vI (l4 + 1))] [] M10 0 0 from (ih l0 l1 r9 (l4 + 1) M10 h)
set_option maxHeartbeats 4000000 in
set_option maxRecDepth 100000 in
theorem ct_X12_doubt {l : Launch} {base : Nat} {D : va_G} {A : ClassId × ClassId × ClassId} (l0 : Nat) (l1 : Int32) (M : mj_M) (post : Int64 → mj_M → Prop) (h : vc_X12_doubt l0 l1 M post) : mj_Met l base D A mj_jL yX12_doubt cX12_doubt 7 (some .long) rm_X12_doubt 0 0 [vR l0, vI l1] M post := by
  refine mj_entry (by decide +kernel) (Nat.le_of_ble_eq_true rfl) (fun g hC hE h1 h2 h3 h4 => ?_)
  show mj_X g 0 [(0, vR l0), (1, vI l1)] [] M 0 0
  simp only [vc_X12_doubt] at h
  refine mx_iload_n (j := 1) hC dX12_doubt_0 rfl rfl ?_
  refine mx_i2l hC dX12_doubt_1 ?_
  refine mx_lconst (v := 0) hC dX12_doubt_2 (by decide) ?_
  refine mx_lconst (v := 1) hC dX12_doubt_3 (by decide) ?_
  refine mx_callS (inj := mj_jB) (As := [vL ((l1 : Int32).toInt64), vL 0, vL 1]) (st := []) hC (ct_X12_in ((l1 : Int32).toInt64) 0 1 M _ h) ty_X12_in tw1379 rfl (Nat.le_of_ble_eq_true rfl) ⟨rfl, rfl, ⟨by decide, by decide⟩, by decide, by decide⟩ dX12_doubt_4 (fun r12 M13 h => ?_)
  show mj_X g 7 [(0, vR l0), (1, vI l1)] [vI (mj_b r12)] M13 0 0
  refine mx_ifneB (tgt := 14) hC dX12_doubt_7 (by decide) (fun hc14 => ?_) (fun hc14 => ?_)
  · replace h := mj_yy hc14 h
    refine mx_aload_n (j := 0) hC dX12_doubt_14 rfl rfl ?_
    refine mx_iconst (v := (-1)) hC dX12_doubt_15 (by decide) ?_
    obtain ⟨ht15, h⟩ := h
    refine mx_callV (inj := mj_jB) (As := [vI ((-1))]) (st := []) hC (ct_X12_findLine l0 ((-1)) M13 _ h) ty_X12_findLine tw1724 ht15 rfl (Nat.le_of_ble_eq_true rfl) ⟨rfl, rfl, ⟨by decide, by decide⟩, by decide, by decide⟩ dX12_doubt_16 (fun r16 M17 h => ?_)
    show mj_X g 19 [(0, vR l0), (1, vI l1)] [vI (mj_b r16)] M17 0 0
    refine mx_ifneB (tgt := 26) hC dX12_doubt_19 (by decide) (fun hc18 => ?_) (fun hc18 => ?_)
    · replace h := mj_yy hc18 h
      refine mx_lconst (v := 0) hC dX12_doubt_26 (by decide) ?_
      refine mx_lstore_n (L' := [(2, vL 0), (0, vR l0), (1, vI l1)]) hC dX12_doubt_27 rfl (by decide) rfl ?_
      refine mx_iconst (v := 0) hC dX12_doubt_28 (by decide) ?_
      refine mx_istore (L' := [(4, vI 0), (2, vL 0), (0, vR l0), (1, vI l1)]) hC dX12_doubt_29 (by decide) rfl ?_
      refine mx_sub (L' := [(0, vR l0), (1, vI l1), (2, vL 0), (4, vI 0)]) [2, 3, 1, 0] rfl ?_
      obtain ⟨fe, h⟩ := h
      exact show mj_X g 31 [(0, vR l0), (1, vI l1), (2, vL 0), (4, vI 0)] [] M17 0 0 from (xb_X12_doubt_31 hC hE fe l0 l1 0 0 M17 h)
    · replace h := mj_nn hc18 h
      refine mx_ldc2 (v := (-1000000000000003)) hC dX12_doubt_22 tw1734 ?_
      exact mx_lret hC hE rfl dX12_doubt_25 h
  · replace h := mj_nn hc14 h
    refine mx_ldc2 (v := (-1000000000000002)) hC dX12_doubt_10 tw1514 ?_
    exact mx_lret hC hE rfl dX12_doubt_13 h
theorem tw1743 : (Jvm.Cond.constantLong "LeaseLandModel" (377 : Nat) (500 : Int64)) ∈ mj_tbl := mj_w 1796 (by decide +kernel) (by decide +kernel)
def rm_X12_set : Room := { frames := 1, cells := 0, slots := 0, locals := 25 }
theorem dX12_set_0 : decode cX12_set 0 = .ok (.iload_n 1, 1) := by decide +kernel
theorem dX12_set_1 : decode cX12_set 1 = .ok (.i2l, 1) := by decide +kernel
theorem dX12_set_2 : decode cX12_set 2 = .ok (.lconst 0, 1) := by decide +kernel
theorem dX12_set_3 : decode cX12_set 3 = .ok (.lconst 1, 1) := by decide +kernel
theorem dX12_set_4 : decode cX12_set 4 = .ok (.invokestatic 133, 3) := by decide +kernel
theorem dX12_set_7 : decode cX12_set 7 = .ok (.ifCond .eq 25, 3) := by decide +kernel
theorem dX12_set_10 : decode cX12_set 10 = .ok (.iload_n 2, 1) := by decide +kernel
theorem dX12_set_11 : decode cX12_set 11 = .ok (.i2l, 1) := by decide +kernel
theorem dX12_set_12 : decode cX12_set 12 = .ok (.lconst 0, 1) := by decide +kernel
theorem dX12_set_13 : decode cX12_set 13 = .ok (.iload_n 1, 1) := by decide +kernel
theorem dX12_set_14 : decode cX12_set 14 = .ok (.ifCond .ne 9, 3) := by decide +kernel
theorem dX12_set_17 : decode cX12_set 17 = .ok (.ldc2_w 377, 3) := by decide +kernel
theorem dX12_set_20 : decode cX12_set 20 = .ok (.goto 6, 3) := by decide +kernel
theorem dX12_set_23 : decode cX12_set 23 = .ok (.ldc2_w 218, 3) := by decide +kernel
theorem dX12_set_26 : decode cX12_set 26 = .ok (.invokestatic 133, 3) := by decide +kernel
theorem dX12_set_29 : decode cX12_set 29 = .ok (.ifCond .ne 6, 3) := by decide +kernel
theorem dX12_set_32 : decode cX12_set 32 = .ok (.bipush (-2), 2) := by decide +kernel
theorem dX12_set_34 : decode cX12_set 34 = .ok (.ireturn, 1) := by decide +kernel
theorem dX12_set_35 : decode cX12_set 35 = .ok (.iload_n 1, 1) := by decide +kernel
theorem dX12_set_36 : decode cX12_set 36 = .ok (.ifCond .ne 10, 3) := by decide +kernel
theorem dX12_set_39 : decode cX12_set 39 = .ok (.aload_n 0, 1) := by decide +kernel
theorem dX12_set_40 : decode cX12_set 40 = .ok (.getfield 107, 3) := by decide +kernel
theorem dX12_set_43 : decode cX12_set 43 = .ok (.goto 7, 3) := by decide +kernel
theorem dX12_set_46 : decode cX12_set 46 = .ok (.aload_n 0, 1) := by decide +kernel
theorem dX12_set_47 : decode cX12_set 47 = .ok (.getfield 111, 3) := by decide +kernel
theorem dX12_set_50 : decode cX12_set 50 = .ok (.istore_n 3, 1) := by decide +kernel
theorem dX12_set_51 : decode cX12_set 51 = .ok (.iload_n 1, 1) := by decide +kernel
theorem dX12_set_52 : decode cX12_set 52 = .ok (.ifCond .ne 11, 3) := by decide +kernel
theorem dX12_set_55 : decode cX12_set 55 = .ok (.aload_n 0, 1) := by decide +kernel
theorem dX12_set_56 : decode cX12_set 56 = .ok (.iload_n 2, 1) := by decide +kernel
theorem dX12_set_57 : decode cX12_set 57 = .ok (.putfield 107, 3) := by decide +kernel
theorem dX12_set_60 : decode cX12_set 60 = .ok (.goto 8, 3) := by decide +kernel
theorem dX12_set_63 : decode cX12_set 63 = .ok (.aload_n 0, 1) := by decide +kernel
theorem dX12_set_64 : decode cX12_set 64 = .ok (.iload_n 2, 1) := by decide +kernel
theorem dX12_set_65 : decode cX12_set 65 = .ok (.putfield 111, 3) := by decide +kernel
theorem dX12_set_68 : decode cX12_set 68 = .ok (.iload_n 3, 1) := by decide +kernel
theorem dX12_set_69 : decode cX12_set 69 = .ok (.ireturn, 1) := by decide +kernel
def vb_X12_set_50 (post : Int32 → mj_M → Prop) (l0 : Nat) (l1 : Int32) (l2 : Int32) (s0 : Int32) (M : mj_M) : Prop := if l1 = 0 then (mj_tag M l0 = 13 ∧ post s0 (mj_wi M l0 42 l2)) else (mj_tag M l0 = 13 ∧ post s0 (mj_wi M l0 43 l2))
def vb_X12_set_26 (post : Int32 → mj_M → Prop) (l0 : Nat) (l1 : Int32) (l2 : Int32) (s0 : Int64) (s1 : Int64) (s2 : Int64) (M : mj_M) : Prop := vc_X12_in s0 s1 s2 M (fun r4 M5 => if r4 = true then (if l1 = 0 then (mj_tag M5 l0 = 13 ∧ vb_X12_set_50 post l0 l1 l2 (mj_i M5 l0 42) M5) else (mj_tag M5 l0 = 13 ∧ vb_X12_set_50 post l0 l1 l2 (mj_i M5 l0 43) M5)) else (post ((-2)) M5))
def vc_X12_set (l0 : Nat) (l1 : Int32) (l2 : Int32) (M : mj_M) (post : Int32 → mj_M → Prop) : Prop := vc_X12_in ((l1 : Int32).toInt64) 0 1 M (fun r10 M11 => if r10 = true then (if l1 = 0 then (vb_X12_set_26 post l0 l1 l2 ((l2 : Int32).toInt64) 0 500 M11) else (vb_X12_set_26 post l0 l1 l2 ((l2 : Int32).toInt64) 0 100 M11)) else (post ((-2)) M11))
set_option maxHeartbeats 4000000 in
set_option maxRecDepth 100000 in
theorem xb_X12_set_50 {g : mj_G} {post : Int32 → mj_M → Prop} (hC : mj_C g yX12_set cX12_set 4 (some .int) rm_X12_set) (hE : mj_E g mj_jI post 0 0) (l0 : Nat) (l1 : Int32) (l2 : Int32) (s0 : Int32) (M : mj_M) (h : vb_X12_set_50 post l0 l1 l2 s0 M) : mj_X g 50 [(0, vR l0), (1, vI l1), (2, vI l2)] [vI s0] M 0 0 := by
  simp only [vb_X12_set_50] at h
  refine mx_istore_n (L' := [(3, vI s0), (0, vR l0), (1, vI l1), (2, vI l2)]) hC dX12_set_50 rfl (by decide) rfl ?_
  refine mx_iload_n (j := 2) hC dX12_set_51 rfl rfl ?_
  refine mx_ifne (tgt := 63) hC dX12_set_52 (by decide) (fun hc1 => ?_) (fun hc1 => ?_)
  · replace h := mj_nn hc1 h
    refine mx_aload_n (j := 1) hC dX12_set_63 rfl rfl ?_
    refine mx_iload_n (j := 3) hC dX12_set_64 rfl rfl ?_
    obtain ⟨ht2, h⟩ := h
    refine mx_put (v := vI l2) (M1 := mj_wi M l0 43 l2) hC tf_X12_111 ht2 (Or.inl rfl) ⟨rfl, rfl⟩ (mj_off_wi _ _ _ _) mj_put_wi dX12_set_65 ?_
    refine mx_iload_n (j := 0) hC dX12_set_68 rfl rfl ?_
    exact mx_iret hC hE rfl dX12_set_69 h
  · replace h := mj_yy hc1 h
    refine mx_aload_n (j := 1) hC dX12_set_55 rfl rfl ?_
    refine mx_iload_n (j := 3) hC dX12_set_56 rfl rfl ?_
    obtain ⟨ht3, h⟩ := h
    refine mx_put (v := vI l2) (M1 := mj_wi M l0 42 l2) hC tf_X12_107 ht3 (Or.inl rfl) ⟨rfl, rfl⟩ (mj_off_wi _ _ _ _) mj_put_wi dX12_set_57 ?_
    refine mx_goto (tgt := 68) hC dX12_set_60 (by decide) ?_
    refine mx_iload_n (j := 0) hC dX12_set_68 rfl rfl ?_
    exact mx_iret hC hE rfl dX12_set_69 h
set_option maxHeartbeats 4000000 in
set_option maxRecDepth 100000 in
theorem xb_X12_set_26 {g : mj_G} {post : Int32 → mj_M → Prop} (hC : mj_C g yX12_set cX12_set 4 (some .int) rm_X12_set) (hE : mj_E g mj_jI post 0 0) (l0 : Nat) (l1 : Int32) (l2 : Int32) (s0 : Int64) (s1 : Int64) (s2 : Int64) (M : mj_M) (h : vb_X12_set_26 post l0 l1 l2 s0 s1 s2 M) : mj_X g 26 [(0, vR l0), (1, vI l1), (2, vI l2)] [vL s2, vL s1, vL s0] M 0 0 := by
  simp only [vb_X12_set_26] at h
  refine mx_callS (inj := mj_jB) (As := [vL s0, vL s1, vL s2]) (st := []) hC (ct_X12_in s0 s1 s2 M _ h) ty_X12_in tw1379 rfl (Nat.le_of_ble_eq_true rfl) ⟨rfl, rfl, ⟨by decide, by decide⟩, by decide, by decide⟩ dX12_set_26 (fun r4 M5 h => ?_)
  show mj_X g 29 [(0, vR l0), (1, vI l1), (2, vI l2)] [vI (mj_b r4)] M5 0 0
  refine mx_ifneB (tgt := 35) hC dX12_set_29 (by decide) (fun hc6 => ?_) (fun hc6 => ?_)
  · replace h := mj_yy hc6 h
    refine mx_iload_n (j := 1) hC dX12_set_35 rfl rfl ?_
    refine mx_ifne (tgt := 46) hC dX12_set_36 (by decide) (fun hc7 => ?_) (fun hc7 => ?_)
    · replace h := mj_nn hc7 h
      refine mx_aload_n (j := 0) hC dX12_set_46 rfl rfl ?_
      obtain ⟨ht8, h⟩ := h
      refine mx_get (v := vI (mj_i M5 l0 43)) hC tf_X12_111 ht8 rfl dX12_set_47 ?_
      refine mx_sub (L' := [(0, vR l0), (1, vI l1), (2, vI l2)]) [0, 1, 2] rfl ?_
      exact show mj_X g 50 [(0, vR l0), (1, vI l1), (2, vI l2)] [vI (mj_i M5 l0 43)] M5 0 0 from (xb_X12_set_50 hC hE l0 l1 l2 (mj_i M5 l0 43) M5 h)
    · replace h := mj_yy hc7 h
      refine mx_aload_n (j := 0) hC dX12_set_39 rfl rfl ?_
      obtain ⟨ht9, h⟩ := h
      refine mx_get (v := vI (mj_i M5 l0 42)) hC tf_X12_107 ht9 rfl dX12_set_40 ?_
      refine mx_goto (tgt := 50) hC dX12_set_43 (by decide) ?_
      refine mx_sub (L' := [(0, vR l0), (1, vI l1), (2, vI l2)]) [0, 1, 2] rfl ?_
      exact show mj_X g 50 [(0, vR l0), (1, vI l1), (2, vI l2)] [vI (mj_i M5 l0 42)] M5 0 0 from (xb_X12_set_50 hC hE l0 l1 l2 (mj_i M5 l0 42) M5 h)
  · replace h := mj_nn hc6 h
    refine mx_bipush (v := (-2)) hC dX12_set_32 (by decide) ?_
    exact mx_iret hC hE rfl dX12_set_34 h
set_option maxHeartbeats 4000000 in
set_option maxRecDepth 100000 in
theorem ct_X12_set {l : Launch} {base : Nat} {D : va_G} {A : ClassId × ClassId × ClassId} (l0 : Nat) (l1 : Int32) (l2 : Int32) (M : mj_M) (post : Int32 → mj_M → Prop) (h : vc_X12_set l0 l1 l2 M post) : mj_Met l base D A mj_jI yX12_set cX12_set 4 (some .int) rm_X12_set 0 0 [vR l0, vI l1, vI l2] M post := by
  refine mj_entry (by decide +kernel) (Nat.le_of_ble_eq_true rfl) (fun g hC hE h1 h2 h3 h4 => ?_)
  show mj_X g 0 [(0, vR l0), (1, vI l1), (2, vI l2)] [] M 0 0
  simp only [vc_X12_set] at h
  refine mx_iload_n (j := 1) hC dX12_set_0 rfl rfl ?_
  refine mx_i2l hC dX12_set_1 ?_
  refine mx_lconst (v := 0) hC dX12_set_2 (by decide) ?_
  refine mx_lconst (v := 1) hC dX12_set_3 (by decide) ?_
  refine mx_callS (inj := mj_jB) (As := [vL ((l1 : Int32).toInt64), vL 0, vL 1]) (st := []) hC (ct_X12_in ((l1 : Int32).toInt64) 0 1 M _ h) ty_X12_in tw1379 rfl (Nat.le_of_ble_eq_true rfl) ⟨rfl, rfl, ⟨by decide, by decide⟩, by decide, by decide⟩ dX12_set_4 (fun r10 M11 h => ?_)
  show mj_X g 7 [(0, vR l0), (1, vI l1), (2, vI l2)] [vI (mj_b r10)] M11 0 0
  refine mx_ifeqB (tgt := 32) hC dX12_set_7 (by decide) (fun hc12 => ?_) (fun hc12 => ?_)
  · replace h := mj_nn hc12 h
    refine mx_bipush (v := (-2)) hC dX12_set_32 (by decide) ?_
    exact mx_iret hC hE rfl dX12_set_34 h
  · replace h := mj_yy hc12 h
    refine mx_iload_n (j := 2) hC dX12_set_10 rfl rfl ?_
    refine mx_i2l hC dX12_set_11 ?_
    refine mx_lconst (v := 0) hC dX12_set_12 (by decide) ?_
    refine mx_iload_n (j := 1) hC dX12_set_13 rfl rfl ?_
    refine mx_ifne (tgt := 23) hC dX12_set_14 (by decide) (fun hc13 => ?_) (fun hc13 => ?_)
    · replace h := mj_nn hc13 h
      refine mx_ldc2 (v := 100) hC dX12_set_23 tw1497 ?_
      refine mx_sub (L' := [(0, vR l0), (1, vI l1), (2, vI l2)]) [0, 1, 2] rfl ?_
      exact show mj_X g 26 [(0, vR l0), (1, vI l1), (2, vI l2)] [vL 100, vL 0, vL ((l2 : Int32).toInt64)] M11 0 0 from (xb_X12_set_26 hC hE l0 l1 l2 ((l2 : Int32).toInt64) 0 100 M11 h)
    · replace h := mj_yy hc13 h
      refine mx_ldc2 (v := 500) hC dX12_set_17 tw1743 ?_
      refine mx_goto (tgt := 26) hC dX12_set_20 (by decide) ?_
      refine mx_sub (L' := [(0, vR l0), (1, vI l1), (2, vI l2)]) [0, 1, 2] rfl ?_
      exact show mj_X g 26 [(0, vR l0), (1, vI l1), (2, vI l2)] [vL 500, vL 0, vL ((l2 : Int32).toInt64)] M11 0 0 from (xb_X12_set_26 hC hE l0 l1 l2 ((l2 : Int32).toInt64) 0 500 M11 h)

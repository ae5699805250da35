/-! methods 12. By program (wip/gen) out of the bytecode: vc_KEY: what must hold of a call; ct_KEY: then the machine does it. -/
theorem tw1423 : (Jvm.Cond.methodLink "LeaseLandModel" (172 : Nat) ({ cls := "LeaseLandModel", name := "doLap", desc := "(IIII)Z" } : Jvm.MethodName)) ∈ mj_tbl := mj_w 1476 (by decide +kernel) (by decide +kernel)
theorem tw1425 : (Jvm.Cond.code ({ cls := "LeaseLandModel", name := "doLap", desc := "(IIII)Z" } : Jvm.MethodName) prog_14_method_17_code (4 : Nat) (Option.some Jvm.ClassFile.FieldType.boolean)) ∈ mj_tbl := mj_w 1478 (by decide +kernel) (by decide +kernel)
theorem tw1424 : (Jvm.Cond.static ({ cls := "LeaseLandModel", name := "doLap", desc := "(IIII)Z" } : Jvm.MethodName)) ∈ mj_tbl := mj_w 1477 (by decide +kernel) (by decide +kernel)
theorem ty_X12_doLap : mj_YS yX12_doLap cX12_doLap 4 (some .boolean) 4 := ⟨⟨tw1425, tw11, by decide +kernel, by decide +kernel, by decide +kernel⟩, tw1424⟩
def rm_X12_isInWay : Room := { frames := 2, cells := 0, slots := 0, locals := 44 }
theorem dX12_isInWay_0 : decode cX12_isInWay 0 = .ok (.aload_n 0, 1) := by decide +kernel
theorem dX12_isInWay_1 : decode cX12_isInWay 1 = .ok (.getfield 7, 3) := by decide +kernel
theorem dX12_isInWay_4 : decode cX12_isInWay 4 = .ok (.iload_n 1, 1) := by decide +kernel
theorem dX12_isInWay_5 : decode cX12_isInWay 5 = .ok (.iaload, 1) := by decide +kernel
theorem dX12_isInWay_6 : decode cX12_isInWay 6 = .ok (.iload_n 2, 1) := by decide +kernel
theorem dX12_isInWay_7 : decode cX12_isInWay 7 = .ok (.if_icmp .ne 39, 3) := by decide +kernel
theorem dX12_isInWay_10 : decode cX12_isInWay 10 = .ok (.aload_n 0, 1) := by decide +kernel
theorem dX12_isInWay_11 : decode cX12_isInWay 11 = .ok (.getfield 13, 3) := by decide +kernel
theorem dX12_isInWay_14 : decode cX12_isInWay 14 = .ok (.iload_n 1, 1) := by decide +kernel
theorem dX12_isInWay_15 : decode cX12_isInWay 15 = .ok (.iaload, 1) := by decide +kernel
theorem dX12_isInWay_16 : decode cX12_isInWay 16 = .ok (.iload_n 3, 1) := by decide +kernel
theorem dX12_isInWay_17 : decode cX12_isInWay 17 = .ok (.iand, 1) := by decide +kernel
theorem dX12_isInWay_18 : decode cX12_isInWay 18 = .ok (.ifCond .eq 28, 3) := by decide +kernel
theorem dX12_isInWay_21 : decode cX12_isInWay 21 = .ok (.iload 4, 2) := by decide +kernel
theorem dX12_isInWay_23 : decode cX12_isInWay 23 = .ok (.iload 5, 2) := by decide +kernel
theorem dX12_isInWay_25 : decode cX12_isInWay 25 = .ok (.aload_n 0, 1) := by decide +kernel
theorem dX12_isInWay_26 : decode cX12_isInWay 26 = .ok (.getfield 16, 3) := by decide +kernel
theorem dX12_isInWay_29 : decode cX12_isInWay 29 = .ok (.iload_n 1, 1) := by decide +kernel
theorem dX12_isInWay_30 : decode cX12_isInWay 30 = .ok (.iaload, 1) := by decide +kernel
theorem dX12_isInWay_31 : decode cX12_isInWay 31 = .ok (.aload_n 0, 1) := by decide +kernel
theorem dX12_isInWay_32 : decode cX12_isInWay 32 = .ok (.iload_n 1, 1) := by decide +kernel
theorem dX12_isInWay_33 : decode cX12_isInWay 33 = .ok (.invokevirtual 147, 3) := by decide +kernel
theorem dX12_isInWay_36 : decode cX12_isInWay 36 = .ok (.invokestatic 172, 3) := by decide +kernel
theorem dX12_isInWay_39 : decode cX12_isInWay 39 = .ok (.ifCond .eq 7, 3) := by decide +kernel
theorem dX12_isInWay_42 : decode cX12_isInWay 42 = .ok (.iconst 1, 1) := by decide +kernel
theorem dX12_isInWay_43 : decode cX12_isInWay 43 = .ok (.goto 4, 3) := by decide +kernel
theorem dX12_isInWay_46 : decode cX12_isInWay 46 = .ok (.iconst 0, 1) := by decide +kernel
theorem dX12_isInWay_47 : decode cX12_isInWay 47 = .ok (.ireturn, 1) := by decide +kernel
def vc_X12_isInWay (l0 : Nat) (l1 : Int32) (l2 : Int32) (l3 : Int32) (l4 : Int32) (l5 : Int32) (M : mj_M) (post : Bool → mj_M → Prop) : Prop := mj_tag M l0 = 13 ∧ mj_tag M (mj_r M l0 1) = 101 ∧ vp_in l1 (mj_len M (mj_r M l0 1)) ∧ if (mj_i M (mj_r M l0 1) (l1 : Int32).toNatClampNeg) = l2 then (mj_tag M (mj_r M l0 2) = 101 ∧ vp_in l1 (mj_len M (mj_r M l0 2)) ∧ if ((mj_i M (mj_r M l0 2) (l1 : Int32).toNatClampNeg) &&& l3) = 0 then (post false M) else (mj_tag M (mj_r M l0 3) = 101 ∧ vp_in l1 (mj_len M (mj_r M l0 3)) ∧ vc_X12_until l0 l1 M (fun r10 M11 => vc_X12_doLap l4 l5 (mj_i M (mj_r M l0 3) (l1 : Int32).toNatClampNeg) r10 M11 (fun r12 M13 => if r12 = true then (post true M13) else (post false M13))))) else (post false M)
set_option maxHeartbeats 4000000 in
set_option maxRecDepth 100000 in
theorem ct_X12_isInWay {l : Launch} {base : Nat} {D : va_G} {A : ClassId × ClassId × ClassId} (l0 : Nat) (l1 : Int32) (l2 : Int32) (l3 : Int32) (l4 : Int32) (l5 : Int32) (M : mj_M) (post : Bool → mj_M → Prop) (h : vc_X12_isInWay l0 l1 l2 l3 l4 l5 M post) : mj_Met l base D A mj_jB yX12_isInWay cX12_isInWay 6 (some .boolean) rm_X12_isInWay 0 0 [vR l0, vI l1, vI l2, vI l3, vI l4, vI l5] M post := by
  refine mj_entry (by decide +kernel) (Nat.le_of_ble_eq_true rfl) (fun g hC hE h1 h2 h3 h4 => ?_)
  show mj_X g 0 [(0, vR l0), (1, vI l1), (2, vI l2), (3, vI l3), (4, vI l4), (5, vI l5)] [] M 0 0
  simp only [vc_X12_isInWay] at h
  refine mx_aload_n (j := 0) hC dX12_isInWay_0 rfl rfl ?_
  obtain ⟨ht1, h⟩ := h
  refine mx_get (v := vR (mj_r M l0 1)) hC tf_X12_7 ht1 rfl dX12_isInWay_1 ?_
  refine mx_iload_n (j := 1) hC dX12_isInWay_4 rfl rfl ?_
  obtain ⟨ht2, h⟩ := h
  obtain ⟨hi3, h⟩ := h
  refine mx_iaload hC ht2 hi3 dX12_isInWay_5 ?_
  refine mx_iload_n (j := 2) hC dX12_isInWay_6 rfl rfl ?_
  refine mx_icmpne (tgt := 46) hC dX12_isInWay_7 (by decide) (fun hc4 => ?_) (fun hc4 => ?_)
  · replace h := mj_nn hc4 h
    refine mx_iconst (v := 0) hC dX12_isInWay_46 (by decide) ?_
    exact mx_zret (b := false) hC hE rfl dX12_isInWay_47 h
  · replace h := mj_yy hc4 h
    refine mx_aload_n (j := 0) hC dX12_isInWay_10 rfl rfl ?_
    refine mx_get (v := vR (mj_r M l0 2)) hC tf_X12_13 ht1 rfl dX12_isInWay_11 ?_
    refine mx_iload_n (j := 1) hC dX12_isInWay_14 rfl rfl ?_
    obtain ⟨ht5, h⟩ := h
    obtain ⟨hi6, h⟩ := h
    refine mx_iaload hC ht5 hi6 dX12_isInWay_15 ?_
    refine mx_iload_n (j := 3) hC dX12_isInWay_16 rfl rfl ?_
    refine mx_iand hC dX12_isInWay_17 ?_
    refine mx_ifeq (tgt := 46) hC dX12_isInWay_18 (by decide) (fun hc7 => ?_) (fun hc7 => ?_)
    · replace h := mj_yy hc7 h
      refine mx_iconst (v := 0) hC dX12_isInWay_46 (by decide) ?_
      exact mx_zret (b := false) hC hE rfl dX12_isInWay_47 h
    · replace h := mj_nn hc7 h
      refine mx_iload (j := 4) hC dX12_isInWay_21 rfl ?_
      refine mx_iload (j := 5) hC dX12_isInWay_23 rfl ?_
      refine mx_aload_n (j := 0) hC dX12_isInWay_25 rfl rfl ?_
      refine mx_get (v := vR (mj_r M l0 3)) hC tf_X12_16 ht1 rfl dX12_isInWay_26 ?_
      refine mx_iload_n (j := 1) hC dX12_isInWay_29 rfl rfl ?_
      obtain ⟨ht8, h⟩ := h
      obtain ⟨hi9, h⟩ := h
      refine mx_iaload hC ht8 hi9 dX12_isInWay_30 ?_
      refine mx_aload_n (j := 0) hC dX12_isInWay_31 rfl rfl ?_
      refine mx_iload_n (j := 1) hC dX12_isInWay_32 rfl rfl ?_
      refine mx_callV (inj := mj_jI) (As := [vI l1]) (st := [vI (mj_i M (mj_r M l0 3) (l1 : Int32).toNatClampNeg), vI l5, vI l4]) hC (ct_X12_until l0 l1 M _ h) ty_X12_until tw1415 ht1 rfl (Nat.le_of_ble_eq_true rfl) ⟨rfl, rfl, ⟨by decide, by decide⟩, by decide, by decide⟩ dX12_isInWay_33 (fun r10 M11 h => ?_)
      show mj_X g 36 [(0, vR l0), (1, vI l1), (2, vI l2), (3, vI l3), (4, vI l4), (5, vI l5)] [vI r10, vI (mj_i M (mj_r M l0 3) (l1 : Int32).toNatClampNeg), vI l5, vI l4] M11 0 0
      refine mx_callS (inj := mj_jB) (As := [vI l4, vI l5, vI (mj_i M (mj_r M l0 3) (l1 : Int32).toNatClampNeg), vI r10]) (st := []) hC (ct_X12_doLap l4 l5 (mj_i M (mj_r M l0 3) (l1 : Int32).toNatClampNeg) r10 M11 _ h) ty_X12_doLap tw1423 rfl (Nat.le_of_ble_eq_true rfl) ⟨rfl, rfl, ⟨by decide, by decide⟩, by decide, by decide⟩ dX12_isInWay_36 (fun r12 M13 h => ?_)
      show mj_X g 39 [(0, vR l0), (1, vI l1), (2, vI l2), (3, vI l3), (4, vI l4), (5, vI l5)] [vI (mj_b r12)] M13 0 0
      refine mx_ifeqB (tgt := 46) hC dX12_isInWay_39 (by decide) (fun hc14 => ?_) (fun hc14 => ?_)
      · replace h := mj_nn hc14 h
        refine mx_iconst (v := 0) hC dX12_isInWay_46 (by decide) ?_
        exact mx_zret (b := false) hC hE rfl dX12_isInWay_47 h
      · replace h := mj_yy hc14 h
        refine mx_iconst (v := 1) hC dX12_isInWay_42 (by decide) ?_
        refine mx_goto (tgt := 47) hC dX12_isInWay_43 (by decide) ?_
        exact mx_zret (b := true) hC hE rfl dX12_isInWay_47 h
def rm_X12_liesWithin : Room := { frames := 1, cells := 0, slots := 0, locals := 21 }
theorem dX12_liesWithin_0 : decode cX12_liesWithin 0 = .ok (.iload_n 2, 1) := by decide +kernel
theorem dX12_liesWithin_1 : decode cX12_liesWithin 1 = .ok (.aload_n 0, 1) := by decide +kernel
theorem dX12_liesWithin_2 : decode cX12_liesWithin 2 = .ok (.getfield 13, 3) := by decide +kernel
theorem dX12_liesWithin_5 : decode cX12_liesWithin 5 = .ok (.iload_n 1, 1) := by decide +kernel
theorem dX12_liesWithin_6 : decode cX12_liesWithin 6 = .ok (.iaload, 1) := by decide +kernel
theorem dX12_liesWithin_7 : decode cX12_liesWithin 7 = .ok (.iconst (-1), 1) := by decide +kernel
theorem dX12_liesWithin_8 : decode cX12_liesWithin 8 = .ok (.ixor, 1) := by decide +kernel
theorem dX12_liesWithin_9 : decode cX12_liesWithin 9 = .ok (.iand, 1) := by decide +kernel
theorem dX12_liesWithin_10 : decode cX12_liesWithin 10 = .ok (.ifCond .ne 27, 3) := by decide +kernel
theorem dX12_liesWithin_13 : decode cX12_liesWithin 13 = .ok (.iload_n 3, 1) := by decide +kernel
theorem dX12_liesWithin_14 : decode cX12_liesWithin 14 = .ok (.aload_n 0, 1) := by decide +kernel
theorem dX12_liesWithin_15 : decode cX12_liesWithin 15 = .ok (.getfield 16, 3) := by decide +kernel
theorem dX12_liesWithin_18 : decode cX12_liesWithin 18 = .ok (.iload_n 1, 1) := by decide +kernel
theorem dX12_liesWithin_19 : decode cX12_liesWithin 19 = .ok (.iaload, 1) := by decide +kernel
theorem dX12_liesWithin_20 : decode cX12_liesWithin 20 = .ok (.if_icmp .lt 17, 3) := by decide +kernel
theorem dX12_liesWithin_23 : decode cX12_liesWithin 23 = .ok (.iload 4, 2) := by decide +kernel
theorem dX12_liesWithin_25 : decode cX12_liesWithin 25 = .ok (.aload_n 0, 1) := by decide +kernel
theorem dX12_liesWithin_26 : decode cX12_liesWithin 26 = .ok (.iload_n 1, 1) := by decide +kernel
theorem dX12_liesWithin_27 : decode cX12_liesWithin 27 = .ok (.invokevirtual 147, 3) := by decide +kernel
theorem dX12_liesWithin_30 : decode cX12_liesWithin 30 = .ok (.if_icmp .gt 7, 3) := by decide +kernel
theorem dX12_liesWithin_33 : decode cX12_liesWithin 33 = .ok (.iconst 1, 1) := by decide +kernel
theorem dX12_liesWithin_34 : decode cX12_liesWithin 34 = .ok (.goto 4, 3) := by decide +kernel
theorem dX12_liesWithin_37 : decode cX12_liesWithin 37 = .ok (.iconst 0, 1) := by decide +kernel
theorem dX12_liesWithin_38 : decode cX12_liesWithin 38 = .ok (.ireturn, 1) := by decide +kernel
def vc_X12_liesWithin (l0 : Nat) (l1 : Int32) (l2 : Int32) (l3 : Int32) (l4 : Int32) (M : mj_M) (post : Bool → mj_M → Prop) : Prop := mj_tag M l0 = 13 ∧ mj_tag M (mj_r M l0 2) = 101 ∧ vp_in l1 (mj_len M (mj_r M l0 2)) ∧ if (l2 &&& ((mj_i M (mj_r M l0 2) (l1 : Int32).toNatClampNeg) ^^^ ((-1)))) = 0 then (mj_tag M (mj_r M l0 3) = 101 ∧ vp_in l1 (mj_len M (mj_r M l0 3)) ∧ if l3 < (mj_i M (mj_r M l0 3) (l1 : Int32).toNatClampNeg) then (post false M) else (vc_X12_until l0 l1 M (fun r8 M9 => if r8 < l4 then (post false M9) else (post true M9)))) else (post false M)
set_option maxHeartbeats 4000000 in
set_option maxRecDepth 100000 in
theorem ct_X12_liesWithin {l : Launch} {base : Nat} {D : va_G} {A : ClassId × ClassId × ClassId} (l0 : Nat) (l1 : Int32) (l2 : Int32) (l3 : Int32) (l4 : Int32) (M : mj_M) (post : Bool → mj_M → Prop) (h : vc_X12_liesWithin l0 l1 l2 l3 l4 M post) : mj_Met l base D A mj_jB yX12_liesWithin cX12_liesWithin 5 (some .boolean) rm_X12_liesWithin 0 0 [vR l0, vI l1, vI l2, vI l3, vI l4] M post := by
  refine mj_entry (by decide +kernel) (Nat.le_of_ble_eq_true rfl) (fun g hC hE h1 h2 h3 h4 => ?_)
  show mj_X g 0 [(0, vR l0), (1, vI l1), (2, vI l2), (3, vI l3), (4, vI l4)] [] M 0 0
  simp only [vc_X12_liesWithin] at h
  refine mx_iload_n (j := 2) hC dX12_liesWithin_0 rfl rfl ?_
  refine mx_aload_n (j := 0) hC dX12_liesWithin_1 rfl rfl ?_
  obtain ⟨ht1, h⟩ := h
  refine mx_get (v := vR (mj_r M l0 2)) hC tf_X12_13 ht1 rfl dX12_liesWithin_2 ?_
  refine mx_iload_n (j := 1) hC dX12_liesWithin_5 rfl rfl ?_
  obtain ⟨ht2, h⟩ := h
  obtain ⟨hi3, h⟩ := h
  refine mx_iaload hC ht2 hi3 dX12_liesWithin_6 ?_
  refine mx_iconst (v := (-1)) hC dX12_liesWithin_7 (by decide) ?_
  refine mx_ixor hC dX12_liesWithin_8 ?_
  refine mx_iand hC dX12_liesWithin_9 ?_
  refine mx_ifne (tgt := 37) hC dX12_liesWithin_10 (by decide) (fun hc4 => ?_) (fun hc4 => ?_)
  · replace h := mj_nn hc4 h
    refine mx_iconst (v := 0) hC dX12_liesWithin_37 (by decide) ?_
    exact mx_zret (b := false) hC hE rfl dX12_liesWithin_38 h
  · replace h := mj_yy hc4 h
    refine mx_iload_n (j := 3) hC dX12_liesWithin_13 rfl rfl ?_
    refine mx_aload_n (j := 0) hC dX12_liesWithin_14 rfl rfl ?_
    refine mx_get (v := vR (mj_r M l0 3)) hC tf_X12_16 ht1 rfl dX12_liesWithin_15 ?_
    refine mx_iload_n (j := 1) hC dX12_liesWithin_18 rfl rfl ?_
    obtain ⟨ht5, h⟩ := h
    obtain ⟨hi6, h⟩ := h
    refine mx_iaload hC ht5 hi6 dX12_liesWithin_19 ?_
    refine mx_icmplt (tgt := 37) hC dX12_liesWithin_20 (by decide) (fun hc7 => ?_) (fun hc7 => ?_)
    · replace h := mj_yy hc7 h
      refine mx_iconst (v := 0) hC dX12_liesWithin_37 (by decide) ?_
      exact mx_zret (b := false) hC hE rfl dX12_liesWithin_38 h
    · replace h := mj_nn hc7 h
      refine mx_iload (j := 4) hC dX12_liesWithin_23 rfl ?_
      refine mx_aload_n (j := 0) hC dX12_liesWithin_25 rfl rfl ?_
      refine mx_iload_n (j := 1) hC dX12_liesWithin_26 rfl rfl ?_
      refine mx_callV (inj := mj_jI) (As := [vI l1]) (st := [vI l4]) hC (ct_X12_until l0 l1 M _ h) ty_X12_until tw1415 ht1 rfl (Nat.le_of_ble_eq_true rfl) ⟨rfl, rfl, ⟨by decide, by decide⟩, by decide, by decide⟩ dX12_liesWithin_27 (fun r8 M9 h => ?_)
      show mj_X g 30 [(0, vR l0), (1, vI l1), (2, vI l2), (3, vI l3), (4, vI l4)] [vI r8, vI l4] M9 0 0
      refine mx_icmpgt (tgt := 37) hC dX12_liesWithin_30 (by decide) (fun hc10 => ?_) (fun hc10 => ?_)
      · replace h := mj_yy hc10 h
        refine mx_iconst (v := 0) hC dX12_liesWithin_37 (by decide) ?_
        exact mx_zret (b := false) hC hE rfl dX12_liesWithin_38 h
      · replace h := mj_nn hc10 h
        refine mx_iconst (v := 1) hC dX12_liesWithin_33 (by decide) ?_
        refine mx_goto (tgt := 38) hC dX12_liesWithin_34 (by decide) ?_
        exact mx_zret (b := true) hC hE rfl dX12_liesWithin_38 h
theorem tw1411 : (Jvm.Cond.methodLink "LeaseLandModel" (176 : Nat) ({ cls := "LeaseLandModel", name := "liesWithin", desc := "(IIII)Z" } : Jvm.MethodName)) ∈ mj_tbl := mj_w 1464 (by decide +kernel) (by decide +kernel)
theorem tw1414 : (Jvm.Cond.code ({ cls := "LeaseLandModel", name := "liesWithin", desc := "(IIII)Z" } : Jvm.MethodName) prog_14_method_19_code (5 : Nat) (Option.some Jvm.ClassFile.FieldType.boolean)) ∈ mj_tbl := mj_w 1467 (by decide +kernel) (by decide +kernel)
theorem tw1413 : (Jvm.Cond.instanceMethod ({ cls := "LeaseLandModel", name := "liesWithin", desc := "(IIII)Z" } : Jvm.MethodName)) ∈ mj_tbl := mj_w 1466 (by decide +kernel) (by decide +kernel)
theorem ty_X12_liesWithin : mj_YV 12 yX12_liesWithin cX12_liesWithin 5 (some .boolean) 4 := ⟨⟨tw1414, tw11, by decide +kernel, by decide +kernel, by decide +kernel⟩, tw1413, mj_w 9 (by decide +kernel) (by decide +kernel), _, rfl, rfl⟩
def rm_X12_whyNot : Room := { frames := 2, cells := 0, slots := 0, locals := 46 }
theorem dX12_whyNot_0 : decode cX12_whyNot 0 = .ok (.aload_n 0, 1) := by decide +kernel
theorem dX12_whyNot_1 : decode cX12_whyNot 1 = .ok (.iload_n 1, 1) := by decide +kernel
theorem dX12_whyNot_2 : decode cX12_whyNot 2 = .ok (.invokevirtual 137, 3) := by decide +kernel
theorem dX12_whyNot_5 : decode cX12_whyNot 5 = .ok (.ifCond .eq 11, 3) := by decide +kernel
theorem dX12_whyNot_8 : decode cX12_whyNot 8 = .ok (.iload 5, 2) := by decide +kernel
theorem dX12_whyNot_10 : decode cX12_whyNot 10 = .ok (.invokestatic 154, 3) := by decide +kernel
theorem dX12_whyNot_13 : decode cX12_whyNot 13 = .ok (.ifCond .ne 5, 3) := by decide +kernel
theorem dX12_whyNot_16 : decode cX12_whyNot 16 = .ok (.iconst (-1), 1) := by decide +kernel
theorem dX12_whyNot_17 : decode cX12_whyNot 17 = .ok (.ireturn, 1) := by decide +kernel
theorem dX12_whyNot_18 : decode cX12_whyNot 18 = .ok (.iload_n 2, 1) := by decide +kernel
theorem dX12_whyNot_19 : decode cX12_whyNot 19 = .ok (.invokestatic 157, 3) := by decide +kernel
theorem dX12_whyNot_22 : decode cX12_whyNot 22 = .ok (.ifCond .eq 24, 3) := by decide +kernel
theorem dX12_whyNot_25 : decode cX12_whyNot 25 = .ok (.iload_n 3, 1) := by decide +kernel
theorem dX12_whyNot_26 : decode cX12_whyNot 26 = .ok (.aload_n 0, 1) := by decide +kernel
theorem dX12_whyNot_27 : decode cX12_whyNot 27 = .ok (.getfield 151, 3) := by decide +kernel
theorem dX12_whyNot_30 : decode cX12_whyNot 30 = .ok (.if_icmp .lt 16, 3) := by decide +kernel
theorem dX12_whyNot_33 : decode cX12_whyNot 33 = .ok (.iload_n 3, 1) := by decide +kernel
theorem dX12_whyNot_34 : decode cX12_whyNot 34 = .ok (.iload 4, 2) := by decide +kernel
theorem dX12_whyNot_36 : decode cX12_whyNot 36 = .ok (.if_icmp .ge 10, 3) := by decide +kernel
theorem dX12_whyNot_39 : decode cX12_whyNot 39 = .ok (.iload 4, 2) := by decide +kernel
theorem dX12_whyNot_41 : decode cX12_whyNot 41 = .ok (.ldc 160, 2) := by decide +kernel
theorem dX12_whyNot_43 : decode cX12_whyNot 43 = .ok (.if_icmp .le 6, 3) := by decide +kernel
theorem dX12_whyNot_46 : decode cX12_whyNot 46 = .ok (.bipush (-2), 2) := by decide +kernel
theorem dX12_whyNot_48 : decode cX12_whyNot 48 = .ok (.ireturn, 1) := by decide +kernel
theorem dX12_whyNot_49 : decode cX12_whyNot 49 = .ok (.aload_n 0, 1) := by decide +kernel
theorem dX12_whyNot_50 : decode cX12_whyNot 50 = .ok (.getfield 130, 3) := by decide +kernel
theorem dX12_whyNot_53 : decode cX12_whyNot 53 = .ok (.bipush 40, 2) := by decide +kernel
theorem dX12_whyNot_55 : decode cX12_whyNot 55 = .ok (.if_icmp .ne 8, 3) := by decide +kernel
theorem dX12_whyNot_58 : decode cX12_whyNot 58 = .ok (.bipush (-4), 2) := by decide +kernel
theorem dX12_whyNot_60 : decode cX12_whyNot 60 = .ok (.goto 21, 3) := by decide +kernel
theorem dX12_whyNot_63 : decode cX12_whyNot 63 = .ok (.aload_n 0, 1) := by decide +kernel
theorem dX12_whyNot_64 : decode cX12_whyNot 64 = .ok (.iload_n 1, 1) := by decide +kernel
theorem dX12_whyNot_65 : decode cX12_whyNot 65 = .ok (.iload_n 2, 1) := by decide +kernel
theorem dX12_whyNot_66 : decode cX12_whyNot 66 = .ok (.iload_n 3, 1) := by decide +kernel
theorem dX12_whyNot_67 : decode cX12_whyNot 67 = .ok (.iload 4, 2) := by decide +kernel
theorem dX12_whyNot_69 : decode cX12_whyNot 69 = .ok (.invokevirtual 176, 3) := by decide +kernel
theorem dX12_whyNot_72 : decode cX12_whyNot 72 = .ok (.ifCond .eq 7, 3) := by decide +kernel
theorem dX12_whyNot_75 : decode cX12_whyNot 75 = .ok (.iconst 0, 1) := by decide +kernel
theorem dX12_whyNot_76 : decode cX12_whyNot 76 = .ok (.goto 5, 3) := by decide +kernel
theorem dX12_whyNot_79 : decode cX12_whyNot 79 = .ok (.bipush (-5), 2) := by decide +kernel
theorem dX12_whyNot_81 : decode cX12_whyNot 81 = .ok (.ireturn, 1) := by decide +kernel
def vc_X12_whyNot (l0 : Nat) (l1 : Int32) (l2 : Int32) (l3 : Int32) (l4 : Int32) (l5 : Int32) (M : mj_M) (post : Int32 → mj_M → Prop) : Prop := mj_tag M l0 = 13 ∧ vc_X12_isHolding l0 l1 M (fun r2 M3 => if r2 = true then (vc_X12_isPerson l5 M3 (fun r5 M6 => if r5 = true then (vc_X12_areFloors l2 M6 (fun r8 M9 => if r8 = true then (mj_tag M9 l0 = 13 ∧ if l3 < (mj_i M9 l0 0) then (post ((-2)) M9) else (if l4 ≤ l3 then (post ((-2)) M9) else (if l4 ≤ 73000 then (if (mj_i M9 l0 13) = 40 then (post ((-4)) M9) else (vc_X12_liesWithin l0 l1 l2 l3 l4 M9 (fun r16 M17 => if r16 = true then (post 0 M17) else (post ((-5)) M17)))) else (post ((-2)) M9)))) else (post ((-2)) M9))) else (post ((-1)) M6))) else (post ((-1)) M3))
set_option maxHeartbeats 4000000 in
set_option maxRecDepth 100000 in
theorem ct_X12_whyNot {l : Launch} {base : Nat} {D : va_G} {A : ClassId × ClassId × ClassId} (l0 : Nat) (l1 : Int32) (l2 : Int32) (l3 : Int32) (l4 : Int32) (l5 : Int32) (M : mj_M) (post : Int32 → mj_M → Prop) (h : vc_X12_whyNot l0 l1 l2 l3 l4 l5 M post) : mj_Met l base D A mj_jI yX12_whyNot cX12_whyNot 6 (some .int) rm_X12_whyNot 0 0 [vR l0, vI l1, vI l2, vI l3, vI l4, vI l5] M post := by
  refine mj_entry (by decide +kernel) (Nat.le_of_ble_eq_true rfl) (fun g hC hE h1 h2 h3 h4 => ?_)
  show mj_X g 0 [(0, vR l0), (1, vI l1), (2, vI l2), (3, vI l3), (4, vI l4), (5, vI l5)] [] M 0 0
  simp only [vc_X12_whyNot] at h
  refine mx_aload_n (j := 0) hC dX12_whyNot_0 rfl rfl ?_
  refine mx_iload_n (j := 1) hC dX12_whyNot_1 rfl rfl ?_
  obtain ⟨ht1, h⟩ := h
  refine mx_callV (inj := mj_jB) (As := [vI l1]) (st := []) hC (ct_X12_isHolding l0 l1 M _ h) ty_X12_isHolding tw1407 ht1 rfl (Nat.le_of_ble_eq_true rfl) ⟨rfl, rfl, ⟨by decide, by decide⟩, by decide, by decide⟩ dX12_whyNot_2 (fun r2 M3 h => ?_)
  show mj_X g 5 [(0, vR l0), (1, vI l1), (2, vI l2), (3, vI l3), (4, vI l4), (5, vI l5)] [vI (mj_b r2)] M3 0 0
  refine mx_ifeqB (tgt := 16) hC dX12_whyNot_5 (by decide) (fun hc4 => ?_) (fun hc4 => ?_)
  · replace h := mj_nn hc4 h
    refine mx_iconst (v := (-1)) hC dX12_whyNot_16 (by decide) ?_
    exact mx_iret hC hE rfl dX12_whyNot_17 h
  · replace h := mj_yy hc4 h
    refine mx_iload (j := 5) hC dX12_whyNot_8 rfl ?_
    refine mx_callS (inj := mj_jB) (As := [vI l5]) (st := []) hC (ct_X12_isPerson l5 M3 _ h) ty_X12_isPerson tw1386 rfl (Nat.le_of_ble_eq_true rfl) ⟨rfl, rfl, ⟨by decide, by decide⟩, by decide, by decide⟩ dX12_whyNot_10 (fun r5 M6 h => ?_)
    show mj_X g 13 [(0, vR l0), (1, vI l1), (2, vI l2), (3, vI l3), (4, vI l4), (5, vI l5)] [vI (mj_b r5)] M6 0 0
    refine mx_ifneB (tgt := 18) hC dX12_whyNot_13 (by decide) (fun hc7 => ?_) (fun hc7 => ?_)
    · replace h := mj_yy hc7 h
      refine mx_iload_n (j := 2) hC dX12_whyNot_18 rfl rfl ?_
      refine mx_callS (inj := mj_jB) (As := [vI l2]) (st := []) hC (ct_X12_areFloors l2 M6 _ h) ty_X12_areFloors tw1390 rfl (Nat.le_of_ble_eq_true rfl) ⟨rfl, rfl, ⟨by decide, by decide⟩, by decide, by decide⟩ dX12_whyNot_19 (fun r8 M9 h => ?_)
      show mj_X g 22 [(0, vR l0), (1, vI l1), (2, vI l2), (3, vI l3), (4, vI l4), (5, vI l5)] [vI (mj_b r8)] M9 0 0
      refine mx_ifeqB (tgt := 46) hC dX12_whyNot_22 (by decide) (fun hc10 => ?_) (fun hc10 => ?_)
      · replace h := mj_nn hc10 h
        refine mx_bipush (v := (-2)) hC dX12_whyNot_46 (by decide) ?_
        exact mx_iret hC hE rfl dX12_whyNot_48 h
      · replace h := mj_yy hc10 h
        refine mx_iload_n (j := 3) hC dX12_whyNot_25 rfl rfl ?_
        refine mx_aload_n (j := 0) hC dX12_whyNot_26 rfl rfl ?_
        obtain ⟨ht11, h⟩ := h
        refine mx_get (v := vI (mj_i M9 l0 0)) hC tf_X12_151 ht11 rfl dX12_whyNot_27 ?_
        refine mx_icmplt (tgt := 46) hC dX12_whyNot_30 (by decide) (fun hc12 => ?_) (fun hc12 => ?_)
        · replace h := mj_yy hc12 h
          refine mx_bipush (v := (-2)) hC dX12_whyNot_46 (by decide) ?_
          exact mx_iret hC hE rfl dX12_whyNot_48 h
        · replace h := mj_nn hc12 h
          refine mx_iload_n (j := 3) hC dX12_whyNot_33 rfl rfl ?_
          refine mx_iload (j := 4) hC dX12_whyNot_34 rfl ?_
          refine mx_icmpge (tgt := 46) hC dX12_whyNot_36 (by decide) (fun hc13 => ?_) (fun hc13 => ?_)
          · replace h := mj_yy hc13 h
            refine mx_bipush (v := (-2)) hC dX12_whyNot_46 (by decide) ?_
            exact mx_iret hC hE rfl dX12_whyNot_48 h
          · replace h := mj_nn hc13 h
            refine mx_iload (j := 4) hC dX12_whyNot_39 rfl ?_
            refine mx_ldc (v := 73000) hC dX12_whyNot_41 tw1394 ?_
            refine mx_icmple (tgt := 49) hC dX12_whyNot_43 (by decide) (fun hc14 => ?_) (fun hc14 => ?_)
            · replace h := mj_yy hc14 h
              refine mx_aload_n (j := 0) hC dX12_whyNot_49 rfl rfl ?_
              refine mx_get (v := vI (mj_i M9 l0 13)) hC tf_X12_130 ht11 rfl dX12_whyNot_50 ?_
              refine mx_bipush (v := 40) hC dX12_whyNot_53 (by decide) ?_
              refine mx_icmpne (tgt := 63) hC dX12_whyNot_55 (by decide) (fun hc15 => ?_) (fun hc15 => ?_)
              · replace h := mj_nn hc15 h
                refine mx_aload_n (j := 0) hC dX12_whyNot_63 rfl rfl ?_
                refine mx_iload_n (j := 1) hC dX12_whyNot_64 rfl rfl ?_
                refine mx_iload_n (j := 2) hC dX12_whyNot_65 rfl rfl ?_
                refine mx_iload_n (j := 3) hC dX12_whyNot_66 rfl rfl ?_
                refine mx_iload (j := 4) hC dX12_whyNot_67 rfl ?_
                refine mx_callV (inj := mj_jB) (As := [vI l1, vI l2, vI l3, vI l4]) (st := []) hC (ct_X12_liesWithin l0 l1 l2 l3 l4 M9 _ h) ty_X12_liesWithin tw1411 ht11 rfl (Nat.le_of_ble_eq_true rfl) ⟨rfl, rfl, ⟨by decide, by decide⟩, by decide, by decide⟩ dX12_whyNot_69 (fun r16 M17 h => ?_)
                show mj_X g 72 [(0, vR l0), (1, vI l1), (2, vI l2), (3, vI l3), (4, vI l4), (5, vI l5)] [vI (mj_b r16)] M17 0 0
                refine mx_ifeqB (tgt := 79) hC dX12_whyNot_72 (by decide) (fun hc18 => ?_) (fun hc18 => ?_)
                · replace h := mj_nn hc18 h
                  refine mx_bipush (v := (-5)) hC dX12_whyNot_79 (by decide) ?_
                  exact mx_iret hC hE rfl dX12_whyNot_81 h
                · replace h := mj_yy hc18 h
                  refine mx_iconst (v := 0) hC dX12_whyNot_75 (by decide) ?_
                  refine mx_goto (tgt := 81) hC dX12_whyNot_76 (by decide) ?_
                  exact mx_iret hC hE rfl dX12_whyNot_81 h
              · replace h := mj_yy hc15 h
                refine mx_bipush (v := (-4)) hC dX12_whyNot_58 (by decide) ?_
                refine mx_goto (tgt := 81) hC dX12_whyNot_60 (by decide) ?_
                exact mx_iret hC hE rfl dX12_whyNot_81 h
            · replace h := mj_nn hc14 h
              refine mx_bipush (v := (-2)) hC dX12_whyNot_46 (by decide) ?_
              exact mx_iret hC hE rfl dX12_whyNot_48 h
    · replace h := mj_nn hc7 h
      refine mx_iconst (v := (-1)) hC dX12_whyNot_16 (by decide) ?_
      exact mx_iret hC hE rfl dX12_whyNot_17 h
theorem tw1403 : (Jvm.Cond.methodLink "LeaseLandModel" (179 : Nat) ({ cls := "LeaseLandModel", name := "whyNot", desc := "(IIIII)I" } : Jvm.MethodName)) ∈ mj_tbl := mj_w 1456 (by decide +kernel) (by decide +kernel)
theorem tw1419 : (Jvm.Cond.methodLink "LeaseLandModel" (183 : Nat) ({ cls := "LeaseLandModel", name := "isInWay", desc := "(IIIII)Z" } : Jvm.MethodName)) ∈ mj_tbl := mj_w 1472 (by decide +kernel) (by decide +kernel)
theorem tw1422 : (Jvm.Cond.code ({ cls := "LeaseLandModel", name := "isInWay", desc := "(IIIII)Z" } : Jvm.MethodName) prog_14_method_18_code (6 : Nat) (Option.some Jvm.ClassFile.FieldType.boolean)) ∈ mj_tbl := mj_w 1475 (by decide +kernel) (by decide +kernel)
theorem tw1421 : (Jvm.Cond.instanceMethod ({ cls := "LeaseLandModel", name := "isInWay", desc := "(IIIII)Z" } : Jvm.MethodName)) ∈ mj_tbl := mj_w 1474 (by decide +kernel) (by decide +kernel)
theorem ty_X12_isInWay : mj_YV 12 yX12_isInWay cX12_isInWay 6 (some .boolean) 5 := ⟨⟨tw1422, tw11, by decide +kernel, by decide +kernel, by decide +kernel⟩, tw1421, mj_w 11 (by decide +kernel) (by decide +kernel), _, rfl, rfl⟩
theorem tw1406 : (Jvm.Cond.code ({ cls := "LeaseLandModel", name := "whyNot", desc := "(IIIII)I" } : Jvm.MethodName) prog_14_method_20_code (6 : Nat) (Option.some Jvm.ClassFile.FieldType.int)) ∈ mj_tbl := mj_w 1459 (by decide +kernel) (by decide +kernel)
theorem tw1405 : (Jvm.Cond.instanceMethod ({ cls := "LeaseLandModel", name := "whyNot", desc := "(IIIII)I" } : Jvm.MethodName)) ∈ mj_tbl := mj_w 1458 (by decide +kernel) (by decide +kernel)
theorem ty_X12_whyNot : mj_YV 12 yX12_whyNot cX12_whyNot 6 (some .int) 5 := ⟨⟨tw1406, tw11, by decide +kernel, by decide +kernel, by decide +kernel⟩, tw1405, mj_w 7 (by decide +kernel) (by decide +kernel), _, rfl, rfl⟩
def rm_X12_lease : Room := { frames := 3, cells := 0, slots := 0, locals := 71 }
theorem dX12_lease_0 : decode cX12_lease 0 = .ok (.aload_n 0, 1) := by decide +kernel
theorem dX12_lease_1 : decode cX12_lease 1 = .ok (.iload_n 1, 1) := by decide +kernel
theorem dX12_lease_2 : decode cX12_lease 2 = .ok (.iload_n 2, 1) := by decide +kernel
theorem dX12_lease_3 : decode cX12_lease 3 = .ok (.iload_n 3, 1) := by decide +kernel
theorem dX12_lease_4 : decode cX12_lease 4 = .ok (.iload 4, 2) := by decide +kernel
theorem dX12_lease_6 : decode cX12_lease 6 = .ok (.iload 5, 2) := by decide +kernel
theorem dX12_lease_8 : decode cX12_lease 8 = .ok (.invokevirtual 179, 3) := by decide +kernel
theorem dX12_lease_11 : decode cX12_lease 11 = .ok (.istore 6, 2) := by decide +kernel
theorem dX12_lease_13 : decode cX12_lease 13 = .ok (.iload 6, 2) := by decide +kernel
theorem dX12_lease_15 : decode cX12_lease 15 = .ok (.ifCond .ge 6, 3) := by decide +kernel
theorem dX12_lease_18 : decode cX12_lease 18 = .ok (.iload 6, 2) := by decide +kernel
theorem dX12_lease_20 : decode cX12_lease 20 = .ok (.ireturn, 1) := by decide +kernel
theorem dX12_lease_21 : decode cX12_lease 21 = .ok (.iconst 0, 1) := by decide +kernel
theorem dX12_lease_22 : decode cX12_lease 22 = .ok (.istore 7, 2) := by decide +kernel
theorem dX12_lease_24 : decode cX12_lease 24 = .ok (.iload 7, 2) := by decide +kernel
theorem dX12_lease_26 : decode cX12_lease 26 = .ok (.aload_n 0, 1) := by decide +kernel
theorem dX12_lease_27 : decode cX12_lease 27 = .ok (.getfield 130, 3) := by decide +kernel
theorem dX12_lease_30 : decode cX12_lease 30 = .ok (.if_icmp .ge 26, 3) := by decide +kernel
theorem dX12_lease_33 : decode cX12_lease 33 = .ok (.aload_n 0, 1) := by decide +kernel
theorem dX12_lease_34 : decode cX12_lease 34 = .ok (.iload 7, 2) := by decide +kernel
theorem dX12_lease_36 : decode cX12_lease 36 = .ok (.iload_n 1, 1) := by decide +kernel
theorem dX12_lease_37 : decode cX12_lease 37 = .ok (.iload_n 2, 1) := by decide +kernel
theorem dX12_lease_38 : decode cX12_lease 38 = .ok (.iload_n 3, 1) := by decide +kernel
theorem dX12_lease_39 : decode cX12_lease 39 = .ok (.iload 4, 2) := by decide +kernel
theorem dX12_lease_41 : decode cX12_lease 41 = .ok (.invokevirtual 183, 3) := by decide +kernel
theorem dX12_lease_44 : decode cX12_lease 44 = .ok (.ifCond .eq 6, 3) := by decide +kernel
theorem dX12_lease_47 : decode cX12_lease 47 = .ok (.bipush (-5), 2) := by decide +kernel
theorem dX12_lease_49 : decode cX12_lease 49 = .ok (.ireturn, 1) := by decide +kernel
theorem dX12_lease_50 : decode cX12_lease 50 = .ok (.iinc 7 1, 3) := by decide +kernel
theorem dX12_lease_53 : decode cX12_lease 53 = .ok (.goto (-29), 3) := by decide +kernel
theorem dX12_lease_56 : decode cX12_lease 56 = .ok (.aload_n 0, 1) := by decide +kernel
theorem dX12_lease_57 : decode cX12_lease 57 = .ok (.iload_n 1, 1) := by decide +kernel
theorem dX12_lease_58 : decode cX12_lease 58 = .ok (.iload_n 2, 1) := by decide +kernel
theorem dX12_lease_59 : decode cX12_lease 59 = .ok (.iload_n 3, 1) := by decide +kernel
theorem dX12_lease_60 : decode cX12_lease 60 = .ok (.iload 4, 2) := by decide +kernel
theorem dX12_lease_62 : decode cX12_lease 62 = .ok (.iload 5, 2) := by decide +kernel
theorem dX12_lease_64 : decode cX12_lease 64 = .ok (.iload_n 3, 1) := by decide +kernel
theorem dX12_lease_65 : decode cX12_lease 65 = .ok (.invokevirtual 161, 3) := by decide +kernel
theorem dX12_lease_68 : decode cX12_lease 68 = .ok (.ireturn, 1) := by decide +kernel
def vb_X12_lease_24 (post : Int32 → mj_M → Prop) : Nat → Nat → Int32 → Int32 → Int32 → Int32 → Int32 → Int32 → mj_M → Prop
  | 0 => fun _ _ _ _ _ _ _ _ => False
  | f + 1 => fun l0 l1 l2 l3 l4 l5 l7 M => mj_tag M l0 = 13 ∧ if (mj_i M l0 13) ≤ l7 then (vc_X12_add l0 l1 l2 l3 l4 l5 l3 M (fun r3 M4 => post r3 M4)) else (vc_X12_isInWay l0 l7 l1 l2 l3 l4 M (fun r5 M6 => if r5 = true then (post ((-5)) M6) else (vb_X12_lease_24 post f l0 l1 l2 l3 l4 l5 (l7 + 1) M6)))
def vc_X12_lease (l0 : Nat) (l1 : Int32) (l2 : Int32) (l3 : Int32) (l4 : Int32) (l5 : Int32) (M : mj_M) (post : Int32 → mj_M → Prop) : Prop := mj_tag M l0 = 13 ∧ vc_X12_whyNot l0 l1 l2 l3 l4 l5 M (fun r9 M10 => if 0 ≤ r9 then (∃ fe, vb_X12_lease_24 post fe l0 l1 l2 l3 l4 l5 0 M10) else (post r9 M10))
set_option maxHeartbeats 4000000 in
set_option maxRecDepth 100000 in
theorem xb_X12_lease_24 {g : mj_G} {post : Int32 → mj_M → Prop} (hC : mj_C g yX12_lease cX12_lease 8 (some .int) rm_X12_lease) (hE : mj_E g mj_jI post 0 0) : ∀ (f : Nat) (l0 : Nat) (l1 : Int32) (l2 : Int32) (l3 : Int32) (l4 : Int32) (l5 : Int32) (l7 : Int32) (M : mj_M), vb_X12_lease_24 post f l0 l1 l2 l3 l4 l5 l7 M → mj_X g 24 [(0, vR l0), (1, vI l1), (2, vI l2), (3, vI l3), (4, vI l4), (5, vI l5), (7, vI l7)] [] M 0 0 := by
  intro f
  induction f with
  | zero => exact fun _ _ _ _ _ _ _ _ h => absurd h (fun z => z)
  | succ f ih =>
    intro l0 l1 l2 l3 l4 l5 l7 M h
    simp only [vb_X12_lease_24] at h
    refine mx_iload (j := 6) hC dX12_lease_24 rfl ?_
    refine mx_aload_n (j := 0) hC dX12_lease_26 rfl rfl ?_
    obtain ⟨ht1, h⟩ := h
    refine mx_get (v := vI (mj_i M l0 13)) hC tf_X12_130 ht1 rfl dX12_lease_27 ?_
    refine mx_icmpge (tgt := 56) hC dX12_lease_30 (by decide) (fun hc2 => ?_) (fun hc2 => ?_)
    · replace h := mj_yy hc2 h
      refine mx_aload_n (j := 0) hC dX12_lease_56 rfl rfl ?_
      refine mx_iload_n (j := 1) hC dX12_lease_57 rfl rfl ?_
      refine mx_iload_n (j := 2) hC dX12_lease_58 rfl rfl ?_
      refine mx_iload_n (j := 3) hC dX12_lease_59 rfl rfl ?_
      refine mx_iload (j := 4) hC dX12_lease_60 rfl ?_
      refine mx_iload (j := 5) hC dX12_lease_62 rfl ?_
      refine mx_iload_n (j := 3) hC dX12_lease_64 rfl rfl ?_
      refine mx_callV (inj := mj_jI) (As := [vI l1, vI l2, vI l3, vI l4, vI l5, vI l3]) (st := []) hC (ct_X12_add l0 l1 l2 l3 l4 l5 l3 M _ h) ty_X12_add tw1395 ht1 rfl (Nat.le_of_ble_eq_true rfl) ⟨rfl, rfl, ⟨by decide, by decide⟩, by decide, by decide⟩ dX12_lease_65 (fun r3 M4 h => ?_)
      show mj_X g 68 [(0, vR l0), (1, vI l1), (2, vI l2), (3, vI l3), (4, vI l4), (5, vI l5), (7, vI l7)] [vI r3] M4 0 0
      exact mx_iret hC hE rfl dX12_lease_68 h
    · replace h := mj_nn hc2 h
      refine mx_aload_n (j := 0) hC dX12_lease_33 rfl rfl ?_
      refine mx_iload (j := 6) hC dX12_lease_34 rfl ?_
      refine mx_iload_n (j := 1) hC dX12_lease_36 rfl rfl ?_
      refine mx_iload_n (j := 2) hC dX12_lease_37 rfl rfl ?_
      refine mx_iload_n (j := 3) hC dX12_lease_38 rfl rfl ?_
      refine mx_iload (j := 4) hC dX12_lease_39 rfl ?_
      refine mx_callV (inj := mj_jB) (As := [vI l7, vI l1, vI l2, vI l3, vI l4]) (st := []) hC (ct_X12_isInWay l0 l7 l1 l2 l3 l4 M _ h) ty_X12_isInWay tw1419 ht1 rfl (Nat.le_of_ble_eq_true rfl) ⟨rfl, rfl, ⟨by decide, by decide⟩, by decide, by decide⟩ dX12_lease_41 (fun r5 M6 h => ?_)
      show mj_X g 44 [(0, vR l0), (1, vI l1), (2, vI l2), (3, vI l3), (4, vI l4), (5, vI l5), (7, vI l7)] [vI (mj_b r5)] M6 0 0
      refine mx_ifeqB (tgt := 50) hC dX12_lease_44 (by decide) (fun hc7 => ?_) (fun hc7 => ?_)
      · replace h := mj_nn hc7 h
        refine mx_iinc (j := 6) (v := l7 + 1) (L' := [(7, vI (l7 + 1)), (0, vR l0), (1, vI l1), (2, vI l2), (3, vI l3), (4, vI l4), (5, vI l5)]) hC dX12_lease_50 rfl rfl (by decide) rfl ?_
        refine mx_goto (tgt := 24) hC dX12_lease_53 (by decide) ?_
        refine mx_sub (L' := [(0, vR l0), (1, vI l1), (2, vI l2), (3, vI l3), (4, vI l4), (5, vI l5), (7, vI (l7 + 1))]) [1, 2, 3, 4, 5, 6, 0] rfl ?_
        exact show mj_X g 24 [(0, vR l0), (1, vI l1), (2, vI l2), (3, vI l3), (4, vI l4), (5, vI l5), (7, vI (l7 + 1))] [] M6 0 0 from (ih l0 l1 l2 l3 l4 l5 (l7 + 1) M6 h)
      · replace h := mj_yy hc7 h
        refine mx_bipush (v := (-5)) hC dX12_lease_47 (by decide) ?_
        exact mx_iret hC hE rfl dX12_lease_49 h
set_option maxHeartbeats 4000000 in
set_option maxRecDepth 100000 in
theorem ct_X12_lease {l : Launch} {base : Nat} {D : va_G} {A : ClassId × ClassId × ClassId} (l0 : Nat) (l1 : Int32) (l2 : Int32) (l3 : Int32) (l4 : Int32) (l5 : Int32) (M : mj_M) (post : Int32 → mj_M → Prop) (h : vc_X12_lease l0 l1 l2 l3 l4 l5 M post) : mj_Met l base D A mj_jI yX12_lease cX12_lease 8 (some .int) rm_X12_lease 0 0 [vR l0, vI l1, vI l2, vI l3, vI l4, vI l5] M post := by
  refine mj_entry (by decide +kernel) (Nat.le_of_ble_eq_true rfl) (fun g hC hE h1 h2 h3 h4 => ?_)
  show mj_X g 0 [(0, vR l0), (1, vI l1), (2, vI l2), (3, vI l3), (4, vI l4), (5, vI l5)] [] M 0 0
  simp only [vc_X12_lease] at h
  refine mx_aload_n (j := 0) hC dX12_lease_0 rfl rfl ?_
  refine mx_iload_n (j := 1) hC dX12_lease_1 rfl rfl ?_
  refine mx_iload_n (j := 2) hC dX12_lease_2 rfl rfl ?_
  refine mx_iload_n (j := 3) hC dX12_lease_3 rfl rfl ?_
  refine mx_iload (j := 4) hC dX12_lease_4 rfl ?_
  refine mx_iload (j := 5) hC dX12_lease_6 rfl ?_
  obtain ⟨ht8, h⟩ := h
  refine mx_callV (inj := mj_jI) (As := [vI l1, vI l2, vI l3, vI l4, vI l5]) (st := []) hC (ct_X12_whyNot l0 l1 l2 l3 l4 l5 M _ h) ty_X12_whyNot tw1403 ht8 rfl (Nat.le_of_ble_eq_true rfl) ⟨rfl, rfl, ⟨by decide, by decide⟩, by decide, by decide⟩ dX12_lease_8 (fun r9 M10 h => ?_)
  show mj_X g 11 [(0, vR l0), (1, vI l1), (2, vI l2), (3, vI l3), (4, vI l4), (5, vI l5)] [vI r9] M10 0 0
  refine mx_istore (L' := [(6, vI r9), (0, vR l0), (1, vI l1), (2, vI l2), (3, vI l3), (4, vI l4), (5, vI l5)]) hC dX12_lease_11 (by decide) rfl ?_
  refine mx_iload (j := 0) hC dX12_lease_13 rfl ?_
  refine mx_ifge (tgt := 21) hC dX12_lease_15 (by decide) (fun hc11 => ?_) (fun hc11 => ?_)
  · replace h := mj_yy hc11 h
    refine mx_iconst (v := 0) hC dX12_lease_21 (by decide) ?_
    refine mx_istore (L' := [(7, vI 0), (6, vI r9), (0, vR l0), (1, vI l1), (2, vI l2), (3, vI l3), (4, vI l4), (5, vI l5)]) hC dX12_lease_22 (by decide) rfl ?_
    refine mx_sub (L' := [(0, vR l0), (1, vI l1), (2, vI l2), (3, vI l3), (4, vI l4), (5, vI l5), (7, vI 0)]) [2, 3, 4, 5, 6, 7, 0] rfl ?_
    obtain ⟨fe, h⟩ := h
    exact show mj_X g 24 [(0, vR l0), (1, vI l1), (2, vI l2), (3, vI l3), (4, vI l4), (5, vI l5), (7, vI 0)] [] M10 0 0 from (xb_X12_lease_24 hC hE fe l0 l1 l2 l3 l4 l5 0 M10 h)
  · replace h := mj_nn hc11 h
    refine mx_iload (j := 0) hC dX12_lease_18 rfl ?_
    exact mx_iret hC hE rfl dX12_lease_20 h
def rm_X12_between : Room := { frames := 3, cells := 0, slots := 0, locals := 71 }
theorem dX12_between_0 : decode cX12_between 0 = .ok (.aload_n 0, 1) := by decide +kernel
theorem dX12_between_1 : decode cX12_between 1 = .ok (.iload_n 1, 1) := by decide +kernel
theorem dX12_between_2 : decode cX12_between 2 = .ok (.iload_n 2, 1) := by decide +kernel
theorem dX12_between_3 : decode cX12_between 3 = .ok (.iload_n 3, 1) := by decide +kernel
theorem dX12_between_4 : decode cX12_between 4 = .ok (.iload 4, 2) := by decide +kernel
theorem dX12_between_6 : decode cX12_between 6 = .ok (.iload 5, 2) := by decide +kernel
theorem dX12_between_8 : decode cX12_between 8 = .ok (.invokevirtual 179, 3) := by decide +kernel
theorem dX12_between_11 : decode cX12_between 11 = .ok (.istore 6, 2) := by decide +kernel
theorem dX12_between_13 : decode cX12_between 13 = .ok (.iload 6, 2) := by decide +kernel
theorem dX12_between_15 : decode cX12_between 15 = .ok (.ifCond .ge 6, 3) := by decide +kernel
theorem dX12_between_18 : decode cX12_between 18 = .ok (.iload 6, 2) := by decide +kernel
theorem dX12_between_20 : decode cX12_between 20 = .ok (.ireturn, 1) := by decide +kernel
theorem dX12_between_21 : decode cX12_between 21 = .ok (.iconst 0, 1) := by decide +kernel
theorem dX12_between_22 : decode cX12_between 22 = .ok (.istore 7, 2) := by decide +kernel
theorem dX12_between_24 : decode cX12_between 24 = .ok (.iload 7, 2) := by decide +kernel
theorem dX12_between_26 : decode cX12_between 26 = .ok (.aload_n 0, 1) := by decide +kernel
theorem dX12_between_27 : decode cX12_between 27 = .ok (.getfield 130, 3) := by decide +kernel
theorem dX12_between_30 : decode cX12_between 30 = .ok (.if_icmp .ge 81, 3) := by decide +kernel
theorem dX12_between_33 : decode cX12_between 33 = .ok (.aload_n 0, 1) := by decide +kernel
theorem dX12_between_34 : decode cX12_between 34 = .ok (.getfield 13, 3) := by decide +kernel
theorem dX12_between_37 : decode cX12_between 37 = .ok (.iload 7, 2) := by decide +kernel
theorem dX12_between_39 : decode cX12_between 39 = .ok (.iaload, 1) := by decide +kernel
theorem dX12_between_40 : decode cX12_between 40 = .ok (.iload_n 2, 1) := by decide +kernel
theorem dX12_between_41 : decode cX12_between 41 = .ok (.iconst (-1), 1) := by decide +kernel
theorem dX12_between_42 : decode cX12_between 42 = .ok (.ixor, 1) := by decide +kernel
theorem dX12_between_43 : decode cX12_between 43 = .ok (.iand, 1) := by decide +kernel
theorem dX12_between_44 : decode cX12_between 44 = .ok (.ifCond .ne 36, 3) := by decide +kernel
theorem dX12_between_47 : decode cX12_between 47 = .ok (.aload_n 0, 1) := by decide +kernel
theorem dX12_between_48 : decode cX12_between 48 = .ok (.getfield 16, 3) := by decide +kernel
theorem dX12_between_51 : decode cX12_between 51 = .ok (.iload 7, 2) := by decide +kernel
theorem dX12_between_53 : decode cX12_between 53 = .ok (.iaload, 1) := by decide +kernel
theorem dX12_between_54 : decode cX12_between 54 = .ok (.aload_n 0, 1) := by decide +kernel
theorem dX12_between_55 : decode cX12_between 55 = .ok (.getfield 151, 3) := by decide +kernel
theorem dX12_between_58 : decode cX12_between 58 = .ok (.invokestatic 165, 3) := by decide +kernel
theorem dX12_between_61 : decode cX12_between 61 = .ok (.iload_n 3, 1) := by decide +kernel
theorem dX12_between_62 : decode cX12_between 62 = .ok (.if_icmp .lt 18, 3) := by decide +kernel
theorem dX12_between_65 : decode cX12_between 65 = .ok (.aload_n 0, 1) := by decide +kernel
theorem dX12_between_66 : decode cX12_between 66 = .ok (.iload 7, 2) := by decide +kernel
theorem dX12_between_68 : decode cX12_between 68 = .ok (.invokevirtual 147, 3) := by decide +kernel
theorem dX12_between_71 : decode cX12_between 71 = .ok (.iload 4, 2) := by decide +kernel
theorem dX12_between_73 : decode cX12_between 73 = .ok (.if_icmp .gt 7, 3) := by decide +kernel
theorem dX12_between_76 : decode cX12_between 76 = .ok (.iconst 1, 1) := by decide +kernel
theorem dX12_between_77 : decode cX12_between 77 = .ok (.goto 4, 3) := by decide +kernel
theorem dX12_between_80 : decode cX12_between 80 = .ok (.iconst 0, 1) := by decide +kernel
theorem dX12_between_81 : decode cX12_between 81 = .ok (.istore 8, 2) := by decide +kernel
theorem dX12_between_83 : decode cX12_between 83 = .ok (.aload_n 0, 1) := by decide +kernel
theorem dX12_between_84 : decode cX12_between 84 = .ok (.iload 7, 2) := by decide +kernel
theorem dX12_between_86 : decode cX12_between 86 = .ok (.iload_n 1, 1) := by decide +kernel
theorem dX12_between_87 : decode cX12_between 87 = .ok (.iload_n 2, 1) := by decide +kernel
theorem dX12_between_88 : decode cX12_between 88 = .ok (.iload_n 3, 1) := by decide +kernel
theorem dX12_between_89 : decode cX12_between 89 = .ok (.iload 4, 2) := by decide +kernel
theorem dX12_between_91 : decode cX12_between 91 = .ok (.invokevirtual 183, 3) := by decide +kernel
theorem dX12_between_94 : decode cX12_between 94 = .ok (.ifCond .eq 11, 3) := by decide +kernel
theorem dX12_between_97 : decode cX12_between 97 = .ok (.iload 8, 2) := by decide +kernel
theorem dX12_between_99 : decode cX12_between 99 = .ok (.ifCond .ne 6, 3) := by decide +kernel
theorem dX12_between_102 : decode cX12_between 102 = .ok (.bipush (-5), 2) := by decide +kernel
theorem dX12_between_104 : decode cX12_between 104 = .ok (.ireturn, 1) := by decide +kernel
theorem dX12_between_105 : decode cX12_between 105 = .ok (.iinc 7 1, 3) := by decide +kernel
theorem dX12_between_108 : decode cX12_between 108 = .ok (.goto (-84), 3) := by decide +kernel
theorem dX12_between_111 : decode cX12_between 111 = .ok (.aload_n 0, 1) := by decide +kernel
theorem dX12_between_112 : decode cX12_between 112 = .ok (.iload_n 1, 1) := by decide +kernel
theorem dX12_between_113 : decode cX12_between 113 = .ok (.iload_n 2, 1) := by decide +kernel
theorem dX12_between_114 : decode cX12_between 114 = .ok (.iload_n 3, 1) := by decide +kernel
theorem dX12_between_115 : decode cX12_between 115 = .ok (.iload 4, 2) := by decide +kernel
theorem dX12_between_117 : decode cX12_between 117 = .ok (.iload 5, 2) := by decide +kernel
theorem dX12_between_119 : decode cX12_between 119 = .ok (.iload_n 3, 1) := by decide +kernel
theorem dX12_between_120 : decode cX12_between 120 = .ok (.invokevirtual 161, 3) := by decide +kernel
theorem dX12_between_123 : decode cX12_between 123 = .ok (.istore 7, 2) := by decide +kernel
theorem dX12_between_125 : decode cX12_between 125 = .ok (.iconst 0, 1) := by decide +kernel
theorem dX12_between_126 : decode cX12_between 126 = .ok (.istore 8, 2) := by decide +kernel
theorem dX12_between_128 : decode cX12_between 128 = .ok (.iload 8, 2) := by decide +kernel
theorem dX12_between_130 : decode cX12_between 130 = .ok (.iload 7, 2) := by decide +kernel
theorem dX12_between_132 : decode cX12_between 132 = .ok (.if_icmp .ge 42, 3) := by decide +kernel
theorem dX12_between_135 : decode cX12_between 135 = .ok (.aload_n 0, 1) := by decide +kernel
theorem dX12_between_136 : decode cX12_between 136 = .ok (.getfield 7, 3) := by decide +kernel
theorem dX12_between_139 : decode cX12_between 139 = .ok (.iload 8, 2) := by decide +kernel
theorem dX12_between_141 : decode cX12_between 141 = .ok (.aload_n 0, 1) := by decide +kernel
theorem dX12_between_142 : decode cX12_between 142 = .ok (.iload 8, 2) := by decide +kernel
theorem dX12_between_144 : decode cX12_between 144 = .ok (.iload_n 1, 1) := by decide +kernel
theorem dX12_between_145 : decode cX12_between 145 = .ok (.iload_n 2, 1) := by decide +kernel
theorem dX12_between_146 : decode cX12_between 146 = .ok (.iload_n 3, 1) := by decide +kernel
theorem dX12_between_147 : decode cX12_between 147 = .ok (.iload 4, 2) := by decide +kernel
theorem dX12_between_149 : decode cX12_between 149 = .ok (.invokevirtual 183, 3) := by decide +kernel
theorem dX12_between_152 : decode cX12_between 152 = .ok (.ifCond .eq 8, 3) := by decide +kernel
theorem dX12_between_155 : decode cX12_between 155 = .ok (.iload 7, 2) := by decide +kernel
theorem dX12_between_157 : decode cX12_between 157 = .ok (.goto 10, 3) := by decide +kernel
theorem dX12_between_160 : decode cX12_between 160 = .ok (.aload_n 0, 1) := by decide +kernel
theorem dX12_between_161 : decode cX12_between 161 = .ok (.getfield 7, 3) := by decide +kernel
theorem dX12_between_164 : decode cX12_between 164 = .ok (.iload 8, 2) := by decide +kernel
theorem dX12_between_166 : decode cX12_between 166 = .ok (.iaload, 1) := by decide +kernel
theorem dX12_between_167 : decode cX12_between 167 = .ok (.iastore, 1) := by decide +kernel
theorem dX12_between_168 : decode cX12_between 168 = .ok (.iinc 8 1, 3) := by decide +kernel
theorem dX12_between_171 : decode cX12_between 171 = .ok (.goto (-43), 3) := by decide +kernel
theorem dX12_between_174 : decode cX12_between 174 = .ok (.iload 7, 2) := by decide +kernel
theorem dX12_between_176 : decode cX12_between 176 = .ok (.ireturn, 1) := by decide +kernel
def vb_X12_between_81 (k24 : Nat → Int32 → Int32 → Int32 → Int32 → Int32 → Int32 → mj_M → Prop) (post : Int32 → mj_M → Prop) (l0 : Nat) (l1 : Int32) (l2 : Int32) (l3 : Int32) (l4 : Int32) (l5 : Int32) (l7 : Int32) (s0 : Bool) (M : mj_M) : Prop := mj_tag M l0 = 13 ∧ vc_X12_isInWay l0 l7 l1 l2 l3 l4 M (fun r2 M3 => if r2 = true then (if s0 = true then (k24 l0 l1 l2 l3 l4 l5 (l7 + 1) M3) else (post ((-5)) M3)) else (k24 l0 l1 l2 l3 l4 l5 (l7 + 1) M3))
def vb_X12_between_80 (k24 : Nat → Int32 → Int32 → Int32 → Int32 → Int32 → Int32 → mj_M → Prop) (post : Int32 → mj_M → Prop) (l0 : Nat) (l1 : Int32) (l2 : Int32) (l3 : Int32) (l4 : Int32) (l5 : Int32) (l7 : Int32) (M : mj_M) : Prop := vb_X12_between_81 k24 post l0 l1 l2 l3 l4 l5 l7 false M
def vb_X12_between_128 (post : Int32 → mj_M → Prop) : Nat → Nat → Int32 → Int32 → Int32 → Int32 → Int32 → Int32 → mj_M → Prop
  | 0 => fun _ _ _ _ _ _ _ _ => False
  | f + 1 => fun l0 l1 l2 l3 l4 l7 l8 M => if l7 ≤ l8 then (post l7 M) else (mj_tag M l0 = 13 ∧ vc_X12_isInWay l0 l8 l1 l2 l3 l4 M (fun r8 M9 => if r8 = true then (mj_tag M9 (mj_r M l0 1) = 101 ∧ vp_in l8 (mj_len M9 (mj_r M l0 1)) ∧ vb_X12_between_128 post f l0 l1 l2 l3 l4 l7 (l8 + 1) (mj_wi M9 (mj_r M l0 1) (l8 : Int32).toNatClampNeg l7)) else (mj_tag M9 l0 = 13 ∧ mj_tag M9 (mj_r M9 l0 1) = 101 ∧ vp_in l8 (mj_len M9 (mj_r M9 l0 1)) ∧ mj_tag M9 (mj_r M l0 1) = 101 ∧ vp_in l8 (mj_len M9 (mj_r M l0 1)) ∧ vb_X12_between_128 post f l0 l1 l2 l3 l4 l7 (l8 + 1) (mj_wi M9 (mj_r M l0 1) (l8 : Int32).toNatClampNeg (mj_i M9 (mj_r M9 l0 1) (l8 : Int32).toNatClampNeg)))))
def vb_X12_between_24 (post : Int32 → mj_M → Prop) : Nat → Nat → Int32 → Int32 → Int32 → Int32 → Int32 → Int32 → mj_M → Prop
  | 0 => fun _ _ _ _ _ _ _ _ => False
  | f + 1 => fun l0 l1 l2 l3 l4 l5 l7 M => mj_tag M l0 = 13 ∧ if (mj_i M l0 13) ≤ l7 then (vc_X12_add l0 l1 l2 l3 l4 l5 l3 M (fun r20 M21 => ∃ fe, vb_X12_between_128 post fe l0 l1 l2 l3 l4 r20 0 M21)) else (mj_tag M (mj_r M l0 2) = 101 ∧ vp_in l7 (mj_len M (mj_r M l0 2)) ∧ if ((mj_i M (mj_r M l0 2) (l7 : Int32).toNatClampNeg) &&& (l2 ^^^ ((-1)))) = 0 then (mj_tag M (mj_r M l0 3) = 101 ∧ vp_in l7 (mj_len M (mj_r M l0 3)) ∧ vc_X12_greater (mj_i M (mj_r M l0 3) (l7 : Int32).toNatClampNeg) (mj_i M l0 0) M (fun r27 M28 => if r27 < l3 then (vb_X12_between_80 (vb_X12_between_24 post f) post l0 l1 l2 l3 l4 l5 l7 M28) else (mj_tag M28 l0 = 13 ∧ vc_X12_until l0 l7 M28 (fun r31 M32 => if l4 < r31 then (vb_X12_between_80 (vb_X12_between_24 post f) post l0 l1 l2 l3 l4 l5 l7 M32) else (vb_X12_between_81 (vb_X12_between_24 post f) post l0 l1 l2 l3 l4 l5 l7 true M32))))) else (vb_X12_between_80 (vb_X12_between_24 post f) post l0 l1 l2 l3 l4 l5 l7 M))
def vc_X12_between (l0 : Nat) (l1 : Int32) (l2 : Int32) (l3 : Int32) (l4 : Int32) (l5 : Int32) (M : mj_M) (post : Int32 → mj_M → Prop) : Prop := mj_tag M l0 = 13 ∧ vc_X12_whyNot l0 l1 l2 l3 l4 l5 M (fun r35 M36 => if 0 ≤ r35 then (∃ fe, vb_X12_between_24 post fe l0 l1 l2 l3 l4 l5 0 M36) else (post r35 M36))
set_option maxHeartbeats 4000000 in
set_option maxRecDepth 100000 in
theorem xb_X12_between_81 {g : mj_G} {post : Int32 → mj_M → Prop} (hC : mj_C g yX12_between cX12_between 9 (some .int) rm_X12_between) (hE : mj_E g mj_jI post 0 0) {k24 : Nat → Int32 → Int32 → Int32 → Int32 → Int32 → Int32 → mj_M → Prop} (hk24 : ∀ (l0 : Nat) (l1 : Int32) (l2 : Int32) (l3 : Int32) (l4 : Int32) (l5 : Int32) (l7 : Int32) (M : mj_M), k24 l0 l1 l2 l3 l4 l5 l7 M → mj_X g 24 [(0, vR l0), (1, vI l1), (2, vI l2), (3, vI l3), (4, vI l4), (5, vI l5), (7, vI l7)] [] M 0 0) (l0 : Nat) (l1 : Int32) (l2 : Int32) (l3 : Int32) (l4 : Int32) (l5 : Int32) (l7 : Int32) (s0 : Bool) (M : mj_M) (h : vb_X12_between_81 k24 post l0 l1 l2 l3 l4 l5 l7 s0 M) : mj_X g 81 [(0, vR l0), (1, vI l1), (2, vI l2), (3, vI l3), (4, vI l4), (5, vI l5), (7, vI l7)] [vI (mj_b s0)] M 0 0 := by
  simp only [vb_X12_between_81] at h
  refine mx_istore (L' := [(8, vI (mj_b s0)), (0, vR l0), (1, vI l1), (2, vI l2), (3, vI l3), (4, vI l4), (5, vI l5), (7, vI l7)]) hC dX12_between_81 (by decide) rfl ?_
  refine mx_aload_n (j := 1) hC dX12_between_83 rfl rfl ?_
  refine mx_iload (j := 7) hC dX12_between_84 rfl ?_
  refine mx_iload_n (j := 2) hC dX12_between_86 rfl rfl ?_
  refine mx_iload_n (j := 3) hC dX12_between_87 rfl rfl ?_
  refine mx_iload_n (j := 4) hC dX12_between_88 rfl rfl ?_
  refine mx_iload (j := 5) hC dX12_between_89 rfl ?_
  obtain ⟨ht1, h⟩ := h
  refine mx_callV (inj := mj_jB) (As := [vI l7, vI l1, vI l2, vI l3, vI l4]) (st := []) hC (ct_X12_isInWay l0 l7 l1 l2 l3 l4 M _ h) ty_X12_isInWay tw1419 ht1 rfl (Nat.le_of_ble_eq_true rfl) ⟨rfl, rfl, ⟨by decide, by decide⟩, by decide, by decide⟩ dX12_between_91 (fun r2 M3 h => ?_)
  show mj_X g 94 [(8, vI (mj_b s0)), (0, vR l0), (1, vI l1), (2, vI l2), (3, vI l3), (4, vI l4), (5, vI l5), (7, vI l7)] [vI (mj_b r2)] M3 0 0
  refine mx_ifeqB (tgt := 105) hC dX12_between_94 (by decide) (fun hc4 => ?_) (fun hc4 => ?_)
  · replace h := mj_nn hc4 h
    refine mx_iinc (j := 7) (v := l7 + 1) (L' := [(7, vI (l7 + 1)), (8, vI (mj_b s0)), (0, vR l0), (1, vI l1), (2, vI l2), (3, vI l3), (4, vI l4), (5, vI l5)]) hC dX12_between_105 rfl rfl (by decide) rfl ?_
    refine mx_goto (tgt := 24) hC dX12_between_108 (by decide) ?_
    refine mx_sub (L' := [(0, vR l0), (1, vI l1), (2, vI l2), (3, vI l3), (4, vI l4), (5, vI l5), (7, vI (l7 + 1))]) [2, 3, 4, 5, 6, 7, 0] rfl ?_
    exact show mj_X g 24 [(0, vR l0), (1, vI l1), (2, vI l2), (3, vI l3), (4, vI l4), (5, vI l5), (7, vI (l7 + 1))] [] M3 0 0 from (hk24 l0 l1 l2 l3 l4 l5 (l7 + 1) M3 h)
  · replace h := mj_yy hc4 h
    refine mx_iload (j := 0) hC dX12_between_97 rfl ?_
    refine mx_ifneB (tgt := 105) hC dX12_between_99 (by decide) (fun hc5 => ?_) (fun hc5 => ?_)
    · replace h := mj_yy hc5 h
      refine mx_iinc (j := 7) (v := l7 + 1) (L' := [(7, vI (l7 + 1)), (8, vI (mj_b s0)), (0, vR l0), (1, vI l1), (2, vI l2), (3, vI l3), (4, vI l4), (5, vI l5)]) hC dX12_between_105 rfl rfl (by decide) rfl ?_
      refine mx_goto (tgt := 24) hC dX12_between_108 (by decide) ?_
      refine mx_sub (L' := [(0, vR l0), (1, vI l1), (2, vI l2), (3, vI l3), (4, vI l4), (5, vI l5), (7, vI (l7 + 1))]) [2, 3, 4, 5, 6, 7, 0] rfl ?_
      exact show mj_X g 24 [(0, vR l0), (1, vI l1), (2, vI l2), (3, vI l3), (4, vI l4), (5, vI l5), (7, vI (l7 + 1))] [] M3 0 0 from (hk24 l0 l1 l2 l3 l4 l5 (l7 + 1) M3 h)
    · replace h := mj_nn hc5 h
      refine mx_bipush (v := (-5)) hC dX12_between_102 (by decide) ?_
      exact mx_iret hC hE rfl dX12_between_104 h
set_option maxHeartbeats 4000000 in
set_option maxRecDepth 100000 in
theorem xb_X12_between_80 {g : mj_G} {post : Int32 → mj_M → Prop} (hC : mj_C g yX12_between cX12_between 9 (some .int) rm_X12_between) (hE : mj_E g mj_jI post 0 0) {k24 : Nat → Int32 → Int32 → Int32 → Int32 → Int32 → Int32 → mj_M → Prop} (hk24 : ∀ (l0 : Nat) (l1 : Int32) (l2 : Int32) (l3 : Int32) (l4 : Int32) (l5 : Int32) (l7 : Int32) (M : mj_M), k24 l0 l1 l2 l3 l4 l5 l7 M → mj_X g 24 [(0, vR l0), (1, vI l1), (2, vI l2), (3, vI l3), (4, vI l4), (5, vI l5), (7, vI l7)] [] M 0 0) (l0 : Nat) (l1 : Int32) (l2 : Int32) (l3 : Int32) (l4 : Int32) (l5 : Int32) (l7 : Int32) (M : mj_M) (h : vb_X12_between_80 k24 post l0 l1 l2 l3 l4 l5 l7 M) : mj_X g 80 [(0, vR l0), (1, vI l1), (2, vI l2), (3, vI l3), (4, vI l4), (5, vI l5), (7, vI l7)] [] M 0 0 := by
  simp only [vb_X12_between_80] at h
  refine mx_iconst (v := 0) hC dX12_between_80 (by decide) ?_
  refine mx_sub (L' := [(0, vR l0), (1, vI l1), (2, vI l2), (3, vI l3), (4, vI l4), (5, vI l5), (7, vI l7)]) [0, 1, 2, 3, 4, 5, 6] rfl ?_
  exact show mj_X g 81 [(0, vR l0), (1, vI l1), (2, vI l2), (3, vI l3), (4, vI l4), (5, vI l5), (7, vI l7)] [vI (mj_b false)] M 0 0 from (xb_X12_between_81 hC hE hk24 l0 l1 l2 l3 l4 l5 l7 false M h)
set_option maxHeartbeats 4000000 in
set_option maxRecDepth 100000 in
theorem xb_X12_between_128 {g : mj_G} {post : Int32 → mj_M → Prop} (hC : mj_C g yX12_between cX12_between 9 (some .int) rm_X12_between) (hE : mj_E g mj_jI post 0 0) : ∀ (f : Nat) (l0 : Nat) (l1 : Int32) (l2 : Int32) (l3 : Int32) (l4 : Int32) (l7 : Int32) (l8 : Int32) (M : mj_M), vb_X12_between_128 post f l0 l1 l2 l3 l4 l7 l8 M → mj_X g 128 [(0, vR l0), (1, vI l1), (2, vI l2), (3, vI l3), (4, vI l4), (7, vI l7), (8, vI l8)] [] M 0 0 := by
  intro f
  induction f with
  | zero => exact fun _ _ _ _ _ _ _ _ h => absurd h (fun z => z)
  | succ f ih =>
    intro l0 l1 l2 l3 l4 l7 l8 M h
    simp only [vb_X12_between_128] at h
    refine mx_iload (j := 6) hC dX12_between_128 rfl ?_
    refine mx_iload (j := 5) hC dX12_between_130 rfl ?_
    refine mx_icmpge (tgt := 174) hC dX12_between_132 (by decide) (fun hc6 => ?_) (fun hc6 => ?_)
    · replace h := mj_yy hc6 h
      refine mx_iload (j := 5) hC dX12_between_174 rfl ?_
      exact mx_iret hC hE rfl dX12_between_176 h
    · replace h := mj_nn hc6 h
      refine mx_aload_n (j := 0) hC dX12_between_135 rfl rfl ?_
      obtain ⟨ht7, h⟩ := h
      refine mx_get (v := vR (mj_r M l0 1)) hC tf_X12_7 ht7 rfl dX12_between_136 ?_
      refine mx_iload (j := 6) hC dX12_between_139 rfl ?_
      refine mx_aload_n (j := 0) hC dX12_between_141 rfl rfl ?_
      refine mx_iload (j := 6) hC dX12_between_142 rfl ?_
      refine mx_iload_n (j := 1) hC dX12_between_144 rfl rfl ?_
      refine mx_iload_n (j := 2) hC dX12_between_145 rfl rfl ?_
      refine mx_iload_n (j := 3) hC dX12_between_146 rfl rfl ?_
      refine mx_iload (j := 4) hC dX12_between_147 rfl ?_
      refine mx_callV (inj := mj_jB) (As := [vI l8, vI l1, vI l2, vI l3, vI l4]) (st := [vI l8, vR (mj_r M l0 1)]) hC (ct_X12_isInWay l0 l8 l1 l2 l3 l4 M _ h) ty_X12_isInWay tw1419 ht7 rfl (Nat.le_of_ble_eq_true rfl) ⟨rfl, rfl, ⟨by decide, by decide⟩, by decide, by decide⟩ dX12_between_149 (fun r8 M9 h => ?_)
      show mj_X g 152 [(0, vR l0), (1, vI l1), (2, vI l2), (3, vI l3), (4, vI l4), (7, vI l7), (8, vI l8)] [vI (mj_b r8), vI l8, vR (mj_r M l0 1)] M9 0 0
      refine mx_ifeqB (tgt := 160) hC dX12_between_152 (by decide) (fun hc10 => ?_) (fun hc10 => ?_)
      · replace h := mj_nn hc10 h
        refine mx_aload_n (j := 0) hC dX12_between_160 rfl rfl ?_
        obtain ⟨ht11, h⟩ := h
        refine mx_get (v := vR (mj_r M9 l0 1)) hC tf_X12_7 ht11 rfl dX12_between_161 ?_
        refine mx_iload (j := 6) hC dX12_between_164 rfl ?_
        obtain ⟨ht12, h⟩ := h
        obtain ⟨hi13, h⟩ := h
        refine mx_iaload hC ht12 hi13 dX12_between_166 ?_
        obtain ⟨ht14, h⟩ := h
        obtain ⟨hi15, h⟩ := h
        refine mx_iastore hC ht14 hi15 dX12_between_167 ?_
        refine mx_iinc (j := 6) (v := l8 + 1) (L' := [(8, vI (l8 + 1)), (0, vR l0), (1, vI l1), (2, vI l2), (3, vI l3), (4, vI l4), (7, vI l7)]) hC dX12_between_168 rfl rfl (by decide) rfl ?_
        refine mx_goto (tgt := 128) hC dX12_between_171 (by decide) ?_
        refine mx_sub (L' := [(0, vR l0), (1, vI l1), (2, vI l2), (3, vI l3), (4, vI l4), (7, vI l7), (8, vI (l8 + 1))]) [1, 2, 3, 4, 5, 6, 0] rfl ?_
        exact show mj_X g 128 [(0, vR l0), (1, vI l1), (2, vI l2), (3, vI l3), (4, vI l4), (7, vI l7), (8, vI (l8 + 1))] [] (mj_wi M9 (mj_r M l0 1) (l8 : Int32).toNatClampNeg (mj_i M9 (mj_r M9 l0 1) (l8 : Int32).toNatClampNeg)) 0 0 from (ih l0 l1 l2 l3 l4 l7 (l8 + 1) (mj_wi M9 (mj_r M l0 1) (l8 : Int32).toNatClampNeg (mj_i M9 (mj_r M9 l0 1) (l8 : Int32).toNatClampNeg)) h)
      · replace h := mj_yy hc10 h
        refine mx_iload (j := 5) hC dX12_between_155 rfl ?_
        refine mx_goto (tgt := 167) hC dX12_between_157 (by decide) ?_
        obtain ⟨ht16, h⟩ := h
        obtain ⟨hi17, h⟩ := h
        refine mx_iastore hC ht16 hi17 dX12_between_167 ?_
        refine mx_iinc (j := 6) (v := l8 + 1) (L' := [(8, vI (l8 + 1)), (0, vR l0), (1, vI l1), (2, vI l2), (3, vI l3), (4, vI l4), (7, vI l7)]) hC dX12_between_168 rfl rfl (by decide) rfl ?_
        refine mx_goto (tgt := 128) hC dX12_between_171 (by decide) ?_
        refine mx_sub (L' := [(0, vR l0), (1, vI l1), (2, vI l2), (3, vI l3), (4, vI l4), (7, vI l7), (8, vI (l8 + 1))]) [1, 2, 3, 4, 5, 6, 0] rfl ?_
        exact show mj_X g 128 [(0, vR l0), (1, vI l1), (2, vI l2), (3, vI l3), (4, vI l4), (7, vI l7), (8, vI (l8 + 1))] [] (mj_wi M9 (mj_r M l0 1) (l8 : Int32).toNatClampNeg l7) 0 0 from (ih l0 l1 l2 l3 l4 l7 (l8 + 1) (mj_wi M9 (mj_r M l0 1) (l8 : Int32).toNatClampNeg l7) h)
set_option maxHeartbeats 4000000 in
set_option maxRecDepth 100000 in
theorem xb_X12_between_24 {g : mj_G} {post : Int32 → mj_M → Prop} (hC : mj_C g yX12_between cX12_between 9 (some .int) rm_X12_between) (hE : mj_E g mj_jI post 0 0) : ∀ (f : Nat) (l0 : Nat) (l1 : Int32) (l2 : Int32) (l3 : Int32) (l4 : Int32) (l5 : Int32) (l7 : Int32) (M : mj_M), vb_X12_between_24 post f l0 l1 l2 l3 l4 l5 l7 M → mj_X g 24 [(0, vR l0), (1, vI l1), (2, vI l2), (3, vI l3), (4, vI l4), (5, vI l5), (7, vI l7)] [] M 0 0 := by
  intro f
  induction f with
  | zero => exact fun _ _ _ _ _ _ _ _ h => absurd h (fun z => z)
  | succ f ih =>
    intro l0 l1 l2 l3 l4 l5 l7 M h
    simp only [vb_X12_between_24] at h
    refine mx_iload (j := 6) hC dX12_between_24 rfl ?_
    refine mx_aload_n (j := 0) hC dX12_between_26 rfl rfl ?_
    obtain ⟨ht18, h⟩ := h
    refine mx_get (v := vI (mj_i M l0 13)) hC tf_X12_130 ht18 rfl dX12_between_27 ?_
    refine mx_icmpge (tgt := 111) hC dX12_between_30 (by decide) (fun hc19 => ?_) (fun hc19 => ?_)
    · replace h := mj_yy hc19 h
      refine mx_aload_n (j := 0) hC dX12_between_111 rfl rfl ?_
      refine mx_iload_n (j := 1) hC dX12_between_112 rfl rfl ?_
      refine mx_iload_n (j := 2) hC dX12_between_113 rfl rfl ?_
      refine mx_iload_n (j := 3) hC dX12_between_114 rfl rfl ?_
      refine mx_iload (j := 4) hC dX12_between_115 rfl ?_
      refine mx_iload (j := 5) hC dX12_between_117 rfl ?_
      refine mx_iload_n (j := 3) hC dX12_between_119 rfl rfl ?_
      refine mx_callV (inj := mj_jI) (As := [vI l1, vI l2, vI l3, vI l4, vI l5, vI l3]) (st := []) hC (ct_X12_add l0 l1 l2 l3 l4 l5 l3 M _ h) ty_X12_add tw1395 ht18 rfl (Nat.le_of_ble_eq_true rfl) ⟨rfl, rfl, ⟨by decide, by decide⟩, by decide, by decide⟩ dX12_between_120 (fun r20 M21 h => ?_)
      show mj_X g 123 [(0, vR l0), (1, vI l1), (2, vI l2), (3, vI l3), (4, vI l4), (5, vI l5), (7, vI l7)] [vI r20] M21 0 0
      refine mx_istore (L' := [(7, vI r20), (0, vR l0), (1, vI l1), (2, vI l2), (3, vI l3), (4, vI l4), (5, vI l5)]) hC dX12_between_123 (by decide) rfl ?_
      refine mx_iconst (v := 0) hC dX12_between_125 (by decide) ?_
      refine mx_istore (L' := [(8, vI 0), (7, vI r20), (0, vR l0), (1, vI l1), (2, vI l2), (3, vI l3), (4, vI l4), (5, vI l5)]) hC dX12_between_126 (by decide) rfl ?_
      refine mx_sub (L' := [(0, vR l0), (1, vI l1), (2, vI l2), (3, vI l3), (4, vI l4), (7, vI r20), (8, vI 0)]) [2, 3, 4, 5, 6, 1, 0] rfl ?_
      obtain ⟨fe, h⟩ := h
      exact show mj_X g 128 [(0, vR l0), (1, vI l1), (2, vI l2), (3, vI l3), (4, vI l4), (7, vI r20), (8, vI 0)] [] M21 0 0 from (xb_X12_between_128 hC hE fe l0 l1 l2 l3 l4 r20 0 M21 h)
    · replace h := mj_nn hc19 h
      refine mx_aload_n (j := 0) hC dX12_between_33 rfl rfl ?_
      refine mx_get (v := vR (mj_r M l0 2)) hC tf_X12_13 ht18 rfl dX12_between_34 ?_
      refine mx_iload (j := 6) hC dX12_between_37 rfl ?_
      obtain ⟨ht22, h⟩ := h
      obtain ⟨hi23, h⟩ := h
      refine mx_iaload hC ht22 hi23 dX12_between_39 ?_
      refine mx_iload_n (j := 2) hC dX12_between_40 rfl rfl ?_
      refine mx_iconst (v := (-1)) hC dX12_between_41 (by decide) ?_
      refine mx_ixor hC dX12_between_42 ?_
      refine mx_iand hC dX12_between_43 ?_
      refine mx_ifne (tgt := 80) hC dX12_between_44 (by decide) (fun hc24 => ?_) (fun hc24 => ?_)
      · replace h := mj_nn hc24 h
        refine mx_sub (L' := [(0, vR l0), (1, vI l1), (2, vI l2), (3, vI l3), (4, vI l4), (5, vI l5), (7, vI l7)]) [0, 1, 2, 3, 4, 5, 6] rfl ?_
        exact show mj_X g 80 [(0, vR l0), (1, vI l1), (2, vI l2), (3, vI l3), (4, vI l4), (5, vI l5), (7, vI l7)] [] M 0 0 from (xb_X12_between_80 hC hE ih l0 l1 l2 l3 l4 l5 l7 M h)
      · replace h := mj_yy hc24 h
        refine mx_aload_n (j := 0) hC dX12_between_47 rfl rfl ?_
        refine mx_get (v := vR (mj_r M l0 3)) hC tf_X12_16 ht18 rfl dX12_between_48 ?_
        refine mx_iload (j := 6) hC dX12_between_51 rfl ?_
        obtain ⟨ht25, h⟩ := h
        obtain ⟨hi26, h⟩ := h
        refine mx_iaload hC ht25 hi26 dX12_between_53 ?_
        refine mx_aload_n (j := 0) hC dX12_between_54 rfl rfl ?_
        refine mx_get (v := vI (mj_i M l0 0)) hC tf_X12_151 ht18 rfl dX12_between_55 ?_
        refine mx_callS (inj := mj_jI) (As := [vI (mj_i M (mj_r M l0 3) (l7 : Int32).toNatClampNeg), vI (mj_i M l0 0)]) (st := []) hC (ct_X12_greater (mj_i M (mj_r M l0 3) (l7 : Int32).toNatClampNeg) (mj_i M l0 0) M _ h) ty_X12_greater tw1426 rfl (Nat.le_of_ble_eq_true rfl) ⟨rfl, rfl, ⟨by decide, by decide⟩, by decide, by decide⟩ dX12_between_58 (fun r27 M28 h => ?_)
        show mj_X g 61 [(0, vR l0), (1, vI l1), (2, vI l2), (3, vI l3), (4, vI l4), (5, vI l5), (7, vI l7)] [vI r27] M28 0 0
        refine mx_iload_n (j := 3) hC dX12_between_61 rfl rfl ?_
        refine mx_icmplt (tgt := 80) hC dX12_between_62 (by decide) (fun hc29 => ?_) (fun hc29 => ?_)
        · replace h := mj_yy hc29 h
          refine mx_sub (L' := [(0, vR l0), (1, vI l1), (2, vI l2), (3, vI l3), (4, vI l4), (5, vI l5), (7, vI l7)]) [0, 1, 2, 3, 4, 5, 6] rfl ?_
          exact show mj_X g 80 [(0, vR l0), (1, vI l1), (2, vI l2), (3, vI l3), (4, vI l4), (5, vI l5), (7, vI l7)] [] M28 0 0 from (xb_X12_between_80 hC hE ih l0 l1 l2 l3 l4 l5 l7 M28 h)
        · replace h := mj_nn hc29 h
          refine mx_aload_n (j := 0) hC dX12_between_65 rfl rfl ?_
          refine mx_iload (j := 6) hC dX12_between_66 rfl ?_
          obtain ⟨ht30, h⟩ := h
          refine mx_callV (inj := mj_jI) (As := [vI l7]) (st := []) hC (ct_X12_until l0 l7 M28 _ h) ty_X12_until tw1415 ht30 rfl (Nat.le_of_ble_eq_true rfl) ⟨rfl, rfl, ⟨by decide, by decide⟩, by decide, by decide⟩ dX12_between_68 (fun r31 M32 h => ?_)
          show mj_X g 71 [(0, vR l0), (1, vI l1), (2, vI l2), (3, vI l3), (4, vI l4), (5, vI l5), (7, vI l7)] [vI r31] M32 0 0
          refine mx_iload (j := 4) hC dX12_between_71 rfl ?_
          refine mx_icmpgt (tgt := 80) hC dX12_between_73 (by decide) (fun hc33 => ?_) (fun hc33 => ?_)
          · replace h := mj_yy hc33 h
            refine mx_sub (L' := [(0, vR l0), (1, vI l1), (2, vI l2), (3, vI l3), (4, vI l4), (5, vI l5), (7, vI l7)]) [0, 1, 2, 3, 4, 5, 6] rfl ?_
            exact show mj_X g 80 [(0, vR l0), (1, vI l1), (2, vI l2), (3, vI l3), (4, vI l4), (5, vI l5), (7, vI l7)] [] M32 0 0 from (xb_X12_between_80 hC hE ih l0 l1 l2 l3 l4 l5 l7 M32 h)
          · replace h := mj_nn hc33 h
            refine mx_iconst (v := 1) hC dX12_between_76 (by decide) ?_
            refine mx_goto (tgt := 81) hC dX12_between_77 (by decide) ?_
            refine mx_sub (L' := [(0, vR l0), (1, vI l1), (2, vI l2), (3, vI l3), (4, vI l4), (5, vI l5), (7, vI l7)]) [0, 1, 2, 3, 4, 5, 6] rfl ?_
            exact show mj_X g 81 [(0, vR l0), (1, vI l1), (2, vI l2), (3, vI l3), (4, vI l4), (5, vI l5), (7, vI l7)] [vI (mj_b true)] M32 0 0 from (xb_X12_between_81 hC hE ih l0 l1 l2 l3 l4 l5 l7 true M32 h)
set_option maxHeartbeats 4000000 in
set_option maxRecDepth 100000 in
theorem ct_X12_between {l : Launch} {base : Nat} {D : va_G} {A : ClassId × ClassId × ClassId} (l0 : Nat) (l1 : Int32) (l2 : Int32) (l3 : Int32) (l4 : Int32) (l5 : Int32) (M : mj_M) (post : Int32 → mj_M → Prop) (h : vc_X12_between l0 l1 l2 l3 l4 l5 M post) : mj_Met l base D A mj_jI yX12_between cX12_between 9 (some .int) rm_X12_between 0 0 [vR l0, vI l1, vI l2, vI l3, vI l4, vI l5] M post := by
  refine mj_entry (by decide +kernel) (Nat.le_of_ble_eq_true rfl) (fun g hC hE h1 h2 h3 h4 => ?_)
  show mj_X g 0 [(0, vR l0), (1, vI l1), (2, vI l2), (3, vI l3), (4, vI l4), (5, vI l5)] [] M 0 0
  simp only [vc_X12_between] at h
  refine mx_aload_n (j := 0) hC dX12_between_0 rfl rfl ?_
  refine mx_iload_n (j := 1) hC dX12_between_1 rfl rfl ?_
  refine mx_iload_n (j := 2) hC dX12_between_2 rfl rfl ?_
  refine mx_iload_n (j := 3) hC dX12_between_3 rfl rfl ?_
  refine mx_iload (j := 4) hC dX12_between_4 rfl ?_
  refine mx_iload (j := 5) hC dX12_between_6 rfl ?_
  obtain ⟨ht34, h⟩ := h
  refine mx_callV (inj := mj_jI) (As := [vI l1, vI l2, vI l3, vI l4, vI l5]) (st := []) hC (ct_X12_whyNot l0 l1 l2 l3 l4 l5 M _ h) ty_X12_whyNot tw1403 ht34 rfl (Nat.le_of_ble_eq_true rfl) ⟨rfl, rfl, ⟨by decide, by decide⟩, by decide, by decide⟩ dX12_between_8 (fun r35 M36 h => ?_)
  show mj_X g 11 [(0, vR l0), (1, vI l1), (2, vI l2), (3, vI l3), (4, vI l4), (5, vI l5)] [vI r35] M36 0 0
  refine mx_istore (L' := [(6, vI r35), (0, vR l0), (1, vI l1), (2, vI l2), (3, vI l3), (4, vI l4), (5, vI l5)]) hC dX12_between_11 (by decide) rfl ?_
  refine mx_iload (j := 0) hC dX12_between_13 rfl ?_
  refine mx_ifge (tgt := 21) hC dX12_between_15 (by decide) (fun hc37 => ?_) (fun hc37 => ?_)
  · replace h := mj_yy hc37 h
    refine mx_iconst (v := 0) hC dX12_between_21 (by decide) ?_
    refine mx_istore (L' := [(7, vI 0), (6, vI r35), (0, vR l0), (1, vI l1), (2, vI l2), (3, vI l3), (4, vI l4), (5, vI l5)]) hC dX12_between_22 (by decide) rfl ?_
    refine mx_sub (L' := [(0, vR l0), (1, vI l1), (2, vI l2), (3, vI l3), (4, vI l4), (5, vI l5), (7, vI 0)]) [2, 3, 4, 5, 6, 7, 0] rfl ?_
    obtain ⟨fe, h⟩ := h
    exact show mj_X g 24 [(0, vR l0), (1, vI l1), (2, vI l2), (3, vI l3), (4, vI l4), (5, vI l5), (7, vI 0)] [] M36 0 0 from (xb_X12_between_24 hC hE fe l0 l1 l2 l3 l4 l5 0 M36 h)
  · replace h := mj_nn hc37 h
    refine mx_iload (j := 0) hC dX12_between_18 rfl ?_
    exact mx_iret hC hE rfl dX12_between_20 h
theorem tw1440 : (Jvm.Cond.methodLink "LeaseLandModel" (187 : Nat) ({ cls := "LeaseLandModel", name := "isOn", desc := "(II)Z" } : Jvm.MethodName)) ∈ mj_tbl := mj_w 1493 (by decide +kernel) (by decide +kernel)
theorem tw1443 : (Jvm.Cond.code ({ cls := "LeaseLandModel", name := "isOn", desc := "(II)Z" } : Jvm.MethodName) prog_14_method_11_code (3 : Nat) (Option.some Jvm.ClassFile.FieldType.boolean)) ∈ mj_tbl := mj_w 1496 (by decide +kernel) (by decide +kernel)
theorem tw1442 : (Jvm.Cond.instanceMethod ({ cls := "LeaseLandModel", name := "isOn", desc := "(II)Z" } : Jvm.MethodName)) ∈ mj_tbl := mj_w 1495 (by decide +kernel) (by decide +kernel)
theorem ty_X12_isOn : mj_YV 12 yX12_isOn cX12_isOn 3 (some .boolean) 2 := ⟨⟨tw1443, tw11, by decide +kernel, by decide +kernel, by decide +kernel⟩, tw1442, mj_w 12 (by decide +kernel) (by decide +kernel), _, rfl, rfl⟩
def rm_X12_sell : Room := { frames := 2, cells := 0, slots := 0, locals := 46 }
theorem dX12_sell_0 : decode cX12_sell 0 = .ok (.aload_n 0, 1) := by decide +kernel
theorem dX12_sell_1 : decode cX12_sell 1 = .ok (.iload_n 1, 1) := by decide +kernel
theorem dX12_sell_2 : decode cX12_sell 2 = .ok (.invokevirtual 137, 3) := by decide +kernel
theorem dX12_sell_5 : decode cX12_sell 5 = .ok (.ifCond .eq 10, 3) := by decide +kernel
theorem dX12_sell_8 : decode cX12_sell 8 = .ok (.iload_n 2, 1) := by decide +kernel
theorem dX12_sell_9 : decode cX12_sell 9 = .ok (.invokestatic 154, 3) := by decide +kernel
theorem dX12_sell_12 : decode cX12_sell 12 = .ok (.ifCond .ne 5, 3) := by decide +kernel
theorem dX12_sell_15 : decode cX12_sell 15 = .ok (.iconst (-1), 1) := by decide +kernel
theorem dX12_sell_16 : decode cX12_sell 16 = .ok (.ireturn, 1) := by decide +kernel
theorem dX12_sell_17 : decode cX12_sell 17 = .ok (.aload_n 0, 1) := by decide +kernel
theorem dX12_sell_18 : decode cX12_sell 18 = .ok (.iload_n 1, 1) := by decide +kernel
theorem dX12_sell_19 : decode cX12_sell 19 = .ok (.aload_n 0, 1) := by decide +kernel
theorem dX12_sell_20 : decode cX12_sell 20 = .ok (.getfield 151, 3) := by decide +kernel
theorem dX12_sell_23 : decode cX12_sell 23 = .ok (.invokevirtual 187, 3) := by decide +kernel
theorem dX12_sell_26 : decode cX12_sell 26 = .ok (.ifCond .ne 6, 3) := by decide +kernel
theorem dX12_sell_29 : decode cX12_sell 29 = .ok (.bipush (-3), 2) := by decide +kernel
theorem dX12_sell_31 : decode cX12_sell 31 = .ok (.ireturn, 1) := by decide +kernel
theorem dX12_sell_32 : decode cX12_sell 32 = .ok (.aload_n 0, 1) := by decide +kernel
theorem dX12_sell_33 : decode cX12_sell 33 = .ok (.getfield 28, 3) := by decide +kernel
theorem dX12_sell_36 : decode cX12_sell 36 = .ok (.iload_n 1, 1) := by decide +kernel
theorem dX12_sell_37 : decode cX12_sell 37 = .ok (.iaload, 1) := by decide +kernel
theorem dX12_sell_38 : decode cX12_sell 38 = .ok (.istore_n 3, 1) := by decide +kernel
theorem dX12_sell_39 : decode cX12_sell 39 = .ok (.aload_n 0, 1) := by decide +kernel
theorem dX12_sell_40 : decode cX12_sell 40 = .ok (.getfield 28, 3) := by decide +kernel
theorem dX12_sell_43 : decode cX12_sell 43 = .ok (.iload_n 1, 1) := by decide +kernel
theorem dX12_sell_44 : decode cX12_sell 44 = .ok (.iload_n 2, 1) := by decide +kernel
theorem dX12_sell_45 : decode cX12_sell 45 = .ok (.iastore, 1) := by decide +kernel
theorem dX12_sell_46 : decode cX12_sell 46 = .ok (.aload_n 0, 1) := by decide +kernel
theorem dX12_sell_47 : decode cX12_sell 47 = .ok (.getfield 31, 3) := by decide +kernel
theorem dX12_sell_50 : decode cX12_sell 50 = .ok (.iload_n 1, 1) := by decide +kernel
theorem dX12_sell_51 : decode cX12_sell 51 = .ok (.aload_n 0, 1) := by decide +kernel
theorem dX12_sell_52 : decode cX12_sell 52 = .ok (.getfield 151, 3) := by decide +kernel
theorem dX12_sell_55 : decode cX12_sell 55 = .ok (.iastore, 1) := by decide +kernel
theorem dX12_sell_56 : decode cX12_sell 56 = .ok (.iload_n 3, 1) := by decide +kernel
theorem dX12_sell_57 : decode cX12_sell 57 = .ok (.ireturn, 1) := by decide +kernel
def vc_X12_sell (l0 : Nat) (l1 : Int32) (l2 : Int32) (M : mj_M) (post : Int32 → mj_M → Prop) : Prop := mj_tag M l0 = 13 ∧ vc_X12_isHolding l0 l1 M (fun r2 M3 => if r2 = true then (vc_X12_isPerson l2 M3 (fun r5 M6 => if r5 = true then (mj_tag M6 l0 = 13 ∧ vc_X12_isOn l0 l1 (mj_i M6 l0 0) M6 (fun r9 M10 => if r9 = true then (mj_tag M10 l0 = 13 ∧ mj_tag M10 (mj_r M10 l0 7) = 101 ∧ vp_in l1 (mj_len M10 (mj_r M10 l0 7)) ∧ mj_tag M10 (mj_r M10 l0 8) = 101 ∧ vp_in l1 (mj_len M10 (mj_r M10 l0 8)) ∧ post (mj_i M10 (mj_r M10 l0 7) (l1 : Int32).toNatClampNeg) (mj_wi (mj_wi M10 (mj_r M10 l0 7) (l1 : Int32).toNatClampNeg l2) (mj_r M10 l0 8) (l1 : Int32).toNatClampNeg (mj_i (mj_wi M10 (mj_r M10 l0 7) (l1 : Int32).toNatClampNeg l2) l0 0))) else (post ((-3)) M10))) else (post ((-1)) M6))) else (post ((-1)) M3))
set_option maxHeartbeats 4000000 in
set_option maxRecDepth 100000 in
theorem ct_X12_sell {l : Launch} {base : Nat} {D : va_G} {A : ClassId × ClassId × ClassId} (l0 : Nat) (l1 : Int32) (l2 : Int32) (M : mj_M) (post : Int32 → mj_M → Prop) (h : vc_X12_sell l0 l1 l2 M post) : mj_Met l base D A mj_jI yX12_sell cX12_sell 4 (some .int) rm_X12_sell 0 0 [vR l0, vI l1, vI l2] M post := by
  refine mj_entry (by decide +kernel) (Nat.le_of_ble_eq_true rfl) (fun g hC hE h1 h2 h3 h4 => ?_)
  show mj_X g 0 [(0, vR l0), (1, vI l1), (2, vI l2)] [] M 0 0
  simp only [vc_X12_sell] at h
  refine mx_aload_n (j := 0) hC dX12_sell_0 rfl rfl ?_
  refine mx_iload_n (j := 1) hC dX12_sell_1 rfl rfl ?_
  obtain ⟨ht1, h⟩ := h
  refine mx_callV (inj := mj_jB) (As := [vI l1]) (st := []) hC (ct_X12_isHolding l0 l1 M _ h) ty_X12_isHolding tw1407 ht1 rfl (Nat.le_of_ble_eq_true rfl) ⟨rfl, rfl, ⟨by decide, by decide⟩, by decide, by decide⟩ dX12_sell_2 (fun r2 M3 h => ?_)
  show mj_X g 5 [(0, vR l0), (1, vI l1), (2, vI l2)] [vI (mj_b r2)] M3 0 0
  refine mx_ifeqB (tgt := 15) hC dX12_sell_5 (by decide) (fun hc4 => ?_) (fun hc4 => ?_)
  · replace h := mj_nn hc4 h
    refine mx_iconst (v := (-1)) hC dX12_sell_15 (by decide) ?_
    exact mx_iret hC hE rfl dX12_sell_16 h
  · replace h := mj_yy hc4 h
    refine mx_iload_n (j := 2) hC dX12_sell_8 rfl rfl ?_
    refine mx_callS (inj := mj_jB) (As := [vI l2]) (st := []) hC (ct_X12_isPerson l2 M3 _ h) ty_X12_isPerson tw1386 rfl (Nat.le_of_ble_eq_true rfl) ⟨rfl, rfl, ⟨by decide, by decide⟩, by decide, by decide⟩ dX12_sell_9 (fun r5 M6 h => ?_)
    show mj_X g 12 [(0, vR l0), (1, vI l1), (2, vI l2)] [vI (mj_b r5)] M6 0 0
    refine mx_ifneB (tgt := 17) hC dX12_sell_12 (by decide) (fun hc7 => ?_) (fun hc7 => ?_)
    · replace h := mj_yy hc7 h
      refine mx_aload_n (j := 0) hC dX12_sell_17 rfl rfl ?_
      refine mx_iload_n (j := 1) hC dX12_sell_18 rfl rfl ?_
      refine mx_aload_n (j := 0) hC dX12_sell_19 rfl rfl ?_
      obtain ⟨ht8, h⟩ := h
      refine mx_get (v := vI (mj_i M6 l0 0)) hC tf_X12_151 ht8 rfl dX12_sell_20 ?_
      refine mx_callV (inj := mj_jB) (As := [vI l1, vI (mj_i M6 l0 0)]) (st := []) hC (ct_X12_isOn l0 l1 (mj_i M6 l0 0) M6 _ h) ty_X12_isOn tw1440 ht8 rfl (Nat.le_of_ble_eq_true rfl) ⟨rfl, rfl, ⟨by decide, by decide⟩, by decide, by decide⟩ dX12_sell_23 (fun r9 M10 h => ?_)
      show mj_X g 26 [(0, vR l0), (1, vI l1), (2, vI l2)] [vI (mj_b r9)] M10 0 0
      refine mx_ifneB (tgt := 32) hC dX12_sell_26 (by decide) (fun hc11 => ?_) (fun hc11 => ?_)
      · replace h := mj_yy hc11 h
        refine mx_aload_n (j := 0) hC dX12_sell_32 rfl rfl ?_
        obtain ⟨ht12, h⟩ := h
        refine mx_get (v := vR (mj_r M10 l0 7)) hC tf_X12_28 ht12 rfl dX12_sell_33 ?_
        refine mx_iload_n (j := 1) hC dX12_sell_36 rfl rfl ?_
        obtain ⟨ht13, h⟩ := h
        obtain ⟨hi14, h⟩ := h
        refine mx_iaload hC ht13 hi14 dX12_sell_37 ?_
        refine mx_istore_n (L' := [(3, vI (mj_i M10 (mj_r M10 l0 7) (l1 : Int32).toNatClampNeg)), (0, vR l0), (1, vI l1), (2, vI l2)]) hC dX12_sell_38 rfl (by decide) rfl ?_
        refine mx_aload_n (j := 1) hC dX12_sell_39 rfl rfl ?_
        refine mx_get (v := vR (mj_r M10 l0 7)) hC tf_X12_28 ht12 rfl dX12_sell_40 ?_
        refine mx_iload_n (j := 2) hC dX12_sell_43 rfl rfl ?_
        refine mx_iload_n (j := 3) hC dX12_sell_44 rfl rfl ?_
        refine mx_iastore hC ht13 hi14 dX12_sell_45 ?_
        refine mx_aload_n (j := 1) hC dX12_sell_46 rfl rfl ?_
        refine mx_get (v := vR (mj_r M10 l0 8)) hC tf_X12_31 ht12 rfl dX12_sell_47 ?_
        refine mx_iload_n (j := 2) hC dX12_sell_50 rfl rfl ?_
        refine mx_aload_n (j := 1) hC dX12_sell_51 rfl rfl ?_
        refine mx_get (v := vI (mj_i (mj_wi M10 (mj_r M10 l0 7) (l1 : Int32).toNatClampNeg l2) l0 0)) hC tf_X12_151 ht12 rfl dX12_sell_52 ?_
        obtain ⟨ht15, h⟩ := h
        obtain ⟨hi16, h⟩ := h
        refine mx_iastore hC ht15 hi16 dX12_sell_55 ?_
        refine mx_iload_n (j := 0) hC dX12_sell_56 rfl rfl ?_
        exact mx_iret hC hE rfl dX12_sell_57 h
      · replace h := mj_nn hc11 h
        refine mx_bipush (v := (-3)) hC dX12_sell_29 (by decide) ?_
        exact mx_iret hC hE rfl dX12_sell_31 h
    · replace h := mj_nn hc7 h
      refine mx_iconst (v := (-1)) hC dX12_sell_15 (by decide) ?_
      exact mx_iret hC hE rfl dX12_sell_16 h
def rm_X12_weightOf : Room := { frames := 0, cells := 0, slots := 0, locals := 0 }
theorem dX12_weightOf_0 : decode cX12_weightOf 0 = .ok (.iconst 0, 1) := by decide +kernel
theorem dX12_weightOf_1 : decode cX12_weightOf 1 = .ok (.istore_n 2, 1) := by decide +kernel
theorem dX12_weightOf_2 : decode cX12_weightOf 2 = .ok (.iconst 0, 1) := by decide +kernel
theorem dX12_weightOf_3 : decode cX12_weightOf 3 = .ok (.istore_n 3, 1) := by decide +kernel
theorem dX12_weightOf_4 : decode cX12_weightOf 4 = .ok (.iload_n 3, 1) := by decide +kernel
theorem dX12_weightOf_5 : decode cX12_weightOf 5 = .ok (.bipush 12, 2) := by decide +kernel
theorem dX12_weightOf_7 : decode cX12_weightOf 7 = .ok (.if_icmp .ge 31, 3) := by decide +kernel
theorem dX12_weightOf_10 : decode cX12_weightOf 10 = .ok (.iload_n 2, 1) := by decide +kernel
theorem dX12_weightOf_11 : decode cX12_weightOf 11 = .ok (.iload_n 1, 1) := by decide +kernel
theorem dX12_weightOf_12 : decode cX12_weightOf 12 = .ok (.iload_n 3, 1) := by decide +kernel
theorem dX12_weightOf_13 : decode cX12_weightOf 13 = .ok (.ishr, 1) := by decide +kernel
theorem dX12_weightOf_14 : decode cX12_weightOf 14 = .ok (.iconst 1, 1) := by decide +kernel
theorem dX12_weightOf_15 : decode cX12_weightOf 15 = .ok (.iand, 1) := by decide +kernel
theorem dX12_weightOf_16 : decode cX12_weightOf 16 = .ok (.iconst 1, 1) := by decide +kernel
theorem dX12_weightOf_17 : decode cX12_weightOf 17 = .ok (.if_icmp .ne 12, 3) := by decide +kernel
theorem dX12_weightOf_20 : decode cX12_weightOf 20 = .ok (.aload_n 0, 1) := by decide +kernel
theorem dX12_weightOf_21 : decode cX12_weightOf 21 = .ok (.getfield 46, 3) := by decide +kernel
theorem dX12_weightOf_24 : decode cX12_weightOf 24 = .ok (.iload_n 3, 1) := by decide +kernel
theorem dX12_weightOf_25 : decode cX12_weightOf 25 = .ok (.iaload, 1) := by decide +kernel
theorem dX12_weightOf_26 : decode cX12_weightOf 26 = .ok (.goto 4, 3) := by decide +kernel
theorem dX12_weightOf_29 : decode cX12_weightOf 29 = .ok (.iconst 0, 1) := by decide +kernel
theorem dX12_weightOf_30 : decode cX12_weightOf 30 = .ok (.iadd, 1) := by decide +kernel
theorem dX12_weightOf_31 : decode cX12_weightOf 31 = .ok (.istore_n 2, 1) := by decide +kernel
theorem dX12_weightOf_32 : decode cX12_weightOf 32 = .ok (.iinc 3 1, 3) := by decide +kernel
theorem dX12_weightOf_35 : decode cX12_weightOf 35 = .ok (.goto (-31), 3) := by decide +kernel
theorem dX12_weightOf_38 : decode cX12_weightOf 38 = .ok (.iload_n 2, 1) := by decide +kernel
theorem dX12_weightOf_39 : decode cX12_weightOf 39 = .ok (.ireturn, 1) := by decide +kernel
def vb_X12_weightOf_4 (post : Int32 → mj_M → Prop) : Nat → Nat → Int32 → Int32 → Int32 → mj_M → Prop
  | 0 => fun _ _ _ _ _ => False
  | f + 1 => fun l0 l1 l2 l3 M => if 12 ≤ l3 then (post l2 M) else (if ((l1 >>> (l3 &&& 31)) &&& 1) = 1 then (mj_tag M l0 = 13 ∧ mj_tag M (mj_r M l0 14) = 101 ∧ vp_in l3 (mj_len M (mj_r M l0 14)) ∧ vb_X12_weightOf_4 post f l0 l1 (l2 + (mj_i M (mj_r M l0 14) (l3 : Int32).toNatClampNeg)) (l3 + 1) M) else (vb_X12_weightOf_4 post f l0 l1 (l2 + 0) (l3 + 1) M))
def vc_X12_weightOf (l0 : Nat) (l1 : Int32) (M : mj_M) (post : Int32 → mj_M → Prop) : Prop := ∃ fe, vb_X12_weightOf_4 post fe l0 l1 0 0 M
set_option maxHeartbeats 4000000 in
set_option maxRecDepth 100000 in
theorem xb_X12_weightOf_4 {g : mj_G} {post : Int32 → mj_M → Prop} (hC : mj_C g yX12_weightOf cX12_weightOf 4 (some .int) rm_X12_weightOf) (hE : mj_E g mj_jI post 0 0) : ∀ (f : Nat) (l0 : Nat) (l1 : Int32) (l2 : Int32) (l3 : Int32) (M : mj_M), vb_X12_weightOf_4 post f l0 l1 l2 l3 M → mj_X g 4 [(0, vR l0), (1, vI l1), (2, vI l2), (3, vI l3)] [] M 0 0 := by
  intro f
  induction f with
  | zero => exact fun _ _ _ _ _ h => absurd h (fun z => z)
  | succ f ih =>
    intro l0 l1 l2 l3 M h
    simp only [vb_X12_weightOf_4] at h
    refine mx_iload_n (j := 3) hC dX12_weightOf_4 rfl rfl ?_
    refine mx_bipush (v := 12) hC dX12_weightOf_5 (by decide) ?_
    refine mx_icmpge (tgt := 38) hC dX12_weightOf_7 (by decide) (fun hc1 => ?_) (fun hc1 => ?_)
    · replace h := mj_yy hc1 h
      refine mx_iload_n (j := 2) hC dX12_weightOf_38 rfl rfl ?_
      exact mx_iret hC hE rfl dX12_weightOf_39 h
    · replace h := mj_nn hc1 h
      refine mx_iload_n (j := 2) hC dX12_weightOf_10 rfl rfl ?_
      refine mx_iload_n (j := 1) hC dX12_weightOf_11 rfl rfl ?_
      refine mx_iload_n (j := 3) hC dX12_weightOf_12 rfl rfl ?_
      refine mx_ishr hC dX12_weightOf_13 ?_
      refine mx_iconst (v := 1) hC dX12_weightOf_14 (by decide) ?_
      refine mx_iand hC dX12_weightOf_15 ?_
      refine mx_iconst (v := 1) hC dX12_weightOf_16 (by decide) ?_
      refine mx_icmpne (tgt := 29) hC dX12_weightOf_17 (by decide) (fun hc2 => ?_) (fun hc2 => ?_)
      · replace h := mj_nn hc2 h
        refine mx_iconst (v := 0) hC dX12_weightOf_29 (by decide) ?_
        refine mx_iadd hC dX12_weightOf_30 ?_
        refine mx_istore_n (L' := [(2, vI (l2 + 0)), (0, vR l0), (1, vI l1), (3, vI l3)]) hC dX12_weightOf_31 rfl (by decide) rfl ?_
        refine mx_iinc (j := 3) (v := l3 + 1) (L' := [(3, vI (l3 + 1)), (2, vI (l2 + 0)), (0, vR l0), (1, vI l1)]) hC dX12_weightOf_32 rfl rfl (by decide) rfl ?_
        refine mx_goto (tgt := 4) hC dX12_weightOf_35 (by decide) ?_
        refine mx_sub (L' := [(0, vR l0), (1, vI l1), (2, vI (l2 + 0)), (3, vI (l3 + 1))]) [2, 3, 1, 0] rfl ?_
        exact show mj_X g 4 [(0, vR l0), (1, vI l1), (2, vI (l2 + 0)), (3, vI (l3 + 1))] [] M 0 0 from (ih l0 l1 (l2 + 0) (l3 + 1) M h)
      · replace h := mj_yy hc2 h
        refine mx_aload_n (j := 0) hC dX12_weightOf_20 rfl rfl ?_
        obtain ⟨ht3, h⟩ := h
        refine mx_get (v := vR (mj_r M l0 14)) hC tf_X12_46 ht3 rfl dX12_weightOf_21 ?_
        refine mx_iload_n (j := 3) hC dX12_weightOf_24 rfl rfl ?_
        obtain ⟨ht4, h⟩ := h
        obtain ⟨hi5, h⟩ := h
        refine mx_iaload hC ht4 hi5 dX12_weightOf_25 ?_
        refine mx_goto (tgt := 30) hC dX12_weightOf_26 (by decide) ?_
        refine mx_iadd hC dX12_weightOf_30 ?_
        refine mx_istore_n (L' := [(2, vI (l2 + (mj_i M (mj_r M l0 14) (l3 : Int32).toNatClampNeg))), (0, vR l0), (1, vI l1), (3, vI l3)]) hC dX12_weightOf_31 rfl (by decide) rfl ?_
        refine mx_iinc (j := 3) (v := l3 + 1) (L' := [(3, vI (l3 + 1)), (2, vI (l2 + (mj_i M (mj_r M l0 14) (l3 : Int32).toNatClampNeg))), (0, vR l0), (1, vI l1)]) hC dX12_weightOf_32 rfl rfl (by decide) rfl ?_
        refine mx_goto (tgt := 4) hC dX12_weightOf_35 (by decide) ?_
        refine mx_sub (L' := [(0, vR l0), (1, vI l1), (2, vI (l2 + (mj_i M (mj_r M l0 14) (l3 : Int32).toNatClampNeg))), (3, vI (l3 + 1))]) [2, 3, 1, 0] rfl ?_
        exact show mj_X g 4 [(0, vR l0), (1, vI l1), (2, vI (l2 + (mj_i M (mj_r M l0 14) (l3 : Int32).toNatClampNeg))), (3, vI (l3 + 1))] [] M 0 0 from (ih l0 l1 (l2 + (mj_i M (mj_r M l0 14) (l3 : Int32).toNatClampNeg)) (l3 + 1) M h)
set_option maxHeartbeats 4000000 in
set_option maxRecDepth 100000 in
theorem ct_X12_weightOf {l : Launch} {base : Nat} {D : va_G} {A : ClassId × ClassId × ClassId} (l0 : Nat) (l1 : Int32) (M : mj_M) (post : Int32 → mj_M → Prop) (h : vc_X12_weightOf l0 l1 M post) : mj_Met l base D A mj_jI yX12_weightOf cX12_weightOf 4 (some .int) rm_X12_weightOf 0 0 [vR l0, vI l1] M post := by
  refine mj_entry (by decide +kernel) (Nat.le_of_ble_eq_true rfl) (fun g hC hE h1 h2 h3 h4 => ?_)
  show mj_X g 0 [(0, vR l0), (1, vI l1)] [] M 0 0
  simp only [vc_X12_weightOf] at h
  refine mx_iconst (v := 0) hC dX12_weightOf_0 (by decide) ?_
  refine mx_istore_n (L' := [(2, vI 0), (0, vR l0), (1, vI l1)]) hC dX12_weightOf_1 rfl (by decide) rfl ?_
  refine mx_iconst (v := 0) hC dX12_weightOf_2 (by decide) ?_
  refine mx_istore_n (L' := [(3, vI 0), (2, vI 0), (0, vR l0), (1, vI l1)]) hC dX12_weightOf_3 rfl (by decide) rfl ?_
  refine mx_sub (L' := [(0, vR l0), (1, vI l1), (2, vI 0), (3, vI 0)]) [2, 3, 1, 0] rfl ?_
  obtain ⟨fe, h⟩ := h
  exact show mj_X g 4 [(0, vR l0), (1, vI l1), (2, vI 0), (3, vI 0)] [] M 0 0 from (xb_X12_weightOf_4 hC hE fe l0 l1 0 0 M h)

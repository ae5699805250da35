/-! methods 14. By program (wip/gen) out of the bytecode: vc_KEY: what must hold of a call; ct_KEY: then the machine does it. -/
theorem tw1480 : (Jvm.Cond.methodLink "LeaseLandModel" (209 : Nat) ({ cls := "LeaseLandModel", name := "isFloor", desc := "(I)Z" } : Jvm.MethodName)) ∈ mj_tbl := mj_w 1533 (by decide +kernel) (by decide +kernel)
theorem tw1484 : (Jvm.Cond.methodLink "LeaseLandModel" (212 : Nat) ({ cls := "LeaseLandModel", name := "nextOn", desc := "(III)I" } : Jvm.MethodName)) ∈ mj_tbl := mj_w 1537 (by decide +kernel) (by decide +kernel)
theorem tw1482 : (Jvm.Cond.code ({ cls := "LeaseLandModel", name := "isFloor", desc := "(I)Z" } : Jvm.MethodName) prog_14_method_32_code (1 : Nat) (Option.some Jvm.ClassFile.FieldType.boolean)) ∈ mj_tbl := mj_w 1535 (by decide +kernel) (by decide +kernel)
theorem tw1481 : (Jvm.Cond.static ({ cls := "LeaseLandModel", name := "isFloor", desc := "(I)Z" } : Jvm.MethodName)) ∈ mj_tbl := mj_w 1534 (by decide +kernel) (by decide +kernel)
theorem ty_X12_isFloor : mj_YS yX12_isFloor cX12_isFloor 1 (some .boolean) 1 := ⟨⟨tw1482, tw11, by decide +kernel, by decide +kernel, by decide +kernel⟩, tw1481⟩
theorem tw1487 : (Jvm.Cond.code ({ cls := "LeaseLandModel", name := "nextOn", desc := "(III)I" } : Jvm.MethodName) prog_14_method_31_code (5 : Nat) (Option.some Jvm.ClassFile.FieldType.int)) ∈ mj_tbl := mj_w 1540 (by decide +kernel) (by decide +kernel)
theorem tw1486 : (Jvm.Cond.instanceMethod ({ cls := "LeaseLandModel", name := "nextOn", desc := "(III)I" } : Jvm.MethodName)) ∈ mj_tbl := mj_w 1539 (by decide +kernel) (by decide +kernel)
theorem ty_X12_nextOn : mj_YV 12 yX12_nextOn cX12_nextOn 5 (some .int) 3 := ⟨⟨tw1487, tw11, by decide +kernel, by decide +kernel, by decide +kernel⟩, tw1486, mj_w 18 (by decide +kernel) (by decide +kernel), _, rfl, rfl⟩
def rm_X12_chain : Room := { frames := 3, cells := 0, slots := 0, locals := 67 }
theorem dX12_chain_0 : decode cX12_chain 0 = .ok (.iload_n 1, 1) := by decide +kernel
theorem dX12_chain_1 : decode cX12_chain 1 = .ok (.invokestatic 209, 3) := by decide +kernel
theorem dX12_chain_4 : decode cX12_chain 4 = .ok (.ifCond .ne 5, 3) := by decide +kernel
theorem dX12_chain_7 : decode cX12_chain 7 = .ok (.iconst (-1), 1) := by decide +kernel
theorem dX12_chain_8 : decode cX12_chain 8 = .ok (.ireturn, 1) := by decide +kernel
theorem dX12_chain_9 : decode cX12_chain 9 = .ok (.iconst 0, 1) := by decide +kernel
theorem dX12_chain_10 : decode cX12_chain 10 = .ok (.istore_n 3, 1) := by decide +kernel
theorem dX12_chain_11 : decode cX12_chain 11 = .ok (.aload_n 0, 1) := by decide +kernel
theorem dX12_chain_12 : decode cX12_chain 12 = .ok (.iconst (-1), 1) := by decide +kernel
theorem dX12_chain_13 : decode cX12_chain 13 = .ok (.iload_n 1, 1) := by decide +kernel
theorem dX12_chain_14 : decode cX12_chain 14 = .ok (.aload_n 0, 1) := by decide +kernel
theorem dX12_chain_15 : decode cX12_chain 15 = .ok (.getfield 151, 3) := by decide +kernel
theorem dX12_chain_18 : decode cX12_chain 18 = .ok (.invokevirtual 212, 3) := by decide +kernel
theorem dX12_chain_21 : decode cX12_chain 21 = .ok (.istore 4, 2) := by decide +kernel
theorem dX12_chain_23 : decode cX12_chain 23 = .ok (.iload 4, 2) := by decide +kernel
theorem dX12_chain_25 : decode cX12_chain 25 = .ok (.ifCond .lt 30, 3) := by decide +kernel
theorem dX12_chain_28 : decode cX12_chain 28 = .ok (.iload_n 3, 1) := by decide +kernel
theorem dX12_chain_29 : decode cX12_chain 29 = .ok (.iload_n 2, 1) := by decide +kernel
theorem dX12_chain_30 : decode cX12_chain 30 = .ok (.if_icmp .ne 6, 3) := by decide +kernel
theorem dX12_chain_33 : decode cX12_chain 33 = .ok (.iload 4, 2) := by decide +kernel
theorem dX12_chain_35 : decode cX12_chain 35 = .ok (.ireturn, 1) := by decide +kernel
theorem dX12_chain_36 : decode cX12_chain 36 = .ok (.iinc 3 1, 3) := by decide +kernel
theorem dX12_chain_39 : decode cX12_chain 39 = .ok (.aload_n 0, 1) := by decide +kernel
theorem dX12_chain_40 : decode cX12_chain 40 = .ok (.iload 4, 2) := by decide +kernel
theorem dX12_chain_42 : decode cX12_chain 42 = .ok (.iload_n 1, 1) := by decide +kernel
theorem dX12_chain_43 : decode cX12_chain 43 = .ok (.aload_n 0, 1) := by decide +kernel
theorem dX12_chain_44 : decode cX12_chain 44 = .ok (.getfield 151, 3) := by decide +kernel
theorem dX12_chain_47 : decode cX12_chain 47 = .ok (.invokevirtual 212, 3) := by decide +kernel
theorem dX12_chain_50 : decode cX12_chain 50 = .ok (.istore 4, 2) := by decide +kernel
theorem dX12_chain_52 : decode cX12_chain 52 = .ok (.goto (-29), 3) := by decide +kernel
theorem dX12_chain_55 : decode cX12_chain 55 = .ok (.iload_n 2, 1) := by decide +kernel
theorem dX12_chain_56 : decode cX12_chain 56 = .ok (.iconst (-1), 1) := by decide +kernel
theorem dX12_chain_57 : decode cX12_chain 57 = .ok (.if_icmp .ne 7, 3) := by decide +kernel
theorem dX12_chain_60 : decode cX12_chain 60 = .ok (.iload_n 3, 1) := by decide +kernel
theorem dX12_chain_61 : decode cX12_chain 61 = .ok (.goto 5, 3) := by decide +kernel
theorem dX12_chain_64 : decode cX12_chain 64 = .ok (.bipush (-6), 2) := by decide +kernel
theorem dX12_chain_66 : decode cX12_chain 66 = .ok (.ireturn, 1) := by decide +kernel
def vb_X12_chain_23 (post : Int32 → mj_M → Prop) : Nat → Nat → Int32 → Int32 → Int32 → Int32 → mj_M → Prop
  | 0 => fun _ _ _ _ _ _ => False
  | f + 1 => fun l0 l1 l2 l3 l4 M => if l4 < 0 then (if l2 = ((-1)) then (post l3 M) else (post ((-6)) M)) else (if l3 = l2 then (post l4 M) else (mj_tag M l0 = 13 ∧ vc_X12_nextOn l0 l4 l1 (mj_i M l0 0) M (fun r5 M6 => vb_X12_chain_23 post f l0 l1 l2 (l3 + 1) r5 M6)))
def vc_X12_chain (l0 : Nat) (l1 : Int32) (l2 : Int32) (M : mj_M) (post : Int32 → mj_M → Prop) : Prop := vc_X12_isFloor l1 M (fun r7 M8 => if r7 = true then (mj_tag M8 l0 = 13 ∧ vc_X12_nextOn l0 ((-1)) l1 (mj_i M8 l0 0) M8 (fun r11 M12 => ∃ fe, vb_X12_chain_23 post fe l0 l1 l2 0 r11 M12)) else (post ((-1)) M8))
set_option maxHeartbeats 4000000 in
set_option maxRecDepth 100000 in
theorem xb_X12_chain_23 {g : mj_G} {post : Int32 → mj_M → Prop} (hC : mj_C g yX12_chain cX12_chain 5 (some .int) rm_X12_chain) (hE : mj_E g mj_jI post 0 0) : ∀ (f : Nat) (l0 : Nat) (l1 : Int32) (l2 : Int32) (l3 : Int32) (l4 : Int32) (M : mj_M), vb_X12_chain_23 post f l0 l1 l2 l3 l4 M → mj_X g 23 [(0, vR l0), (1, vI l1), (2, vI l2), (3, vI l3), (4, vI l4)] [] M 0 0 := by
  intro f
  induction f with
  | zero => exact fun _ _ _ _ _ _ h => absurd h (fun z => z)
  | succ f ih =>
    intro l0 l1 l2 l3 l4 M h
    simp only [vb_X12_chain_23] at h
    refine mx_iload (j := 4) hC dX12_chain_23 rfl ?_
    refine mx_iflt (tgt := 55) hC dX12_chain_25 (by decide) (fun hc1 => ?_) (fun hc1 => ?_)
    · replace h := mj_yy hc1 h
      refine mx_iload_n (j := 2) hC dX12_chain_55 rfl rfl ?_
      refine mx_iconst (v := (-1)) hC dX12_chain_56 (by decide) ?_
      refine mx_icmpne (tgt := 64) hC dX12_chain_57 (by decide) (fun hc2 => ?_) (fun hc2 => ?_)
      · replace h := mj_nn hc2 h
        refine mx_bipush (v := (-6)) hC dX12_chain_64 (by decide) ?_
        exact mx_iret hC hE rfl dX12_chain_66 h
      · replace h := mj_yy hc2 h
        refine mx_iload_n (j := 3) hC dX12_chain_60 rfl rfl ?_
        refine mx_goto (tgt := 66) hC dX12_chain_61 (by decide) ?_
        exact mx_iret hC hE rfl dX12_chain_66 h
    · replace h := mj_nn hc1 h
      refine mx_iload_n (j := 3) hC dX12_chain_28 rfl rfl ?_
      refine mx_iload_n (j := 2) hC dX12_chain_29 rfl rfl ?_
      refine mx_icmpne (tgt := 36) hC dX12_chain_30 (by decide) (fun hc3 => ?_) (fun hc3 => ?_)
      · replace h := mj_nn hc3 h
        refine mx_iinc (j := 3) (v := l3 + 1) (L' := [(3, vI (l3 + 1)), (0, vR l0), (1, vI l1), (2, vI l2), (4, vI l4)]) hC dX12_chain_36 rfl rfl (by decide) rfl ?_
        refine mx_aload_n (j := 1) hC dX12_chain_39 rfl rfl ?_
        refine mx_iload (j := 4) hC dX12_chain_40 rfl ?_
        refine mx_iload_n (j := 2) hC dX12_chain_42 rfl rfl ?_
        refine mx_aload_n (j := 1) hC dX12_chain_43 rfl rfl ?_
        obtain ⟨ht4, h⟩ := h
        refine mx_get (v := vI (mj_i M l0 0)) hC tf_X12_151 ht4 rfl dX12_chain_44 ?_
        refine mx_callV (inj := mj_jI) (As := [vI l4, vI l1, vI (mj_i M l0 0)]) (st := []) hC (ct_X12_nextOn l0 l4 l1 (mj_i M l0 0) M _ h) ty_X12_nextOn tw1484 ht4 rfl (Nat.le_of_ble_eq_true rfl) ⟨rfl, rfl, ⟨by decide, by decide⟩, by decide, by decide⟩ dX12_chain_47 (fun r5 M6 h => ?_)
        show mj_X g 50 [(3, vI (l3 + 1)), (0, vR l0), (1, vI l1), (2, vI l2), (4, vI l4)] [vI r5] M6 0 0
        refine mx_istore (L' := [(4, vI r5), (3, vI (l3 + 1)), (0, vR l0), (1, vI l1), (2, vI l2)]) hC dX12_chain_50 (by decide) rfl ?_
        refine mx_goto (tgt := 23) hC dX12_chain_52 (by decide) ?_
        refine mx_sub (L' := [(0, vR l0), (1, vI l1), (2, vI l2), (3, vI (l3 + 1)), (4, vI r5)]) [2, 3, 4, 1, 0] rfl ?_
        exact show mj_X g 23 [(0, vR l0), (1, vI l1), (2, vI l2), (3, vI (l3 + 1)), (4, vI r5)] [] M6 0 0 from (ih l0 l1 l2 (l3 + 1) r5 M6 h)
      · replace h := mj_yy hc3 h
        refine mx_iload (j := 4) hC dX12_chain_33 rfl ?_
        exact mx_iret hC hE rfl dX12_chain_35 h
set_option maxHeartbeats 4000000 in
set_option maxRecDepth 100000 in
theorem ct_X12_chain {l : Launch} {base : Nat} {D : va_G} {A : ClassId × ClassId × ClassId} (l0 : Nat) (l1 : Int32) (l2 : Int32) (M : mj_M) (post : Int32 → mj_M → Prop) (h : vc_X12_chain l0 l1 l2 M post) : mj_Met l base D A mj_jI yX12_chain cX12_chain 5 (some .int) rm_X12_chain 0 0 [vR l0, vI l1, vI l2] M post := by
  refine mj_entry (by decide +kernel) (Nat.le_of_ble_eq_true rfl) (fun g hC hE h1 h2 h3 h4 => ?_)
  show mj_X g 0 [(0, vR l0), (1, vI l1), (2, vI l2)] [] M 0 0
  simp only [vc_X12_chain] at h
  refine mx_iload_n (j := 1) hC dX12_chain_0 rfl rfl ?_
  refine mx_callS (inj := mj_jB) (As := [vI l1]) (st := []) hC (ct_X12_isFloor l1 M _ h) ty_X12_isFloor tw1480 rfl (Nat.le_of_ble_eq_true rfl) ⟨rfl, rfl, ⟨by decide, by decide⟩, by decide, by decide⟩ dX12_chain_1 (fun r7 M8 h => ?_)
  show mj_X g 4 [(0, vR l0), (1, vI l1), (2, vI l2)] [vI (mj_b r7)] M8 0 0
  refine mx_ifneB (tgt := 9) hC dX12_chain_4 (by decide) (fun hc9 => ?_) (fun hc9 => ?_)
  · replace h := mj_yy hc9 h
    refine mx_iconst (v := 0) hC dX12_chain_9 (by decide) ?_
    refine mx_istore_n (L' := [(3, vI 0), (0, vR l0), (1, vI l1), (2, vI l2)]) hC dX12_chain_10 rfl (by decide) rfl ?_
    refine mx_aload_n (j := 1) hC dX12_chain_11 rfl rfl ?_
    refine mx_iconst (v := (-1)) hC dX12_chain_12 (by decide) ?_
    refine mx_iload_n (j := 2) hC dX12_chain_13 rfl rfl ?_
    refine mx_aload_n (j := 1) hC dX12_chain_14 rfl rfl ?_
    obtain ⟨ht10, h⟩ := h
    refine mx_get (v := vI (mj_i M8 l0 0)) hC tf_X12_151 ht10 rfl dX12_chain_15 ?_
    refine mx_callV (inj := mj_jI) (As := [vI ((-1)), vI l1, vI (mj_i M8 l0 0)]) (st := []) hC (ct_X12_nextOn l0 ((-1)) l1 (mj_i M8 l0 0) M8 _ h) ty_X12_nextOn tw1484 ht10 rfl (Nat.le_of_ble_eq_true rfl) ⟨rfl, rfl, ⟨by decide, by decide⟩, by decide, by decide⟩ dX12_chain_18 (fun r11 M12 h => ?_)
    show mj_X g 21 [(3, vI 0), (0, vR l0), (1, vI l1), (2, vI l2)] [vI r11] M12 0 0
    refine mx_istore (L' := [(4, vI r11), (3, vI 0), (0, vR l0), (1, vI l1), (2, vI l2)]) hC dX12_chain_21 (by decide) rfl ?_
    refine mx_sub (L' := [(0, vR l0), (1, vI l1), (2, vI l2), (3, vI 0), (4, vI r11)]) [2, 3, 4, 1, 0] rfl ?_
    obtain ⟨fe, h⟩ := h
    exact show mj_X g 23 [(0, vR l0), (1, vI l1), (2, vI l2), (3, vI 0), (4, vI r11)] [] M12 0 0 from (xb_X12_chain_23 hC hE fe l0 l1 l2 0 r11 M12 h)
  · replace h := mj_nn hc9 h
    refine mx_iconst (v := (-1)) hC dX12_chain_7 (by decide) ?_
    exact mx_iret hC hE rfl dX12_chain_8 h
def rm_X12_lastOn : Room := { frames := 3, cells := 0, slots := 0, locals := 67 }
theorem dX12_lastOn_0 : decode cX12_lastOn 0 = .ok (.iconst (-1), 1) := by decide +kernel
theorem dX12_lastOn_1 : decode cX12_lastOn 1 = .ok (.istore_n 2, 1) := by decide +kernel
theorem dX12_lastOn_2 : decode cX12_lastOn 2 = .ok (.aload_n 0, 1) := by decide +kernel
theorem dX12_lastOn_3 : decode cX12_lastOn 3 = .ok (.iconst (-1), 1) := by decide +kernel
theorem dX12_lastOn_4 : decode cX12_lastOn 4 = .ok (.iload_n 1, 1) := by decide +kernel
theorem dX12_lastOn_5 : decode cX12_lastOn 5 = .ok (.aload_n 0, 1) := by decide +kernel
theorem dX12_lastOn_6 : decode cX12_lastOn 6 = .ok (.getfield 151, 3) := by decide +kernel
theorem dX12_lastOn_9 : decode cX12_lastOn 9 = .ok (.invokevirtual 212, 3) := by decide +kernel
theorem dX12_lastOn_12 : decode cX12_lastOn 12 = .ok (.istore_n 3, 1) := by decide +kernel
theorem dX12_lastOn_13 : decode cX12_lastOn 13 = .ok (.iload_n 3, 1) := by decide +kernel
theorem dX12_lastOn_14 : decode cX12_lastOn 14 = .ok (.ifCond .lt 19, 3) := by decide +kernel
theorem dX12_lastOn_17 : decode cX12_lastOn 17 = .ok (.iload_n 3, 1) := by decide +kernel
theorem dX12_lastOn_18 : decode cX12_lastOn 18 = .ok (.istore_n 2, 1) := by decide +kernel
theorem dX12_lastOn_19 : decode cX12_lastOn 19 = .ok (.aload_n 0, 1) := by decide +kernel
theorem dX12_lastOn_20 : decode cX12_lastOn 20 = .ok (.iload_n 3, 1) := by decide +kernel
theorem dX12_lastOn_21 : decode cX12_lastOn 21 = .ok (.iload_n 1, 1) := by decide +kernel
theorem dX12_lastOn_22 : decode cX12_lastOn 22 = .ok (.aload_n 0, 1) := by decide +kernel
theorem dX12_lastOn_23 : decode cX12_lastOn 23 = .ok (.getfield 151, 3) := by decide +kernel
theorem dX12_lastOn_26 : decode cX12_lastOn 26 = .ok (.invokevirtual 212, 3) := by decide +kernel
theorem dX12_lastOn_29 : decode cX12_lastOn 29 = .ok (.istore_n 3, 1) := by decide +kernel
theorem dX12_lastOn_30 : decode cX12_lastOn 30 = .ok (.goto (-17), 3) := by decide +kernel
theorem dX12_lastOn_33 : decode cX12_lastOn 33 = .ok (.iload_n 2, 1) := by decide +kernel
theorem dX12_lastOn_34 : decode cX12_lastOn 34 = .ok (.ireturn, 1) := by decide +kernel
def vb_X12_lastOn_13 (post : Int32 → mj_M → Prop) : Nat → Nat → Int32 → Int32 → Int32 → mj_M → Prop
  | 0 => fun _ _ _ _ _ => False
  | f + 1 => fun l0 l1 l2 l3 M => if l3 < 0 then (post l2 M) else (mj_tag M l0 = 13 ∧ vc_X12_nextOn l0 l3 l1 (mj_i M l0 0) M (fun r3 M4 => vb_X12_lastOn_13 post f l0 l1 l3 r3 M4))
def vc_X12_lastOn (l0 : Nat) (l1 : Int32) (M : mj_M) (post : Int32 → mj_M → Prop) : Prop := mj_tag M l0 = 13 ∧ vc_X12_nextOn l0 ((-1)) l1 (mj_i M l0 0) M (fun r6 M7 => ∃ fe, vb_X12_lastOn_13 post fe l0 l1 ((-1)) r6 M7)
set_option maxHeartbeats 4000000 in
set_option maxRecDepth 100000 in
theorem xb_X12_lastOn_13 {g : mj_G} {post : Int32 → mj_M → Prop} (hC : mj_C g yX12_lastOn cX12_lastOn 4 (some .int) rm_X12_lastOn) (hE : mj_E g mj_jI post 0 0) : ∀ (f : Nat) (l0 : Nat) (l1 : Int32) (l2 : Int32) (l3 : Int32) (M : mj_M), vb_X12_lastOn_13 post f l0 l1 l2 l3 M → mj_X g 13 [(0, vR l0), (1, vI l1), (2, vI l2), (3, vI l3)] [] M 0 0 := by
  intro f
  induction f with
  | zero => exact fun _ _ _ _ _ h => absurd h (fun z => z)
  | succ f ih =>
    intro l0 l1 l2 l3 M h
    simp only [vb_X12_lastOn_13] at h
    refine mx_iload_n (j := 3) hC dX12_lastOn_13 rfl rfl ?_
    refine mx_iflt (tgt := 33) hC dX12_lastOn_14 (by decide) (fun hc1 => ?_) (fun hc1 => ?_)
    · replace h := mj_yy hc1 h
      refine mx_iload_n (j := 2) hC dX12_lastOn_33 rfl rfl ?_
      exact mx_iret hC hE rfl dX12_lastOn_34 h
    · replace h := mj_nn hc1 h
      refine mx_iload_n (j := 3) hC dX12_lastOn_17 rfl rfl ?_
      refine mx_istore_n (L' := [(2, vI l3), (0, vR l0), (1, vI l1), (3, vI l3)]) hC dX12_lastOn_18 rfl (by decide) rfl ?_
      refine mx_aload_n (j := 1) hC dX12_lastOn_19 rfl rfl ?_
      refine mx_iload_n (j := 3) hC dX12_lastOn_20 rfl rfl ?_
      refine mx_iload_n (j := 2) hC dX12_lastOn_21 rfl rfl ?_
      refine mx_aload_n (j := 1) hC dX12_lastOn_22 rfl rfl ?_
      obtain ⟨ht2, h⟩ := h
      refine mx_get (v := vI (mj_i M l0 0)) hC tf_X12_151 ht2 rfl dX12_lastOn_23 ?_
      refine mx_callV (inj := mj_jI) (As := [vI l3, vI l1, vI (mj_i M l0 0)]) (st := []) hC (ct_X12_nextOn l0 l3 l1 (mj_i M l0 0) M _ h) ty_X12_nextOn tw1484 ht2 rfl (Nat.le_of_ble_eq_true rfl) ⟨rfl, rfl, ⟨by decide, by decide⟩, by decide, by decide⟩ dX12_lastOn_26 (fun r3 M4 h => ?_)
      show mj_X g 29 [(2, vI l3), (0, vR l0), (1, vI l1), (3, vI l3)] [vI r3] M4 0 0
      refine mx_istore_n (L' := [(3, vI r3), (2, vI l3), (0, vR l0), (1, vI l1)]) hC dX12_lastOn_29 rfl (by decide) rfl ?_
      refine mx_goto (tgt := 13) hC dX12_lastOn_30 (by decide) ?_
      refine mx_sub (L' := [(0, vR l0), (1, vI l1), (2, vI l3), (3, vI r3)]) [2, 3, 1, 0] rfl ?_
      exact show mj_X g 13 [(0, vR l0), (1, vI l1), (2, vI l3), (3, vI r3)] [] M4 0 0 from (ih l0 l1 l3 r3 M4 h)
set_option maxHeartbeats 4000000 in
set_option maxRecDepth 100000 in
theorem ct_X12_lastOn {l : Launch} {base : Nat} {D : va_G} {A : ClassId × ClassId × ClassId} (l0 : Nat) (l1 : Int32) (M : mj_M) (post : Int32 → mj_M → Prop) (h : vc_X12_lastOn l0 l1 M post) : mj_Met l base D A mj_jI yX12_lastOn cX12_lastOn 4 (some .int) rm_X12_lastOn 0 0 [vR l0, vI l1] M post := by
  refine mj_entry (by decide +kernel) (Nat.le_of_ble_eq_true rfl) (fun g hC hE h1 h2 h3 h4 => ?_)
  show mj_X g 0 [(0, vR l0), (1, vI l1)] [] M 0 0
  simp only [vc_X12_lastOn] at h
  refine mx_iconst (v := (-1)) hC dX12_lastOn_0 (by decide) ?_
  refine mx_istore_n (L' := [(2, vI ((-1))), (0, vR l0), (1, vI l1)]) hC dX12_lastOn_1 rfl (by decide) rfl ?_
  refine mx_aload_n (j := 1) hC dX12_lastOn_2 rfl rfl ?_
  refine mx_iconst (v := (-1)) hC dX12_lastOn_3 (by decide) ?_
  refine mx_iload_n (j := 2) hC dX12_lastOn_4 rfl rfl ?_
  refine mx_aload_n (j := 1) hC dX12_lastOn_5 rfl rfl ?_
  obtain ⟨ht5, h⟩ := h
  refine mx_get (v := vI (mj_i M l0 0)) hC tf_X12_151 ht5 rfl dX12_lastOn_6 ?_
  refine mx_callV (inj := mj_jI) (As := [vI ((-1)), vI l1, vI (mj_i M l0 0)]) (st := []) hC (ct_X12_nextOn l0 ((-1)) l1 (mj_i M l0 0) M _ h) ty_X12_nextOn tw1484 ht5 rfl (Nat.le_of_ble_eq_true rfl) ⟨rfl, rfl, ⟨by decide, by decide⟩, by decide, by decide⟩ dX12_lastOn_9 (fun r6 M7 h => ?_)
  show mj_X g 12 [(2, vI ((-1))), (0, vR l0), (1, vI l1)] [vI r6] M7 0 0
  refine mx_istore_n (L' := [(3, vI r6), (2, vI ((-1))), (0, vR l0), (1, vI l1)]) hC dX12_lastOn_12 rfl (by decide) rfl ?_
  refine mx_sub (L' := [(0, vR l0), (1, vI l1), (2, vI ((-1))), (3, vI r6)]) [2, 3, 1, 0] rfl ?_
  obtain ⟨fe, h⟩ := h
  exact show mj_X g 13 [(0, vR l0), (1, vI l1), (2, vI ((-1))), (3, vI r6)] [] M7 0 0 from (xb_X12_lastOn_13 hC hE fe l0 l1 ((-1)) r6 M7 h)
def rm_X12_live : Room := { frames := 2, cells := 0, slots := 0, locals := 45 }
theorem dX12_live_0 : decode cX12_live 0 = .ok (.iload_n 1, 1) := by decide +kernel
theorem dX12_live_1 : decode cX12_live 1 = .ok (.invokestatic 154, 3) := by decide +kernel
theorem dX12_live_4 : decode cX12_live 4 = .ok (.ifCond .eq 15, 3) := by decide +kernel
theorem dX12_live_7 : decode cX12_live 7 = .ok (.iload_n 2, 1) := by decide +kernel
theorem dX12_live_8 : decode cX12_live 8 = .ok (.iconst (-1), 1) := by decide +kernel
theorem dX12_live_9 : decode cX12_live 9 = .ok (.if_icmp .eq 12, 3) := by decide +kernel
theorem dX12_live_12 : decode cX12_live 12 = .ok (.iload_n 2, 1) := by decide +kernel
theorem dX12_live_13 : decode cX12_live 13 = .ok (.invokestatic 209, 3) := by decide +kernel
theorem dX12_live_16 : decode cX12_live 16 = .ok (.ifCond .ne 5, 3) := by decide +kernel
theorem dX12_live_19 : decode cX12_live 19 = .ok (.iconst (-1), 1) := by decide +kernel
theorem dX12_live_20 : decode cX12_live 20 = .ok (.ireturn, 1) := by decide +kernel
theorem dX12_live_21 : decode cX12_live 21 = .ok (.aload_n 0, 1) := by decide +kernel
theorem dX12_live_22 : decode cX12_live 22 = .ok (.getfield 49, 3) := by decide +kernel
theorem dX12_live_25 : decode cX12_live 25 = .ok (.iload_n 1, 1) := by decide +kernel
theorem dX12_live_26 : decode cX12_live 26 = .ok (.iaload, 1) := by decide +kernel
theorem dX12_live_27 : decode cX12_live 27 = .ok (.istore_n 3, 1) := by decide +kernel
theorem dX12_live_28 : decode cX12_live 28 = .ok (.aload_n 0, 1) := by decide +kernel
theorem dX12_live_29 : decode cX12_live 29 = .ok (.getfield 49, 3) := by decide +kernel
theorem dX12_live_32 : decode cX12_live 32 = .ok (.iload_n 1, 1) := by decide +kernel
theorem dX12_live_33 : decode cX12_live 33 = .ok (.iload_n 2, 1) := by decide +kernel
theorem dX12_live_34 : decode cX12_live 34 = .ok (.ifCond .ge 8, 3) := by decide +kernel
theorem dX12_live_37 : decode cX12_live 37 = .ok (.bipush (-6), 2) := by decide +kernel
theorem dX12_live_39 : decode cX12_live 39 = .ok (.goto 4, 3) := by decide +kernel
theorem dX12_live_42 : decode cX12_live 42 = .ok (.iload_n 2, 1) := by decide +kernel
theorem dX12_live_43 : decode cX12_live 43 = .ok (.iastore, 1) := by decide +kernel
theorem dX12_live_44 : decode cX12_live 44 = .ok (.iload_n 3, 1) := by decide +kernel
theorem dX12_live_45 : decode cX12_live 45 = .ok (.ireturn, 1) := by decide +kernel
def vb_X12_live_21 (post : Int32 → mj_M → Prop) (l0 : Nat) (l1 : Int32) (l2 : Int32) (M : mj_M) : Prop := mj_tag M l0 = 13 ∧ mj_tag M (mj_r M l0 15) = 101 ∧ vp_in l1 (mj_len M (mj_r M l0 15)) ∧ if 0 ≤ l2 then (post (mj_i M (mj_r M l0 15) (l1 : Int32).toNatClampNeg) (mj_wi M (mj_r M l0 15) (l1 : Int32).toNatClampNeg l2)) else (post (mj_i M (mj_r M l0 15) (l1 : Int32).toNatClampNeg) (mj_wi M (mj_r M l0 15) (l1 : Int32).toNatClampNeg ((-6))))
def vc_X12_live (l0 : Nat) (l1 : Int32) (l2 : Int32) (M : mj_M) (post : Int32 → mj_M → Prop) : Prop := vc_X12_isPerson l1 M (fun r5 M6 => if r5 = true then (if l2 = ((-1)) then (vb_X12_live_21 post l0 l1 l2 M6) else (vc_X12_isFloor l2 M6 (fun r9 M10 => if r9 = true then (vb_X12_live_21 post l0 l1 l2 M10) else (post ((-1)) M10)))) else (post ((-1)) M6))
set_option maxHeartbeats 4000000 in
set_option maxRecDepth 100000 in
theorem xb_X12_live_21 {g : mj_G} {post : Int32 → mj_M → Prop} (hC : mj_C g yX12_live cX12_live 4 (some .int) rm_X12_live) (hE : mj_E g mj_jI post 0 0) (l0 : Nat) (l1 : Int32) (l2 : Int32) (M : mj_M) (h : vb_X12_live_21 post l0 l1 l2 M) : mj_X g 21 [(0, vR l0), (1, vI l1), (2, vI l2)] [] M 0 0 := by
  simp only [vb_X12_live_21] at h
  refine mx_aload_n (j := 0) hC dX12_live_21 rfl rfl ?_
  obtain ⟨ht1, h⟩ := h
  refine mx_get (v := vR (mj_r M l0 15)) hC tf_X12_49 ht1 rfl dX12_live_22 ?_
  refine mx_iload_n (j := 1) hC dX12_live_25 rfl rfl ?_
  obtain ⟨ht2, h⟩ := h
  obtain ⟨hi3, h⟩ := h
  refine mx_iaload hC ht2 hi3 dX12_live_26 ?_
  refine mx_istore_n (L' := [(3, vI (mj_i M (mj_r M l0 15) (l1 : Int32).toNatClampNeg)), (0, vR l0), (1, vI l1), (2, vI l2)]) hC dX12_live_27 rfl (by decide) rfl ?_
  refine mx_aload_n (j := 1) hC dX12_live_28 rfl rfl ?_
  refine mx_get (v := vR (mj_r M l0 15)) hC tf_X12_49 ht1 rfl dX12_live_29 ?_
  refine mx_iload_n (j := 2) hC dX12_live_32 rfl rfl ?_
  refine mx_iload_n (j := 3) hC dX12_live_33 rfl rfl ?_
  refine mx_ifge (tgt := 42) hC dX12_live_34 (by decide) (fun hc4 => ?_) (fun hc4 => ?_)
  · replace h := mj_yy hc4 h
    refine mx_iload_n (j := 3) hC dX12_live_42 rfl rfl ?_
    refine mx_iastore hC ht2 hi3 dX12_live_43 ?_
    refine mx_iload_n (j := 0) hC dX12_live_44 rfl rfl ?_
    exact mx_iret hC hE rfl dX12_live_45 h
  · replace h := mj_nn hc4 h
    refine mx_bipush (v := (-6)) hC dX12_live_37 (by decide) ?_
    refine mx_goto (tgt := 43) hC dX12_live_39 (by decide) ?_
    refine mx_iastore hC ht2 hi3 dX12_live_43 ?_
    refine mx_iload_n (j := 0) hC dX12_live_44 rfl rfl ?_
    exact mx_iret hC hE rfl dX12_live_45 h
set_option maxHeartbeats 4000000 in
set_option maxRecDepth 100000 in
theorem ct_X12_live {l : Launch} {base : Nat} {D : va_G} {A : ClassId × ClassId × ClassId} (l0 : Nat) (l1 : Int32) (l2 : Int32) (M : mj_M) (post : Int32 → mj_M → Prop) (h : vc_X12_live l0 l1 l2 M post) : mj_Met l base D A mj_jI yX12_live cX12_live 4 (some .int) rm_X12_live 0 0 [vR l0, vI l1, vI l2] M post := by
  refine mj_entry (by decide +kernel) (Nat.le_of_ble_eq_true rfl) (fun g hC hE h1 h2 h3 h4 => ?_)
  show mj_X g 0 [(0, vR l0), (1, vI l1), (2, vI l2)] [] M 0 0
  simp only [vc_X12_live] at h
  refine mx_iload_n (j := 1) hC dX12_live_0 rfl rfl ?_
  refine mx_callS (inj := mj_jB) (As := [vI l1]) (st := []) hC (ct_X12_isPerson l1 M _ h) ty_X12_isPerson tw1386 rfl (Nat.le_of_ble_eq_true rfl) ⟨rfl, rfl, ⟨by decide, by decide⟩, by decide, by decide⟩ dX12_live_1 (fun r5 M6 h => ?_)
  show mj_X g 4 [(0, vR l0), (1, vI l1), (2, vI l2)] [vI (mj_b r5)] M6 0 0
  refine mx_ifeqB (tgt := 19) hC dX12_live_4 (by decide) (fun hc7 => ?_) (fun hc7 => ?_)
  · replace h := mj_nn hc7 h
    refine mx_iconst (v := (-1)) hC dX12_live_19 (by decide) ?_
    exact mx_iret hC hE rfl dX12_live_20 h
  · replace h := mj_yy hc7 h
    refine mx_iload_n (j := 2) hC dX12_live_7 rfl rfl ?_
    refine mx_iconst (v := (-1)) hC dX12_live_8 (by decide) ?_
    refine mx_icmpeq (tgt := 21) hC dX12_live_9 (by decide) (fun hc8 => ?_) (fun hc8 => ?_)
    · replace h := mj_yy hc8 h
      refine mx_sub (L' := [(0, vR l0), (1, vI l1), (2, vI l2)]) [0, 1, 2] rfl ?_
      exact show mj_X g 21 [(0, vR l0), (1, vI l1), (2, vI l2)] [] M6 0 0 from (xb_X12_live_21 hC hE l0 l1 l2 M6 h)
    · replace h := mj_nn hc8 h
      refine mx_iload_n (j := 2) hC dX12_live_12 rfl rfl ?_
      refine mx_callS (inj := mj_jB) (As := [vI l2]) (st := []) hC (ct_X12_isFloor l2 M6 _ h) ty_X12_isFloor tw1480 rfl (Nat.le_of_ble_eq_true rfl) ⟨rfl, rfl, ⟨by decide, by decide⟩, by decide, by decide⟩ dX12_live_13 (fun r9 M10 h => ?_)
      show mj_X g 16 [(0, vR l0), (1, vI l1), (2, vI l2)] [vI (mj_b r9)] M10 0 0
      refine mx_ifneB (tgt := 21) hC dX12_live_16 (by decide) (fun hc11 => ?_) (fun hc11 => ?_)
      · replace h := mj_yy hc11 h
        refine mx_sub (L' := [(0, vR l0), (1, vI l1), (2, vI l2)]) [0, 1, 2] rfl ?_
        exact show mj_X g 21 [(0, vR l0), (1, vI l1), (2, vI l2)] [] M10 0 0 from (xb_X12_live_21 hC hE l0 l1 l2 M10 h)
      · replace h := mj_nn hc11 h
        refine mx_iconst (v := (-1)) hC dX12_live_19 (by decide) ?_
        exact mx_iret hC hE rfl dX12_live_20 h
theorem tw1496 : (Jvm.Cond.constantLong "LeaseLandModel" (216 : Nat) (100000 : Int64)) ∈ mj_tbl := mj_w 1549 (by decide +kernel) (by decide +kernel)
theorem tw1497 : (Jvm.Cond.constantLong "LeaseLandModel" (218 : Nat) (100 : Int64)) ∈ mj_tbl := mj_w 1550 (by decide +kernel) (by decide +kernel)
def rm_X12_rent : Room := { frames := 3, cells := 0, slots := 0, locals := 67 }
theorem dX12_rent_0 : decode cX12_rent 0 = .ok (.aload_n 0, 1) := by decide +kernel
theorem dX12_rent_1 : decode cX12_rent 1 = .ok (.iload_n 1, 1) := by decide +kernel
theorem dX12_rent_2 : decode cX12_rent 2 = .ok (.invokevirtual 191, 3) := by decide +kernel
theorem dX12_rent_5 : decode cX12_rent 5 = .ok (.ifCond .ne 5, 3) := by decide +kernel
theorem dX12_rent_8 : decode cX12_rent 8 = .ok (.iconst (-1), 1) := by decide +kernel
theorem dX12_rent_9 : decode cX12_rent 9 = .ok (.ireturn, 1) := by decide +kernel
theorem dX12_rent_10 : decode cX12_rent 10 = .ok (.iload_n 2, 1) := by decide +kernel
theorem dX12_rent_11 : decode cX12_rent 11 = .ok (.i2l, 1) := by decide +kernel
theorem dX12_rent_12 : decode cX12_rent 12 = .ok (.lconst 0, 1) := by decide +kernel
theorem dX12_rent_13 : decode cX12_rent 13 = .ok (.ldc2_w 216, 3) := by decide +kernel
theorem dX12_rent_16 : decode cX12_rent 16 = .ok (.invokestatic 133, 3) := by decide +kernel
theorem dX12_rent_19 : decode cX12_rent 19 = .ok (.ifCond .eq 15, 3) := by decide +kernel
theorem dX12_rent_22 : decode cX12_rent 22 = .ok (.iload_n 3, 1) := by decide +kernel
theorem dX12_rent_23 : decode cX12_rent 23 = .ok (.i2l, 1) := by decide +kernel
theorem dX12_rent_24 : decode cX12_rent 24 = .ok (.lconst 0, 1) := by decide +kernel
theorem dX12_rent_25 : decode cX12_rent 25 = .ok (.ldc2_w 218, 3) := by decide +kernel
theorem dX12_rent_28 : decode cX12_rent 28 = .ok (.invokestatic 133, 3) := by decide +kernel
theorem dX12_rent_31 : decode cX12_rent 31 = .ok (.ifCond .ne 6, 3) := by decide +kernel
theorem dX12_rent_34 : decode cX12_rent 34 = .ok (.bipush (-2), 2) := by decide +kernel
theorem dX12_rent_36 : decode cX12_rent 36 = .ok (.ireturn, 1) := by decide +kernel
theorem dX12_rent_37 : decode cX12_rent 37 = .ok (.aload_n 0, 1) := by decide +kernel
theorem dX12_rent_38 : decode cX12_rent 38 = .ok (.getfield 34, 3) := by decide +kernel
theorem dX12_rent_41 : decode cX12_rent 41 = .ok (.iload_n 1, 1) := by decide +kernel
theorem dX12_rent_42 : decode cX12_rent 42 = .ok (.iaload, 1) := by decide +kernel
theorem dX12_rent_43 : decode cX12_rent 43 = .ok (.istore 4, 2) := by decide +kernel
theorem dX12_rent_45 : decode cX12_rent 45 = .ok (.aload_n 0, 1) := by decide +kernel
theorem dX12_rent_46 : decode cX12_rent 46 = .ok (.getfield 34, 3) := by decide +kernel
theorem dX12_rent_49 : decode cX12_rent 49 = .ok (.iload_n 1, 1) := by decide +kernel
theorem dX12_rent_50 : decode cX12_rent 50 = .ok (.iload_n 2, 1) := by decide +kernel
theorem dX12_rent_51 : decode cX12_rent 51 = .ok (.iastore, 1) := by decide +kernel
theorem dX12_rent_52 : decode cX12_rent 52 = .ok (.aload_n 0, 1) := by decide +kernel
theorem dX12_rent_53 : decode cX12_rent 53 = .ok (.getfield 37, 3) := by decide +kernel
theorem dX12_rent_56 : decode cX12_rent 56 = .ok (.iload_n 1, 1) := by decide +kernel
theorem dX12_rent_57 : decode cX12_rent 57 = .ok (.iload_n 3, 1) := by decide +kernel
theorem dX12_rent_58 : decode cX12_rent 58 = .ok (.iastore, 1) := by decide +kernel
theorem dX12_rent_59 : decode cX12_rent 59 = .ok (.iload 4, 2) := by decide +kernel
theorem dX12_rent_61 : decode cX12_rent 61 = .ok (.ireturn, 1) := by decide +kernel
def vc_X12_rent (l0 : Nat) (l1 : Int32) (l2 : Int32) (l3 : Int32) (M : mj_M) (post : Int32 → mj_M → Prop) : Prop := mj_tag M l0 = 13 ∧ vc_X12_isLease l0 l1 M (fun r2 M3 => if r2 = true then (vc_X12_in ((l2 : Int32).toInt64) 0 100000 M3 (fun r5 M6 => if r5 = true then (vc_X12_in ((l3 : Int32).toInt64) 0 100 M6 (fun r8 M9 => if r8 = true then (mj_tag M9 l0 = 13 ∧ mj_tag M9 (mj_r M9 l0 9) = 101 ∧ vp_in l1 (mj_len M9 (mj_r M9 l0 9)) ∧ mj_tag M9 (mj_r M9 l0 10) = 101 ∧ vp_in l1 (mj_len M9 (mj_r M9 l0 10)) ∧ post (mj_i M9 (mj_r M9 l0 9) (l1 : Int32).toNatClampNeg) (mj_wi (mj_wi M9 (mj_r M9 l0 9) (l1 : Int32).toNatClampNeg l2) (mj_r M9 l0 10) (l1 : Int32).toNatClampNeg l3)) else (post ((-2)) M9))) else (post ((-2)) M6))) else (post ((-1)) M3))
set_option maxHeartbeats 4000000 in
set_option maxRecDepth 100000 in
theorem ct_X12_rent {l : Launch} {base : Nat} {D : va_G} {A : ClassId × ClassId × ClassId} (l0 : Nat) (l1 : Int32) (l2 : Int32) (l3 : Int32) (M : mj_M) (post : Int32 → mj_M → Prop) (h : vc_X12_rent l0 l1 l2 l3 M post) : mj_Met l base D A mj_jI yX12_rent cX12_rent 5 (some .int) rm_X12_rent 0 0 [vR l0, vI l1, vI l2, vI l3] M post := by
  refine mj_entry (by decide +kernel) (Nat.le_of_ble_eq_true rfl) (fun g hC hE h1 h2 h3 h4 => ?_)
  show mj_X g 0 [(0, vR l0), (1, vI l1), (2, vI l2), (3, vI l3)] [] M 0 0
  simp only [vc_X12_rent] at h
  refine mx_aload_n (j := 0) hC dX12_rent_0 rfl rfl ?_
  refine mx_iload_n (j := 1) hC dX12_rent_1 rfl rfl ?_
  obtain ⟨ht1, h⟩ := h
  refine mx_callV (inj := mj_jB) (As := [vI l1]) (st := []) hC (ct_X12_isLease l0 l1 M _ h) ty_X12_isLease tw1448 ht1 rfl (Nat.le_of_ble_eq_true rfl) ⟨rfl, rfl, ⟨by decide, by decide⟩, by decide, by decide⟩ dX12_rent_2 (fun r2 M3 h => ?_)
  show mj_X g 5 [(0, vR l0), (1, vI l1), (2, vI l2), (3, vI l3)] [vI (mj_b r2)] M3 0 0
  refine mx_ifneB (tgt := 10) hC dX12_rent_5 (by decide) (fun hc4 => ?_) (fun hc4 => ?_)
  · replace h := mj_yy hc4 h
    refine mx_iload_n (j := 2) hC dX12_rent_10 rfl rfl ?_
    refine mx_i2l hC dX12_rent_11 ?_
    refine mx_lconst (v := 0) hC dX12_rent_12 (by decide) ?_
    refine mx_ldc2 (v := 100000) hC dX12_rent_13 tw1496 ?_
    refine mx_callS (inj := mj_jB) (As := [vL ((l2 : Int32).toInt64), vL 0, vL 100000]) (st := []) hC (ct_X12_in ((l2 : Int32).toInt64) 0 100000 M3 _ h) ty_X12_in tw1379 rfl (Nat.le_of_ble_eq_true rfl) ⟨rfl, rfl, ⟨by decide, by decide⟩, by decide, by decide⟩ dX12_rent_16 (fun r5 M6 h => ?_)
    show mj_X g 19 [(0, vR l0), (1, vI l1), (2, vI l2), (3, vI l3)] [vI (mj_b r5)] M6 0 0
    refine mx_ifeqB (tgt := 34) hC dX12_rent_19 (by decide) (fun hc7 => ?_) (fun hc7 => ?_)
    · replace h := mj_nn hc7 h
      refine mx_bipush (v := (-2)) hC dX12_rent_34 (by decide) ?_
      exact mx_iret hC hE rfl dX12_rent_36 h
    · replace h := mj_yy hc7 h
      refine mx_iload_n (j := 3) hC dX12_rent_22 rfl rfl ?_
      refine mx_i2l hC dX12_rent_23 ?_
      refine mx_lconst (v := 0) hC dX12_rent_24 (by decide) ?_
      refine mx_ldc2 (v := 100) hC dX12_rent_25 tw1497 ?_
      refine mx_callS (inj := mj_jB) (As := [vL ((l3 : Int32).toInt64), vL 0, vL 100]) (st := []) hC (ct_X12_in ((l3 : Int32).toInt64) 0 100 M6 _ h) ty_X12_in tw1379 rfl (Nat.le_of_ble_eq_true rfl) ⟨rfl, rfl, ⟨by decide, by decide⟩, by decide, by decide⟩ dX12_rent_28 (fun r8 M9 h => ?_)
      show mj_X g 31 [(0, vR l0), (1, vI l1), (2, vI l2), (3, vI l3)] [vI (mj_b r8)] M9 0 0
      refine mx_ifneB (tgt := 37) hC dX12_rent_31 (by decide) (fun hc10 => ?_) (fun hc10 => ?_)
      · replace h := mj_yy hc10 h
        refine mx_aload_n (j := 0) hC dX12_rent_37 rfl rfl ?_
        obtain ⟨ht11, h⟩ := h
        refine mx_get (v := vR (mj_r M9 l0 9)) hC tf_X12_34 ht11 rfl dX12_rent_38 ?_
        refine mx_iload_n (j := 1) hC dX12_rent_41 rfl rfl ?_
        obtain ⟨ht12, h⟩ := h
        obtain ⟨hi13, h⟩ := h
        refine mx_iaload hC ht12 hi13 dX12_rent_42 ?_
        refine mx_istore (L' := [(4, vI (mj_i M9 (mj_r M9 l0 9) (l1 : Int32).toNatClampNeg)), (0, vR l0), (1, vI l1), (2, vI l2), (3, vI l3)]) hC dX12_rent_43 (by decide) rfl ?_
        refine mx_aload_n (j := 1) hC dX12_rent_45 rfl rfl ?_
        refine mx_get (v := vR (mj_r M9 l0 9)) hC tf_X12_34 ht11 rfl dX12_rent_46 ?_
        refine mx_iload_n (j := 2) hC dX12_rent_49 rfl rfl ?_
        refine mx_iload_n (j := 3) hC dX12_rent_50 rfl rfl ?_
        refine mx_iastore hC ht12 hi13 dX12_rent_51 ?_
        refine mx_aload_n (j := 1) hC dX12_rent_52 rfl rfl ?_
        refine mx_get (v := vR (mj_r M9 l0 10)) hC tf_X12_37 ht11 rfl dX12_rent_53 ?_
        refine mx_iload_n (j := 2) hC dX12_rent_56 rfl rfl ?_
        refine mx_iload_n (j := 4) hC dX12_rent_57 rfl rfl ?_
        obtain ⟨ht14, h⟩ := h
        obtain ⟨hi15, h⟩ := h
        refine mx_iastore hC ht14 hi15 dX12_rent_58 ?_
        refine mx_iload (j := 0) hC dX12_rent_59 rfl ?_
        exact mx_iret hC hE rfl dX12_rent_61 h
      · replace h := mj_nn hc10 h
        refine mx_bipush (v := (-2)) hC dX12_rent_34 (by decide) ?_
        exact mx_iret hC hE rfl dX12_rent_36 h
  · replace h := mj_nn hc4 h
    refine mx_iconst (v := (-1)) hC dX12_rent_8 (by decide) ?_
    exact mx_iret hC hE rfl dX12_rent_9 h
def rm_X12_rateOf : Room := { frames := 2, cells := 0, slots := 0, locals := 43 }
theorem dX12_rateOf_0 : decode cX12_rateOf 0 = .ok (.aload_n 0, 1) := by decide +kernel
theorem dX12_rateOf_1 : decode cX12_rateOf 1 = .ok (.iload_n 1, 1) := by decide +kernel
theorem dX12_rateOf_2 : decode cX12_rateOf 2 = .ok (.iload_n 2, 1) := by decide +kernel
theorem dX12_rateOf_3 : decode cX12_rateOf 3 = .ok (.invokevirtual 187, 3) := by decide +kernel
theorem dX12_rateOf_6 : decode cX12_rateOf 6 = .ok (.ifCond .ne 5, 3) := by decide +kernel
theorem dX12_rateOf_9 : decode cX12_rateOf 9 = .ok (.iconst 0, 1) := by decide +kernel
theorem dX12_rateOf_10 : decode cX12_rateOf 10 = .ok (.ireturn, 1) := by decide +kernel
theorem dX12_rateOf_11 : decode cX12_rateOf 11 = .ok (.aload_n 0, 1) := by decide +kernel
theorem dX12_rateOf_12 : decode cX12_rateOf 12 = .ok (.getfield 37, 3) := by decide +kernel
theorem dX12_rateOf_15 : decode cX12_rateOf 15 = .ok (.iload_n 1, 1) := by decide +kernel
theorem dX12_rateOf_16 : decode cX12_rateOf 16 = .ok (.iaload, 1) := by decide +kernel
theorem dX12_rateOf_17 : decode cX12_rateOf 17 = .ok (.ifCond .ne 7, 3) := by decide +kernel
theorem dX12_rateOf_20 : decode cX12_rateOf 20 = .ok (.iconst 0, 1) := by decide +kernel
theorem dX12_rateOf_21 : decode cX12_rateOf 21 = .ok (.goto 27, 3) := by decide +kernel
theorem dX12_rateOf_24 : decode cX12_rateOf 24 = .ok (.bipush 10, 2) := by decide +kernel
theorem dX12_rateOf_26 : decode cX12_rateOf 26 = .ok (.iload_n 2, 1) := by decide +kernel
theorem dX12_rateOf_27 : decode cX12_rateOf 27 = .ok (.aload_n 0, 1) := by decide +kernel
theorem dX12_rateOf_28 : decode cX12_rateOf 28 = .ok (.getfield 16, 3) := by decide +kernel
theorem dX12_rateOf_31 : decode cX12_rateOf 31 = .ok (.iload_n 1, 1) := by decide +kernel
theorem dX12_rateOf_32 : decode cX12_rateOf 32 = .ok (.iaload, 1) := by decide +kernel
theorem dX12_rateOf_33 : decode cX12_rateOf 33 = .ok (.isub, 1) := by decide +kernel
theorem dX12_rateOf_34 : decode cX12_rateOf 34 = .ok (.sipush 365, 3) := by decide +kernel
theorem dX12_rateOf_37 : decode cX12_rateOf 37 = .ok (.aload_n 0, 1) := by decide +kernel
theorem dX12_rateOf_38 : decode cX12_rateOf 38 = .ok (.getfield 37, 3) := by decide +kernel
theorem dX12_rateOf_41 : decode cX12_rateOf 41 = .ok (.iload_n 1, 1) := by decide +kernel
theorem dX12_rateOf_42 : decode cX12_rateOf 42 = .ok (.iaload, 1) := by decide +kernel
theorem dX12_rateOf_43 : decode cX12_rateOf 43 = .ok (.imul, 1) := by decide +kernel
theorem dX12_rateOf_44 : decode cX12_rateOf 44 = .ok (.idiv, 1) := by decide +kernel
theorem dX12_rateOf_45 : decode cX12_rateOf 45 = .ok (.invokestatic 169, 3) := by decide +kernel
theorem dX12_rateOf_48 : decode cX12_rateOf 48 = .ok (.istore_n 3, 1) := by decide +kernel
theorem dX12_rateOf_49 : decode cX12_rateOf 49 = .ok (.aload_n 0, 1) := by decide +kernel
theorem dX12_rateOf_50 : decode cX12_rateOf 50 = .ok (.getfield 34, 3) := by decide +kernel
theorem dX12_rateOf_53 : decode cX12_rateOf 53 = .ok (.iload_n 1, 1) := by decide +kernel
theorem dX12_rateOf_54 : decode cX12_rateOf 54 = .ok (.iaload, 1) := by decide +kernel
theorem dX12_rateOf_55 : decode cX12_rateOf 55 = .ok (.iload_n 3, 1) := by decide +kernel
theorem dX12_rateOf_56 : decode cX12_rateOf 56 = .ok (.ishl, 1) := by decide +kernel
theorem dX12_rateOf_57 : decode cX12_rateOf 57 = .ok (.ireturn, 1) := by decide +kernel
def vb_X12_rateOf_48 (post : Int32 → mj_M → Prop) (l0 : Nat) (l1 : Int32) (s0 : Int32) (M : mj_M) : Prop := mj_tag M l0 = 13 ∧ mj_tag M (mj_r M l0 9) = 101 ∧ vp_in l1 (mj_len M (mj_r M l0 9)) ∧ post ((mj_i M (mj_r M l0 9) (l1 : Int32).toNatClampNeg) <<< (s0 &&& 31)) M
def vc_X12_rateOf (l0 : Nat) (l1 : Int32) (l2 : Int32) (M : mj_M) (post : Int32 → mj_M → Prop) : Prop := mj_tag M l0 = 13 ∧ vc_X12_isOn l0 l1 l2 M (fun r5 M6 => if r5 = true then (mj_tag M6 l0 = 13 ∧ mj_tag M6 (mj_r M6 l0 10) = 101 ∧ vp_in l1 (mj_len M6 (mj_r M6 l0 10)) ∧ if (mj_i M6 (mj_r M6 l0 10) (l1 : Int32).toNatClampNeg) = 0 then (vb_X12_rateOf_48 post l0 l1 0 M6) else (mj_tag M6 (mj_r M6 l0 3) = 101 ∧ vp_in l1 (mj_len M6 (mj_r M6 l0 3)) ∧ (¬ (365 * (mj_i M6 (mj_r M6 l0 10) (l1 : Int32).toNatClampNeg)) = 0) ∧ vc_X12_lesser 10 ((l2 - (mj_i M6 (mj_r M6 l0 3) (l1 : Int32).toNatClampNeg)) / (365 * (mj_i M6 (mj_r M6 l0 10) (l1 : Int32).toNatClampNeg))) M6 (fun r15 M16 => vb_X12_rateOf_48 post l0 l1 r15 M16))) else (post 0 M6))
set_option maxHeartbeats 4000000 in
set_option maxRecDepth 100000 in
theorem xb_X12_rateOf_48 {g : mj_G} {post : Int32 → mj_M → Prop} (hC : mj_C g yX12_rateOf cX12_rateOf 4 (some .int) rm_X12_rateOf) (hE : mj_E g mj_jI post 0 0) (l0 : Nat) (l1 : Int32) (s0 : Int32) (M : mj_M) (h : vb_X12_rateOf_48 post l0 l1 s0 M) : mj_X g 48 [(0, vR l0), (1, vI l1)] [vI s0] M 0 0 := by
  simp only [vb_X12_rateOf_48] at h
  refine mx_istore_n (L' := [(3, vI s0), (0, vR l0), (1, vI l1)]) hC dX12_rateOf_48 rfl (by decide) rfl ?_
  refine mx_aload_n (j := 1) hC dX12_rateOf_49 rfl rfl ?_
  obtain ⟨ht1, h⟩ := h
  refine mx_get (v := vR (mj_r M l0 9)) hC tf_X12_34 ht1 rfl dX12_rateOf_50 ?_
  refine mx_iload_n (j := 2) hC dX12_rateOf_53 rfl rfl ?_
  obtain ⟨ht2, h⟩ := h
  obtain ⟨hi3, h⟩ := h
  refine mx_iaload hC ht2 hi3 dX12_rateOf_54 ?_
  refine mx_iload_n (j := 0) hC dX12_rateOf_55 rfl rfl ?_
  refine mx_ishl hC dX12_rateOf_56 ?_
  exact mx_iret hC hE rfl dX12_rateOf_57 h
set_option maxHeartbeats 4000000 in
set_option maxRecDepth 100000 in
theorem ct_X12_rateOf {l : Launch} {base : Nat} {D : va_G} {A : ClassId × ClassId × ClassId} (l0 : Nat) (l1 : Int32) (l2 : Int32) (M : mj_M) (post : Int32 → mj_M → Prop) (h : vc_X12_rateOf l0 l1 l2 M post) : mj_Met l base D A mj_jI yX12_rateOf cX12_rateOf 4 (some .int) rm_X12_rateOf 0 0 [vR l0, vI l1, vI l2] M post := by
  refine mj_entry (by decide +kernel) (Nat.le_of_ble_eq_true rfl) (fun g hC hE h1 h2 h3 h4 => ?_)
  show mj_X g 0 [(0, vR l0), (1, vI l1), (2, vI l2)] [] M 0 0
  simp only [vc_X12_rateOf] at h
  refine mx_aload_n (j := 0) hC dX12_rateOf_0 rfl rfl ?_
  refine mx_iload_n (j := 1) hC dX12_rateOf_1 rfl rfl ?_
  refine mx_iload_n (j := 2) hC dX12_rateOf_2 rfl rfl ?_
  obtain ⟨ht4, h⟩ := h
  refine mx_callV (inj := mj_jB) (As := [vI l1, vI l2]) (st := []) hC (ct_X12_isOn l0 l1 l2 M _ h) ty_X12_isOn tw1440 ht4 rfl (Nat.le_of_ble_eq_true rfl) ⟨rfl, rfl, ⟨by decide, by decide⟩, by decide, by decide⟩ dX12_rateOf_3 (fun r5 M6 h => ?_)
  show mj_X g 6 [(0, vR l0), (1, vI l1), (2, vI l2)] [vI (mj_b r5)] M6 0 0
  refine mx_ifneB (tgt := 11) hC dX12_rateOf_6 (by decide) (fun hc7 => ?_) (fun hc7 => ?_)
  · replace h := mj_yy hc7 h
    refine mx_aload_n (j := 0) hC dX12_rateOf_11 rfl rfl ?_
    obtain ⟨ht8, h⟩ := h
    refine mx_get (v := vR (mj_r M6 l0 10)) hC tf_X12_37 ht8 rfl dX12_rateOf_12 ?_
    refine mx_iload_n (j := 1) hC dX12_rateOf_15 rfl rfl ?_
    obtain ⟨ht9, h⟩ := h
    obtain ⟨hi10, h⟩ := h
    refine mx_iaload hC ht9 hi10 dX12_rateOf_16 ?_
    refine mx_ifne (tgt := 24) hC dX12_rateOf_17 (by decide) (fun hc11 => ?_) (fun hc11 => ?_)
    · replace h := mj_nn hc11 h
      refine mx_bipush (v := 10) hC dX12_rateOf_24 (by decide) ?_
      refine mx_iload_n (j := 2) hC dX12_rateOf_26 rfl rfl ?_
      refine mx_aload_n (j := 0) hC dX12_rateOf_27 rfl rfl ?_
      refine mx_get (v := vR (mj_r M6 l0 3)) hC tf_X12_16 ht8 rfl dX12_rateOf_28 ?_
      refine mx_iload_n (j := 1) hC dX12_rateOf_31 rfl rfl ?_
      obtain ⟨ht12, h⟩ := h
      obtain ⟨hi13, h⟩ := h
      refine mx_iaload hC ht12 hi13 dX12_rateOf_32 ?_
      refine mx_isub hC dX12_rateOf_33 ?_
      refine mx_sipush (v := 365) hC dX12_rateOf_34 (by decide) ?_
      refine mx_aload_n (j := 0) hC dX12_rateOf_37 rfl rfl ?_
      refine mx_get (v := vR (mj_r M6 l0 10)) hC tf_X12_37 ht8 rfl dX12_rateOf_38 ?_
      refine mx_iload_n (j := 1) hC dX12_rateOf_41 rfl rfl ?_
      refine mx_iaload hC ht9 hi10 dX12_rateOf_42 ?_
      refine mx_imul hC dX12_rateOf_43 ?_
      obtain ⟨hz14, h⟩ := h
      refine mx_idiv hC dX12_rateOf_44 hz14 ?_
      refine mx_callS (inj := mj_jI) (As := [vI 10, vI ((l2 - (mj_i M6 (mj_r M6 l0 3) (l1 : Int32).toNatClampNeg)) / (365 * (mj_i M6 (mj_r M6 l0 10) (l1 : Int32).toNatClampNeg)))]) (st := []) hC (ct_X12_lesser 10 ((l2 - (mj_i M6 (mj_r M6 l0 3) (l1 : Int32).toNatClampNeg)) / (365 * (mj_i M6 (mj_r M6 l0 10) (l1 : Int32).toNatClampNeg))) M6 _ h) ty_X12_lesser tw1429 rfl (Nat.le_of_ble_eq_true rfl) ⟨rfl, rfl, ⟨by decide, by decide⟩, by decide, by decide⟩ dX12_rateOf_45 (fun r15 M16 h => ?_)
      show mj_X g 48 [(0, vR l0), (1, vI l1), (2, vI l2)] [vI r15] M16 0 0
      refine mx_sub (L' := [(0, vR l0), (1, vI l1)]) [0, 1] rfl ?_
      exact show mj_X g 48 [(0, vR l0), (1, vI l1)] [vI r15] M16 0 0 from (xb_X12_rateOf_48 hC hE l0 l1 r15 M16 h)
    · replace h := mj_yy hc11 h
      refine mx_iconst (v := 0) hC dX12_rateOf_20 (by decide) ?_
      refine mx_goto (tgt := 48) hC dX12_rateOf_21 (by decide) ?_
      refine mx_sub (L' := [(0, vR l0), (1, vI l1)]) [0, 1] rfl ?_
      exact show mj_X g 48 [(0, vR l0), (1, vI l1)] [vI 0] M6 0 0 from (xb_X12_rateOf_48 hC hE l0 l1 0 M6 h)
  · replace h := mj_nn hc7 h
    refine mx_iconst (v := 0) hC dX12_rateOf_9 (by decide) ?_
    exact mx_iret hC hE rfl dX12_rateOf_10 h
theorem tw1502 : (Jvm.Cond.methodLink "LeaseLandModel" (220 : Nat) ({ cls := "LeaseLandModel", name := "isDay", desc := "(I)Z" } : Jvm.MethodName)) ∈ mj_tbl := mj_w 1555 (by decide +kernel) (by decide +kernel)
theorem tw1505 : (Jvm.Cond.methodLink "LeaseLandModel" (223 : Nat) ({ cls := "LeaseLandModel", name := "rateOf", desc := "(II)I" } : Jvm.MethodName)) ∈ mj_tbl := mj_w 1558 (by decide +kernel) (by decide +kernel)
theorem tw1504 : (Jvm.Cond.code ({ cls := "LeaseLandModel", name := "isDay", desc := "(I)Z" } : Jvm.MethodName) prog_14_method_9_code (1 : Nat) (Option.some Jvm.ClassFile.FieldType.boolean)) ∈ mj_tbl := mj_w 1557 (by decide +kernel) (by decide +kernel)
theorem tw1503 : (Jvm.Cond.static ({ cls := "LeaseLandModel", name := "isDay", desc := "(I)Z" } : Jvm.MethodName)) ∈ mj_tbl := mj_w 1556 (by decide +kernel) (by decide +kernel)
theorem ty_X12_isDay : mj_YS yX12_isDay cX12_isDay 1 (some .boolean) 1 := ⟨⟨tw1504, tw11, by decide +kernel, by decide +kernel, by decide +kernel⟩, tw1503⟩
theorem tw1508 : (Jvm.Cond.code ({ cls := "LeaseLandModel", name := "rateOf", desc := "(II)I" } : Jvm.MethodName) prog_14_method_37_code (4 : Nat) (Option.some Jvm.ClassFile.FieldType.int)) ∈ mj_tbl := mj_w 1561 (by decide +kernel) (by decide +kernel)
theorem tw1507 : (Jvm.Cond.instanceMethod ({ cls := "LeaseLandModel", name := "rateOf", desc := "(II)I" } : Jvm.MethodName)) ∈ mj_tbl := mj_w 1560 (by decide +kernel) (by decide +kernel)
theorem ty_X12_rateOf : mj_YV 12 yX12_rateOf cX12_rateOf 4 (some .int) 2 := ⟨⟨tw1508, tw11, by decide +kernel, by decide +kernel, by decide +kernel⟩, tw1507, mj_w 19 (by decide +kernel) (by decide +kernel), _, rfl, rfl⟩
def rm_X12_rate : Room := { frames := 3, cells := 0, slots := 0, locals := 66 }
theorem dX12_rate_0 : decode cX12_rate 0 = .ok (.aload_n 0, 1) := by decide +kernel
theorem dX12_rate_1 : decode cX12_rate 1 = .ok (.iload_n 1, 1) := by decide +kernel
theorem dX12_rate_2 : decode cX12_rate 2 = .ok (.invokevirtual 137, 3) := by decide +kernel
theorem dX12_rate_5 : decode cX12_rate 5 = .ok (.ifCond .ne 5, 3) := by decide +kernel
theorem dX12_rate_8 : decode cX12_rate 8 = .ok (.iconst (-1), 1) := by decide +kernel
theorem dX12_rate_9 : decode cX12_rate 9 = .ok (.ireturn, 1) := by decide +kernel
theorem dX12_rate_10 : decode cX12_rate 10 = .ok (.iload_n 2, 1) := by decide +kernel
theorem dX12_rate_11 : decode cX12_rate 11 = .ok (.invokestatic 220, 3) := by decide +kernel
theorem dX12_rate_14 : decode cX12_rate 14 = .ok (.ifCond .eq 12, 3) := by decide +kernel
theorem dX12_rate_17 : decode cX12_rate 17 = .ok (.aload_n 0, 1) := by decide +kernel
theorem dX12_rate_18 : decode cX12_rate 18 = .ok (.iload_n 1, 1) := by decide +kernel
theorem dX12_rate_19 : decode cX12_rate 19 = .ok (.iload_n 2, 1) := by decide +kernel
theorem dX12_rate_20 : decode cX12_rate 20 = .ok (.invokevirtual 223, 3) := by decide +kernel
theorem dX12_rate_23 : decode cX12_rate 23 = .ok (.goto 5, 3) := by decide +kernel
theorem dX12_rate_26 : decode cX12_rate 26 = .ok (.bipush (-2), 2) := by decide +kernel
theorem dX12_rate_28 : decode cX12_rate 28 = .ok (.ireturn, 1) := by decide +kernel
def vc_X12_rate (l0 : Nat) (l1 : Int32) (l2 : Int32) (M : mj_M) (post : Int32 → mj_M → Prop) : Prop := mj_tag M l0 = 13 ∧ vc_X12_isHolding l0 l1 M (fun r2 M3 => if r2 = true then (vc_X12_isDay l2 M3 (fun r5 M6 => if r5 = true then (mj_tag M6 l0 = 13 ∧ vc_X12_rateOf l0 l1 l2 M6 (fun r9 M10 => post r9 M10)) else (post ((-2)) M6))) else (post ((-1)) M3))
set_option maxHeartbeats 4000000 in
set_option maxRecDepth 100000 in
theorem ct_X12_rate {l : Launch} {base : Nat} {D : va_G} {A : ClassId × ClassId × ClassId} (l0 : Nat) (l1 : Int32) (l2 : Int32) (M : mj_M) (post : Int32 → mj_M → Prop) (h : vc_X12_rate l0 l1 l2 M post) : mj_Met l base D A mj_jI yX12_rate cX12_rate 3 (some .int) rm_X12_rate 0 0 [vR l0, vI l1, vI l2] M post := by
  refine mj_entry (by decide +kernel) (Nat.le_of_ble_eq_true rfl) (fun g hC hE h1 h2 h3 h4 => ?_)
  show mj_X g 0 [(0, vR l0), (1, vI l1), (2, vI l2)] [] M 0 0
  simp only [vc_X12_rate] at h
  refine mx_aload_n (j := 0) hC dX12_rate_0 rfl rfl ?_
  refine mx_iload_n (j := 1) hC dX12_rate_1 rfl rfl ?_
  obtain ⟨ht1, h⟩ := h
  refine mx_callV (inj := mj_jB) (As := [vI l1]) (st := []) hC (ct_X12_isHolding l0 l1 M _ h) ty_X12_isHolding tw1407 ht1 rfl (Nat.le_of_ble_eq_true rfl) ⟨rfl, rfl, ⟨by decide, by decide⟩, by decide, by decide⟩ dX12_rate_2 (fun r2 M3 h => ?_)
  show mj_X g 5 [(0, vR l0), (1, vI l1), (2, vI l2)] [vI (mj_b r2)] M3 0 0
  refine mx_ifneB (tgt := 10) hC dX12_rate_5 (by decide) (fun hc4 => ?_) (fun hc4 => ?_)
  · replace h := mj_yy hc4 h
    refine mx_iload_n (j := 2) hC dX12_rate_10 rfl rfl ?_
    refine mx_callS (inj := mj_jB) (As := [vI l2]) (st := []) hC (ct_X12_isDay l2 M3 _ h) ty_X12_isDay tw1502 rfl (Nat.le_of_ble_eq_true rfl) ⟨rfl, rfl, ⟨by decide, by decide⟩, by decide, by decide⟩ dX12_rate_11 (fun r5 M6 h => ?_)
    show mj_X g 14 [(0, vR l0), (1, vI l1), (2, vI l2)] [vI (mj_b r5)] M6 0 0
    refine mx_ifeqB (tgt := 26) hC dX12_rate_14 (by decide) (fun hc7 => ?_) (fun hc7 => ?_)
    · replace h := mj_nn hc7 h
      refine mx_bipush (v := (-2)) hC dX12_rate_26 (by decide) ?_
      exact mx_iret hC hE rfl dX12_rate_28 h
    · replace h := mj_yy hc7 h
      refine mx_aload_n (j := 0) hC dX12_rate_17 rfl rfl ?_
      refine mx_iload_n (j := 1) hC dX12_rate_18 rfl rfl ?_
      refine mx_iload_n (j := 2) hC dX12_rate_19 rfl rfl ?_
      obtain ⟨ht8, h⟩ := h
      refine mx_callV (inj := mj_jI) (As := [vI l1, vI l2]) (st := []) hC (ct_X12_rateOf l0 l1 l2 M6 _ h) ty_X12_rateOf tw1505 ht8 rfl (Nat.le_of_ble_eq_true rfl) ⟨rfl, rfl, ⟨by decide, by decide⟩, by decide, by decide⟩ dX12_rate_20 (fun r9 M10 h => ?_)
      show mj_X g 23 [(0, vR l0), (1, vI l1), (2, vI l2)] [vI r9] M10 0 0
      refine mx_goto (tgt := 28) hC dX12_rate_23 (by decide) ?_
      exact mx_iret hC hE rfl dX12_rate_28 h
  · replace h := mj_nn hc4 h
    refine mx_iconst (v := (-1)) hC dX12_rate_8 (by decide) ?_
    exact mx_iret hC hE rfl dX12_rate_9 h
theorem tw1513 : (Jvm.Cond.constantLong "LeaseLandModel" (226 : Nat) (-1000000000000001 : Int64)) ∈ mj_tbl := mj_w 1566 (by decide +kernel) (by decide +kernel)
theorem tw1514 : (Jvm.Cond.constantLong "LeaseLandModel" (228 : Nat) (-1000000000000002 : Int64)) ∈ mj_tbl := mj_w 1567 (by decide +kernel) (by decide +kernel)
theorem tw1515 : (Jvm.Cond.constantLong "LeaseLandModel" (230 : Nat) (365 : Int64)) ∈ mj_tbl := mj_w 1568 (by decide +kernel) (by decide +kernel)
def rm_X12_owed : Room := { frames := 3, cells := 0, slots := 0, locals := 66 }
theorem dX12_owed_0 : decode cX12_owed 0 = .ok (.aload_n 0, 1) := by decide +kernel
theorem dX12_owed_1 : decode cX12_owed 1 = .ok (.iload_n 1, 1) := by decide +kernel
theorem dX12_owed_2 : decode cX12_owed 2 = .ok (.invokevirtual 137, 3) := by decide +kernel
theorem dX12_owed_5 : decode cX12_owed 5 = .ok (.ifCond .ne 7, 3) := by decide +kernel
theorem dX12_owed_8 : decode cX12_owed 8 = .ok (.ldc2_w 226, 3) := by decide +kernel
theorem dX12_owed_11 : decode cX12_owed 11 = .ok (.lreturn, 1) := by decide +kernel
theorem dX12_owed_12 : decode cX12_owed 12 = .ok (.iload_n 2, 1) := by decide +kernel
theorem dX12_owed_13 : decode cX12_owed 13 = .ok (.invokestatic 220, 3) := by decide +kernel
theorem dX12_owed_16 : decode cX12_owed 16 = .ok (.ifCond .eq 15, 3) := by decide +kernel
theorem dX12_owed_19 : decode cX12_owed 19 = .ok (.iload_n 3, 1) := by decide +kernel
theorem dX12_owed_20 : decode cX12_owed 20 = .ok (.invokestatic 220, 3) := by decide +kernel
theorem dX12_owed_23 : decode cX12_owed 23 = .ok (.ifCond .eq 8, 3) := by decide +kernel
theorem dX12_owed_26 : decode cX12_owed 26 = .ok (.iload_n 2, 1) := by decide +kernel
theorem dX12_owed_27 : decode cX12_owed 27 = .ok (.iload_n 3, 1) := by decide +kernel
theorem dX12_owed_28 : decode cX12_owed 28 = .ok (.if_icmp .le 7, 3) := by decide +kernel
theorem dX12_owed_31 : decode cX12_owed 31 = .ok (.ldc2_w 228, 3) := by decide +kernel
theorem dX12_owed_34 : decode cX12_owed 34 = .ok (.lreturn, 1) := by decide +kernel
theorem dX12_owed_35 : decode cX12_owed 35 = .ok (.lconst 0, 1) := by decide +kernel
theorem dX12_owed_36 : decode cX12_owed 36 = .ok (.lstore 4, 2) := by decide +kernel
theorem dX12_owed_38 : decode cX12_owed 38 = .ok (.iload_n 2, 1) := by decide +kernel
theorem dX12_owed_39 : decode cX12_owed 39 = .ok (.istore 6, 2) := by decide +kernel
theorem dX12_owed_41 : decode cX12_owed 41 = .ok (.iload 6, 2) := by decide +kernel
theorem dX12_owed_43 : decode cX12_owed 43 = .ok (.iload_n 3, 1) := by decide +kernel
theorem dX12_owed_44 : decode cX12_owed 44 = .ok (.if_icmp .ge 22, 3) := by decide +kernel
theorem dX12_owed_47 : decode cX12_owed 47 = .ok (.lload 4, 2) := by decide +kernel
theorem dX12_owed_49 : decode cX12_owed 49 = .ok (.aload_n 0, 1) := by decide +kernel
theorem dX12_owed_50 : decode cX12_owed 50 = .ok (.iload_n 1, 1) := by decide +kernel
theorem dX12_owed_51 : decode cX12_owed 51 = .ok (.iload 6, 2) := by decide +kernel
theorem dX12_owed_53 : decode cX12_owed 53 = .ok (.invokevirtual 223, 3) := by decide +kernel
theorem dX12_owed_56 : decode cX12_owed 56 = .ok (.i2l, 1) := by decide +kernel
theorem dX12_owed_57 : decode cX12_owed 57 = .ok (.ladd, 1) := by decide +kernel
theorem dX12_owed_58 : decode cX12_owed 58 = .ok (.lstore 4, 2) := by decide +kernel
theorem dX12_owed_60 : decode cX12_owed 60 = .ok (.iinc 6 1, 3) := by decide +kernel
theorem dX12_owed_63 : decode cX12_owed 63 = .ok (.goto (-22), 3) := by decide +kernel
theorem dX12_owed_66 : decode cX12_owed 66 = .ok (.lload 4, 2) := by decide +kernel
theorem dX12_owed_68 : decode cX12_owed 68 = .ok (.ldc2_w 230, 3) := by decide +kernel
theorem dX12_owed_71 : decode cX12_owed 71 = .ok (.ldiv, 1) := by decide +kernel
theorem dX12_owed_72 : decode cX12_owed 72 = .ok (.lreturn, 1) := by decide +kernel
def vb_X12_owed_41 (post : Int64 → mj_M → Prop) : Nat → Nat → Int32 → Int32 → Int64 → Int32 → mj_M → Prop
  | 0 => fun _ _ _ _ _ _ => False
  | f + 1 => fun l0 l1 l3 l4 l6 M => if l3 ≤ l6 then (post (l4 / 365) M) else (mj_tag M l0 = 13 ∧ vc_X12_rateOf l0 l1 l6 M (fun r3 M4 => vb_X12_owed_41 post f l0 l1 l3 (l4 + ((r3 : Int32).toInt64)) (l6 + 1) M4))
def vc_X12_owed (l0 : Nat) (l1 : Int32) (l2 : Int32) (l3 : Int32) (M : mj_M) (post : Int64 → mj_M → Prop) : Prop := mj_tag M l0 = 13 ∧ vc_X12_isHolding l0 l1 M (fun r6 M7 => if r6 = true then (vc_X12_isDay l2 M7 (fun r9 M10 => if r9 = true then (vc_X12_isDay l3 M10 (fun r12 M13 => if r12 = true then (if l2 ≤ l3 then (∃ fe, vb_X12_owed_41 post fe l0 l1 l3 0 l2 M13) else (post ((-1000000000000002)) M13)) else (post ((-1000000000000002)) M13))) else (post ((-1000000000000002)) M10))) else (post ((-1000000000000001)) M7))
set_option maxHeartbeats 4000000 in
set_option maxRecDepth 100000 in
theorem xb_X12_owed_41 {g : mj_G} {post : Int64 → mj_M → Prop} (hC : mj_C g yX12_owed cX12_owed 7 (some .long) rm_X12_owed) (hE : mj_E g mj_jL post 0 0) : ∀ (f : Nat) (l0 : Nat) (l1 : Int32) (l3 : Int32) (l4 : Int64) (l6 : Int32) (M : mj_M), vb_X12_owed_41 post f l0 l1 l3 l4 l6 M → mj_X g 41 [(0, vR l0), (1, vI l1), (3, vI l3), (4, vL l4), (6, vI l6)] [] M 0 0 := by
  intro f
  induction f with
  | zero => exact fun _ _ _ _ _ _ h => absurd h (fun z => z)
  | succ f ih =>
    intro l0 l1 l3 l4 l6 M h
    simp only [vb_X12_owed_41] at h
    refine mx_iload (j := 4) hC dX12_owed_41 rfl ?_
    refine mx_iload_n (j := 2) hC dX12_owed_43 rfl rfl ?_
    refine mx_icmpge (tgt := 66) hC dX12_owed_44 (by decide) (fun hc1 => ?_) (fun hc1 => ?_)
    · replace h := mj_yy hc1 h
      refine mx_lload (j := 3) hC dX12_owed_66 rfl ?_
      refine mx_ldc2 (v := 365) hC dX12_owed_68 tw1515 ?_
      refine mx_ldiv hC dX12_owed_71 (by decide) ?_
      exact mx_lret hC hE rfl dX12_owed_72 h
    · replace h := mj_nn hc1 h
      refine mx_lload (j := 3) hC dX12_owed_47 rfl ?_
      refine mx_aload_n (j := 0) hC dX12_owed_49 rfl rfl ?_
      refine mx_iload_n (j := 1) hC dX12_owed_50 rfl rfl ?_
      refine mx_iload (j := 4) hC dX12_owed_51 rfl ?_
      obtain ⟨ht2, h⟩ := h
      refine mx_callV (inj := mj_jI) (As := [vI l1, vI l6]) (st := [vL l4]) hC (ct_X12_rateOf l0 l1 l6 M _ h) ty_X12_rateOf tw1505 ht2 rfl (Nat.le_of_ble_eq_true rfl) ⟨rfl, rfl, ⟨by decide, by decide⟩, by decide, by decide⟩ dX12_owed_53 (fun r3 M4 h => ?_)
      show mj_X g 56 [(0, vR l0), (1, vI l1), (3, vI l3), (4, vL l4), (6, vI l6)] [vI r3, vL l4] M4 0 0
      refine mx_i2l hC dX12_owed_56 ?_
      refine mx_ladd hC dX12_owed_57 ?_
      refine mx_lstore (L' := [(4, vL (l4 + ((r3 : Int32).toInt64))), (0, vR l0), (1, vI l1), (3, vI l3), (6, vI l6)]) hC dX12_owed_58 (by decide) rfl ?_
      refine mx_iinc (j := 4) (v := l6 + 1) (L' := [(6, vI (l6 + 1)), (4, vL (l4 + ((r3 : Int32).toInt64))), (0, vR l0), (1, vI l1), (3, vI l3)]) hC dX12_owed_60 rfl rfl (by decide) rfl ?_
      refine mx_goto (tgt := 41) hC dX12_owed_63 (by decide) ?_
      refine mx_sub (L' := [(0, vR l0), (1, vI l1), (3, vI l3), (4, vL (l4 + ((r3 : Int32).toInt64))), (6, vI (l6 + 1))]) [2, 3, 4, 1, 0] rfl ?_
      exact show mj_X g 41 [(0, vR l0), (1, vI l1), (3, vI l3), (4, vL (l4 + ((r3 : Int32).toInt64))), (6, vI (l6 + 1))] [] M4 0 0 from (ih l0 l1 l3 (l4 + ((r3 : Int32).toInt64)) (l6 + 1) M4 h)
set_option maxHeartbeats 4000000 in
set_option maxRecDepth 100000 in
theorem ct_X12_owed {l : Launch} {base : Nat} {D : va_G} {A : ClassId × ClassId × ClassId} (l0 : Nat) (l1 : Int32) (l2 : Int32) (l3 : Int32) (M : mj_M) (post : Int64 → mj_M → Prop) (h : vc_X12_owed l0 l1 l2 l3 M post) : mj_Met l base D A mj_jL yX12_owed cX12_owed 7 (some .long) rm_X12_owed 0 0 [vR l0, vI l1, vI l2, vI l3] M post := by
  refine mj_entry (by decide +kernel) (Nat.le_of_ble_eq_true rfl) (fun g hC hE h1 h2 h3 h4 => ?_)
  show mj_X g 0 [(0, vR l0), (1, vI l1), (2, vI l2), (3, vI l3)] [] M 0 0
  simp only [vc_X12_owed] at h
  refine mx_aload_n (j := 0) hC dX12_owed_0 rfl rfl ?_
  refine mx_iload_n (j := 1) hC dX12_owed_1 rfl rfl ?_
  obtain ⟨ht5, h⟩ := h
  refine mx_callV (inj := mj_jB) (As := [vI l1]) (st := []) hC (ct_X12_isHolding l0 l1 M _ h) ty_X12_isHolding tw1407 ht5 rfl (Nat.le_of_ble_eq_true rfl) ⟨rfl, rfl, ⟨by decide, by decide⟩, by decide, by decide⟩ dX12_owed_2 (fun r6 M7 h => ?_)
  show mj_X g 5 [(0, vR l0), (1, vI l1), (2, vI l2), (3, vI l3)] [vI (mj_b r6)] M7 0 0
  refine mx_ifneB (tgt := 12) hC dX12_owed_5 (by decide) (fun hc8 => ?_) (fun hc8 => ?_)
  · replace h := mj_yy hc8 h
    refine mx_iload_n (j := 2) hC dX12_owed_12 rfl rfl ?_
    refine mx_callS (inj := mj_jB) (As := [vI l2]) (st := []) hC (ct_X12_isDay l2 M7 _ h) ty_X12_isDay tw1502 rfl (Nat.le_of_ble_eq_true rfl) ⟨rfl, rfl, ⟨by decide, by decide⟩, by decide, by decide⟩ dX12_owed_13 (fun r9 M10 h => ?_)
    show mj_X g 16 [(0, vR l0), (1, vI l1), (2, vI l2), (3, vI l3)] [vI (mj_b r9)] M10 0 0
    refine mx_ifeqB (tgt := 31) hC dX12_owed_16 (by decide) (fun hc11 => ?_) (fun hc11 => ?_)
    · replace h := mj_nn hc11 h
      refine mx_ldc2 (v := (-1000000000000002)) hC dX12_owed_31 tw1514 ?_
      exact mx_lret hC hE rfl dX12_owed_34 h
    · replace h := mj_yy hc11 h
      refine mx_iload_n (j := 3) hC dX12_owed_19 rfl rfl ?_
      refine mx_callS (inj := mj_jB) (As := [vI l3]) (st := []) hC (ct_X12_isDay l3 M10 _ h) ty_X12_isDay tw1502 rfl (Nat.le_of_ble_eq_true rfl) ⟨rfl, rfl, ⟨by decide, by decide⟩, by decide, by decide⟩ dX12_owed_20 (fun r12 M13 h => ?_)
      show mj_X g 23 [(0, vR l0), (1, vI l1), (2, vI l2), (3, vI l3)] [vI (mj_b r12)] M13 0 0
      refine mx_ifeqB (tgt := 31) hC dX12_owed_23 (by decide) (fun hc14 => ?_) (fun hc14 => ?_)
      · replace h := mj_nn hc14 h
        refine mx_ldc2 (v := (-1000000000000002)) hC dX12_owed_31 tw1514 ?_
        exact mx_lret hC hE rfl dX12_owed_34 h
      · replace h := mj_yy hc14 h
        refine mx_iload_n (j := 2) hC dX12_owed_26 rfl rfl ?_
        refine mx_iload_n (j := 3) hC dX12_owed_27 rfl rfl ?_
        refine mx_icmple (tgt := 35) hC dX12_owed_28 (by decide) (fun hc15 => ?_) (fun hc15 => ?_)
        · replace h := mj_yy hc15 h
          refine mx_lconst (v := 0) hC dX12_owed_35 (by decide) ?_
          refine mx_lstore (L' := [(4, vL 0), (0, vR l0), (1, vI l1), (2, vI l2), (3, vI l3)]) hC dX12_owed_36 (by decide) rfl ?_
          refine mx_iload_n (j := 3) hC dX12_owed_38 rfl rfl ?_
          refine mx_istore (L' := [(6, vI l2), (4, vL 0), (0, vR l0), (1, vI l1), (2, vI l2), (3, vI l3)]) hC dX12_owed_39 (by decide) rfl ?_
          refine mx_sub (L' := [(0, vR l0), (1, vI l1), (3, vI l3), (4, vL 0), (6, vI l2)]) [2, 3, 5, 1, 0] rfl ?_
          obtain ⟨fe, h⟩ := h
          exact show mj_X g 41 [(0, vR l0), (1, vI l1), (3, vI l3), (4, vL 0), (6, vI l2)] [] M13 0 0 from (xb_X12_owed_41 hC hE fe l0 l1 l3 0 l2 M13 h)
        · replace h := mj_nn hc15 h
          refine mx_ldc2 (v := (-1000000000000002)) hC dX12_owed_31 tw1514 ?_
          exact mx_lret hC hE rfl dX12_owed_34 h
  · replace h := mj_nn hc8 h
    refine mx_ldc2 (v := (-1000000000000001)) hC dX12_owed_8 tw1513 ?_
    exact mx_lret hC hE rfl dX12_owed_11 h
def rm_X12_weight : Room := { frames := 2, cells := 0, slots := 0, locals := 45 }
theorem dX12_weight_0 : decode cX12_weight 0 = .ok (.iload_n 1, 1) := by decide +kernel
theorem dX12_weight_1 : decode cX12_weight 1 = .ok (.invokestatic 209, 3) := by decide +kernel
theorem dX12_weight_4 : decode cX12_weight 4 = .ok (.ifCond .ne 5, 3) := by decide +kernel
theorem dX12_weight_7 : decode cX12_weight 7 = .ok (.iconst (-1), 1) := by decide +kernel
theorem dX12_weight_8 : decode cX12_weight 8 = .ok (.ireturn, 1) := by decide +kernel
theorem dX12_weight_9 : decode cX12_weight 9 = .ok (.iload_n 2, 1) := by decide +kernel
theorem dX12_weight_10 : decode cX12_weight 10 = .ok (.i2l, 1) := by decide +kernel
theorem dX12_weight_11 : decode cX12_weight 11 = .ok (.lconst 1, 1) := by decide +kernel
theorem dX12_weight_12 : decode cX12_weight 12 = .ok (.ldc2_w 218, 3) := by decide +kernel
theorem dX12_weight_15 : decode cX12_weight 15 = .ok (.invokestatic 133, 3) := by decide +kernel
theorem dX12_weight_18 : decode cX12_weight 18 = .ok (.ifCond .ne 6, 3) := by decide +kernel
theorem dX12_weight_21 : decode cX12_weight 21 = .ok (.bipush (-2), 2) := by decide +kernel
theorem dX12_weight_23 : decode cX12_weight 23 = .ok (.ireturn, 1) := by decide +kernel
theorem dX12_weight_24 : decode cX12_weight 24 = .ok (.aload_n 0, 1) := by decide +kernel
theorem dX12_weight_25 : decode cX12_weight 25 = .ok (.getfield 46, 3) := by decide +kernel
theorem dX12_weight_28 : decode cX12_weight 28 = .ok (.iload_n 1, 1) := by decide +kernel
theorem dX12_weight_29 : decode cX12_weight 29 = .ok (.iaload, 1) := by decide +kernel
theorem dX12_weight_30 : decode cX12_weight 30 = .ok (.istore_n 3, 1) := by decide +kernel
theorem dX12_weight_31 : decode cX12_weight 31 = .ok (.aload_n 0, 1) := by decide +kernel
theorem dX12_weight_32 : decode cX12_weight 32 = .ok (.getfield 46, 3) := by decide +kernel
theorem dX12_weight_35 : decode cX12_weight 35 = .ok (.iload_n 1, 1) := by decide +kernel
theorem dX12_weight_36 : decode cX12_weight 36 = .ok (.iload_n 2, 1) := by decide +kernel
theorem dX12_weight_37 : decode cX12_weight 37 = .ok (.iastore, 1) := by decide +kernel
theorem dX12_weight_38 : decode cX12_weight 38 = .ok (.iload_n 3, 1) := by decide +kernel
theorem dX12_weight_39 : decode cX12_weight 39 = .ok (.ireturn, 1) := by decide +kernel
def vc_X12_weight (l0 : Nat) (l1 : Int32) (l2 : Int32) (M : mj_M) (post : Int32 → mj_M → Prop) : Prop := vc_X12_isFloor l1 M (fun r1 M2 => if r1 = true then (vc_X12_in ((l2 : Int32).toInt64) 1 100 M2 (fun r4 M5 => if r4 = true then (mj_tag M5 l0 = 13 ∧ mj_tag M5 (mj_r M5 l0 14) = 101 ∧ vp_in l1 (mj_len M5 (mj_r M5 l0 14)) ∧ post (mj_i M5 (mj_r M5 l0 14) (l1 : Int32).toNatClampNeg) (mj_wi M5 (mj_r M5 l0 14) (l1 : Int32).toNatClampNeg l2)) else (post ((-2)) M5))) else (post ((-1)) M2))
set_option maxHeartbeats 4000000 in
set_option maxRecDepth 100000 in
theorem ct_X12_weight {l : Launch} {base : Nat} {D : va_G} {A : ClassId × ClassId × ClassId} (l0 : Nat) (l1 : Int32) (l2 : Int32) (M : mj_M) (post : Int32 → mj_M → Prop) (h : vc_X12_weight l0 l1 l2 M post) : mj_Met l base D A mj_jI yX12_weight cX12_weight 4 (some .int) rm_X12_weight 0 0 [vR l0, vI l1, vI l2] M post := by
  refine mj_entry (by decide +kernel) (Nat.le_of_ble_eq_true rfl) (fun g hC hE h1 h2 h3 h4 => ?_)
  show mj_X g 0 [(0, vR l0), (1, vI l1), (2, vI l2)] [] M 0 0
  simp only [vc_X12_weight] at h
  refine mx_iload_n (j := 1) hC dX12_weight_0 rfl rfl ?_
  refine mx_callS (inj := mj_jB) (As := [vI l1]) (st := []) hC (ct_X12_isFloor l1 M _ h) ty_X12_isFloor tw1480 rfl (Nat.le_of_ble_eq_true rfl) ⟨rfl, rfl, ⟨by decide, by decide⟩, by decide, by decide⟩ dX12_weight_1 (fun r1 M2 h => ?_)
  show mj_X g 4 [(0, vR l0), (1, vI l1), (2, vI l2)] [vI (mj_b r1)] M2 0 0
  refine mx_ifneB (tgt := 9) hC dX12_weight_4 (by decide) (fun hc3 => ?_) (fun hc3 => ?_)
  · replace h := mj_yy hc3 h
    refine mx_iload_n (j := 2) hC dX12_weight_9 rfl rfl ?_
    refine mx_i2l hC dX12_weight_10 ?_
    refine mx_lconst (v := 1) hC dX12_weight_11 (by decide) ?_
    refine mx_ldc2 (v := 100) hC dX12_weight_12 tw1497 ?_
    refine mx_callS (inj := mj_jB) (As := [vL ((l2 : Int32).toInt64), vL 1, vL 100]) (st := []) hC (ct_X12_in ((l2 : Int32).toInt64) 1 100 M2 _ h) ty_X12_in tw1379 rfl (Nat.le_of_ble_eq_true rfl) ⟨rfl, rfl, ⟨by decide, by decide⟩, by decide, by decide⟩ dX12_weight_15 (fun r4 M5 h => ?_)
    show mj_X g 18 [(0, vR l0), (1, vI l1), (2, vI l2)] [vI (mj_b r4)] M5 0 0
    refine mx_ifneB (tgt := 24) hC dX12_weight_18 (by decide) (fun hc6 => ?_) (fun hc6 => ?_)
    · replace h := mj_yy hc6 h
      refine mx_aload_n (j := 0) hC dX12_weight_24 rfl rfl ?_
      obtain ⟨ht7, h⟩ := h
      refine mx_get (v := vR (mj_r M5 l0 14)) hC tf_X12_46 ht7 rfl dX12_weight_25 ?_
      refine mx_iload_n (j := 1) hC dX12_weight_28 rfl rfl ?_
      obtain ⟨ht8, h⟩ := h
      obtain ⟨hi9, h⟩ := h
      refine mx_iaload hC ht8 hi9 dX12_weight_29 ?_
      refine mx_istore_n (L' := [(3, vI (mj_i M5 (mj_r M5 l0 14) (l1 : Int32).toNatClampNeg)), (0, vR l0), (1, vI l1), (2, vI l2)]) hC dX12_weight_30 rfl (by decide) rfl ?_
      refine mx_aload_n (j := 1) hC dX12_weight_31 rfl rfl ?_
      refine mx_get (v := vR (mj_r M5 l0 14)) hC tf_X12_46 ht7 rfl dX12_weight_32 ?_
      refine mx_iload_n (j := 2) hC dX12_weight_35 rfl rfl ?_
      refine mx_iload_n (j := 3) hC dX12_weight_36 rfl rfl ?_
      refine mx_iastore hC ht8 hi9 dX12_weight_37 ?_
      refine mx_iload_n (j := 0) hC dX12_weight_38 rfl rfl ?_
      exact mx_iret hC hE rfl dX12_weight_39 h
    · replace h := mj_nn hc6 h
      refine mx_bipush (v := (-2)) hC dX12_weight_21 (by decide) ?_
      exact mx_iret hC hE rfl dX12_weight_23 h
  · replace h := mj_nn hc3 h
    refine mx_iconst (v := (-1)) hC dX12_weight_7 (by decide) ?_
    exact mx_iret hC hE rfl dX12_weight_8 h
theorem tw1524 : (Jvm.Cond.constantLong "LeaseLandModel" (232 : Nat) (33 : Int64)) ∈ mj_tbl := mj_w 1577 (by decide +kernel) (by decide +kernel)
theorem tw1525 : (Jvm.Cond.constantLong "LeaseLandModel" (234 : Nat) (126 : Int64)) ∈ mj_tbl := mj_w 1578 (by decide +kernel) (by decide +kernel)
def rm_X12_say : Room := { frames := 1, cells := 0, slots := 0, locals := 25 }
theorem dX12_say_0 : decode cX12_say 0 = .ok (.iload_n 1, 1) := by decide +kernel
theorem dX12_say_1 : decode cX12_say 1 = .ok (.i2l, 1) := by decide +kernel
theorem dX12_say_2 : decode cX12_say 2 = .ok (.ldc2_w 232, 3) := by decide +kernel
theorem dX12_say_5 : decode cX12_say 5 = .ok (.ldc2_w 234, 3) := by decide +kernel
theorem dX12_say_8 : decode cX12_say 8 = .ok (.invokestatic 133, 3) := by decide +kernel
theorem dX12_say_11 : decode cX12_say 11 = .ok (.ifCond .ne 6, 3) := by decide +kernel
theorem dX12_say_14 : decode cX12_say 14 = .ok (.bipush (-2), 2) := by decide +kernel
theorem dX12_say_16 : decode cX12_say 16 = .ok (.ireturn, 1) := by decide +kernel
theorem dX12_say_17 : decode cX12_say 17 = .ok (.aload_n 0, 1) := by decide +kernel
theorem dX12_say_18 : decode cX12_say 18 = .ok (.getfield 55, 3) := by decide +kernel
theorem dX12_say_21 : decode cX12_say 21 = .ok (.bipush 12, 2) := by decide +kernel
theorem dX12_say_23 : decode cX12_say 23 = .ok (.iaload, 1) := by decide +kernel
theorem dX12_say_24 : decode cX12_say 24 = .ok (.bipush 48, 2) := by decide +kernel
theorem dX12_say_26 : decode cX12_say 26 = .ok (.if_icmp .ne 6, 3) := by decide +kernel
theorem dX12_say_29 : decode cX12_say 29 = .ok (.bipush (-4), 2) := by decide +kernel
theorem dX12_say_31 : decode cX12_say 31 = .ok (.ireturn, 1) := by decide +kernel
theorem dX12_say_32 : decode cX12_say 32 = .ok (.aload_n 0, 1) := by decide +kernel
theorem dX12_say_33 : decode cX12_say 33 = .ok (.getfield 52, 3) := by decide +kernel
theorem dX12_say_36 : decode cX12_say 36 = .ok (.sipush 576, 3) := by decide +kernel
theorem dX12_say_39 : decode cX12_say 39 = .ok (.aload_n 0, 1) := by decide +kernel
theorem dX12_say_40 : decode cX12_say 40 = .ok (.getfield 55, 3) := by decide +kernel
theorem dX12_say_43 : decode cX12_say 43 = .ok (.bipush 12, 2) := by decide +kernel
theorem dX12_say_45 : decode cX12_say 45 = .ok (.iaload, 1) := by decide +kernel
theorem dX12_say_46 : decode cX12_say 46 = .ok (.iadd, 1) := by decide +kernel
theorem dX12_say_47 : decode cX12_say 47 = .ok (.iload_n 1, 1) := by decide +kernel
theorem dX12_say_48 : decode cX12_say 48 = .ok (.iastore, 1) := by decide +kernel
theorem dX12_say_49 : decode cX12_say 49 = .ok (.aload_n 0, 1) := by decide +kernel
theorem dX12_say_50 : decode cX12_say 50 = .ok (.getfield 55, 3) := by decide +kernel
theorem dX12_say_53 : decode cX12_say 53 = .ok (.bipush 12, 2) := by decide +kernel
theorem dX12_say_55 : decode cX12_say 55 = .ok (.dup2, 1) := by decide +kernel
theorem dX12_say_56 : decode cX12_say 56 = .ok (.iaload, 1) := by decide +kernel
theorem dX12_say_57 : decode cX12_say 57 = .ok (.iconst 1, 1) := by decide +kernel
theorem dX12_say_58 : decode cX12_say 58 = .ok (.iadd, 1) := by decide +kernel
theorem dX12_say_59 : decode cX12_say 59 = .ok (.iastore, 1) := by decide +kernel
theorem dX12_say_60 : decode cX12_say 60 = .ok (.aload_n 0, 1) := by decide +kernel
theorem dX12_say_61 : decode cX12_say 61 = .ok (.getfield 55, 3) := by decide +kernel
theorem dX12_say_64 : decode cX12_say 64 = .ok (.bipush 12, 2) := by decide +kernel
theorem dX12_say_66 : decode cX12_say 66 = .ok (.iaload, 1) := by decide +kernel
theorem dX12_say_67 : decode cX12_say 67 = .ok (.ireturn, 1) := by decide +kernel
def vc_X12_say (l0 : Nat) (l1 : Int32) (M : mj_M) (post : Int32 → mj_M → Prop) : Prop := vc_X12_in ((l1 : Int32).toInt64) 33 126 M (fun r1 M2 => if r1 = true then (mj_tag M2 l0 = 13 ∧ mj_tag M2 (mj_r M2 l0 17) = 101 ∧ vp_in 12 (mj_len M2 (mj_r M2 l0 17)) ∧ if (mj_i M2 (mj_r M2 l0 17) (12 : Int32).toNatClampNeg) = 48 then (post ((-4)) M2) else (mj_tag M2 (mj_r M2 l0 16) = 101 ∧ vp_in (576 + (mj_i M2 (mj_r M2 l0 17) (12 : Int32).toNatClampNeg)) (mj_len M2 (mj_r M2 l0 16)) ∧ post (mj_i (mj_wi (mj_wi M2 (mj_r M2 l0 16) (576 + (mj_i M2 (mj_r M2 l0 17) (12 : Int32).toNatClampNeg) : Int32).toNatClampNeg l1) (mj_r M2 l0 17) (12 : Int32).toNatClampNeg ((mj_i (mj_wi M2 (mj_r M2 l0 16) (576 + (mj_i M2 (mj_r M2 l0 17) (12 : Int32).toNatClampNeg) : Int32).toNatClampNeg l1) (mj_r M2 l0 17) (12 : Int32).toNatClampNeg) + 1)) (mj_r M2 l0 17) (12 : Int32).toNatClampNeg) (mj_wi (mj_wi M2 (mj_r M2 l0 16) (576 + (mj_i M2 (mj_r M2 l0 17) (12 : Int32).toNatClampNeg) : Int32).toNatClampNeg l1) (mj_r M2 l0 17) (12 : Int32).toNatClampNeg ((mj_i (mj_wi M2 (mj_r M2 l0 16) (576 + (mj_i M2 (mj_r M2 l0 17) (12 : Int32).toNatClampNeg) : Int32).toNatClampNeg l1) (mj_r M2 l0 17) (12 : Int32).toNatClampNeg) + 1)))) else (post ((-2)) M2))
set_option maxHeartbeats 4000000 in
set_option maxRecDepth 100000 in
theorem ct_X12_say {l : Launch} {base : Nat} {D : va_G} {A : ClassId × ClassId × ClassId} (l0 : Nat) (l1 : Int32) (M : mj_M) (post : Int32 → mj_M → Prop) (h : vc_X12_say l0 l1 M post) : mj_Met l base D A mj_jI yX12_say cX12_say 2 (some .int) rm_X12_say 0 0 [vR l0, vI l1] M post := by
  refine mj_entry (by decide +kernel) (Nat.le_of_ble_eq_true rfl) (fun g hC hE h1 h2 h3 h4 => ?_)
  show mj_X g 0 [(0, vR l0), (1, vI l1)] [] M 0 0
  simp only [vc_X12_say] at h
  refine mx_iload_n (j := 1) hC dX12_say_0 rfl rfl ?_
  refine mx_i2l hC dX12_say_1 ?_
  refine mx_ldc2 (v := 33) hC dX12_say_2 tw1524 ?_
  refine mx_ldc2 (v := 126) hC dX12_say_5 tw1525 ?_
  refine mx_callS (inj := mj_jB) (As := [vL ((l1 : Int32).toInt64), vL 33, vL 126]) (st := []) hC (ct_X12_in ((l1 : Int32).toInt64) 33 126 M _ h) ty_X12_in tw1379 rfl (Nat.le_of_ble_eq_true rfl) ⟨rfl, rfl, ⟨by decide, by decide⟩, by decide, by decide⟩ dX12_say_8 (fun r1 M2 h => ?_)
  show mj_X g 11 [(0, vR l0), (1, vI l1)] [vI (mj_b r1)] M2 0 0
  refine mx_ifneB (tgt := 17) hC dX12_say_11 (by decide) (fun hc3 => ?_) (fun hc3 => ?_)
  · replace h := mj_yy hc3 h
    refine mx_aload_n (j := 0) hC dX12_say_17 rfl rfl ?_
    obtain ⟨ht4, h⟩ := h
    refine mx_get (v := vR (mj_r M2 l0 17)) hC tf_X12_55 ht4 rfl dX12_say_18 ?_
    refine mx_bipush (v := 12) hC dX12_say_21 (by decide) ?_
    obtain ⟨ht5, h⟩ := h
    obtain ⟨hi6, h⟩ := h
    refine mx_iaload hC ht5 hi6 dX12_say_23 ?_
    refine mx_bipush (v := 48) hC dX12_say_24 (by decide) ?_
    refine mx_icmpne (tgt := 32) hC dX12_say_26 (by decide) (fun hc7 => ?_) (fun hc7 => ?_)
    · replace h := mj_nn hc7 h
      refine mx_aload_n (j := 0) hC dX12_say_32 rfl rfl ?_
      refine mx_get (v := vR (mj_r M2 l0 16)) hC tf_X12_52 ht4 rfl dX12_say_33 ?_
      refine mx_sipush (v := 576) hC dX12_say_36 (by decide) ?_
      refine mx_aload_n (j := 0) hC dX12_say_39 rfl rfl ?_
      refine mx_get (v := vR (mj_r M2 l0 17)) hC tf_X12_55 ht4 rfl dX12_say_40 ?_
      refine mx_bipush (v := 12) hC dX12_say_43 (by decide) ?_
      refine mx_iaload hC ht5 hi6 dX12_say_45 ?_
      refine mx_iadd hC dX12_say_46 ?_
      refine mx_iload_n (j := 1) hC dX12_say_47 rfl rfl ?_
      obtain ⟨ht8, h⟩ := h
      obtain ⟨hi9, h⟩ := h
      refine mx_iastore hC ht8 hi9 dX12_say_48 ?_
      refine mx_aload_n (j := 0) hC dX12_say_49 rfl rfl ?_
      refine mx_get (v := vR (mj_r M2 l0 17)) hC tf_X12_55 ht4 rfl dX12_say_50 ?_
      refine mx_bipush (v := 12) hC dX12_say_53 (by decide) ?_
      refine mx_dup2 hC dX12_say_55 rfl rfl ?_
      refine mx_iaload hC ht5 hi6 dX12_say_56 ?_
      refine mx_iconst (v := 1) hC dX12_say_57 (by decide) ?_
      refine mx_iadd hC dX12_say_58 ?_
      refine mx_iastore hC ht5 hi6 dX12_say_59 ?_
      refine mx_aload_n (j := 0) hC dX12_say_60 rfl rfl ?_
      refine mx_get (v := vR (mj_r M2 l0 17)) hC tf_X12_55 ht4 rfl dX12_say_61 ?_
      refine mx_bipush (v := 12) hC dX12_say_64 (by decide) ?_
      refine mx_iaload hC ht5 hi6 dX12_say_66 ?_
      exact mx_iret hC hE rfl dX12_say_67 h
    · replace h := mj_yy hc7 h
      refine mx_bipush (v := (-4)) hC dX12_say_29 (by decide) ?_
      exact mx_iret hC hE rfl dX12_say_31 h
  · replace h := mj_nn hc3 h
    refine mx_bipush (v := (-2)) hC dX12_say_14 (by decide) ?_
    exact mx_iret hC hE rfl dX12_say_16 h
def rm_X12_wipe : Room := { frames := 0, cells := 0, slots := 0, locals := 0 }
theorem dX12_wipe_0 : decode cX12_wipe 0 = .ok (.aload_n 0, 1) := by decide +kernel
theorem dX12_wipe_1 : decode cX12_wipe 1 = .ok (.getfield 55, 3) := by decide +kernel
theorem dX12_wipe_4 : decode cX12_wipe 4 = .ok (.bipush 12, 2) := by decide +kernel
theorem dX12_wipe_6 : decode cX12_wipe 6 = .ok (.iaload, 1) := by decide +kernel
theorem dX12_wipe_7 : decode cX12_wipe 7 = .ok (.istore_n 1, 1) := by decide +kernel
theorem dX12_wipe_8 : decode cX12_wipe 8 = .ok (.aload_n 0, 1) := by decide +kernel
theorem dX12_wipe_9 : decode cX12_wipe 9 = .ok (.getfield 55, 3) := by decide +kernel
theorem dX12_wipe_12 : decode cX12_wipe 12 = .ok (.bipush 12, 2) := by decide +kernel
theorem dX12_wipe_14 : decode cX12_wipe 14 = .ok (.iconst 0, 1) := by decide +kernel
theorem dX12_wipe_15 : decode cX12_wipe 15 = .ok (.iastore, 1) := by decide +kernel
theorem dX12_wipe_16 : decode cX12_wipe 16 = .ok (.iload_n 1, 1) := by decide +kernel
theorem dX12_wipe_17 : decode cX12_wipe 17 = .ok (.ireturn, 1) := by decide +kernel
def vc_X12_wipe (l0 : Nat) (M : mj_M) (post : Int32 → mj_M → Prop) : Prop := mj_tag M l0 = 13 ∧ mj_tag M (mj_r M l0 17) = 101 ∧ vp_in 12 (mj_len M (mj_r M l0 17)) ∧ post (mj_i M (mj_r M l0 17) (12 : Int32).toNatClampNeg) (mj_wi M (mj_r M l0 17) (12 : Int32).toNatClampNeg 0)
set_option maxHeartbeats 4000000 in
set_option maxRecDepth 100000 in
theorem ct_X12_wipe {l : Launch} {base : Nat} {D : va_G} {A : ClassId × ClassId × ClassId} (l0 : Nat) (M : mj_M) (post : Int32 → mj_M → Prop) (h : vc_X12_wipe l0 M post) : mj_Met l base D A mj_jI yX12_wipe cX12_wipe 2 (some .int) rm_X12_wipe 0 0 [vR l0] M post := by
  refine mj_entry (by decide +kernel) (Nat.le_of_ble_eq_true rfl) (fun g hC hE h1 h2 h3 h4 => ?_)
  show mj_X g 0 [(0, vR l0)] [] M 0 0
  simp only [vc_X12_wipe] at h
  refine mx_aload_n (j := 0) hC dX12_wipe_0 rfl rfl ?_
  obtain ⟨ht1, h⟩ := h
  refine mx_get (v := vR (mj_r M l0 17)) hC tf_X12_55 ht1 rfl dX12_wipe_1 ?_
  refine mx_bipush (v := 12) hC dX12_wipe_4 (by decide) ?_
  obtain ⟨ht2, h⟩ := h
  obtain ⟨hi3, h⟩ := h
  refine mx_iaload hC ht2 hi3 dX12_wipe_6 ?_
  refine mx_istore_n (L' := [(1, vI (mj_i M (mj_r M l0 17) (12 : Int32).toNatClampNeg)), (0, vR l0)]) hC dX12_wipe_7 rfl (by decide) rfl ?_
  refine mx_aload_n (j := 1) hC dX12_wipe_8 rfl rfl ?_
  refine mx_get (v := vR (mj_r M l0 17)) hC tf_X12_55 ht1 rfl dX12_wipe_9 ?_
  refine mx_bipush (v := 12) hC dX12_wipe_12 (by decide) ?_
  refine mx_iconst (v := 0) hC dX12_wipe_14 (by decide) ?_
  refine mx_iastore hC ht2 hi3 dX12_wipe_15 ?_
  refine mx_iload_n (j := 0) hC dX12_wipe_16 rfl rfl ?_
  exact mx_iret hC hE rfl dX12_wipe_17 h
def rm_X12_isFact : Room := { frames := 0, cells := 0, slots := 0, locals := 0 }
theorem dX12_isFact_0 : decode cX12_isFact 0 = .ok (.iload_n 0, 1) := by decide +kernel
theorem dX12_isFact_1 : decode cX12_isFact 1 = .ok (.bipush 108, 2) := by decide +kernel
theorem dX12_isFact_3 : decode cX12_isFact 3 = .ok (.if_icmp .eq 39, 3) := by decide +kernel
theorem dX12_isFact_6 : decode cX12_isFact 6 = .ok (.iload_n 0, 1) := by decide +kernel
theorem dX12_isFact_7 : decode cX12_isFact 7 = .ok (.bipush 116, 2) := by decide +kernel
theorem dX12_isFact_9 : decode cX12_isFact 9 = .ok (.if_icmp .eq 33, 3) := by decide +kernel
theorem dX12_isFact_12 : decode cX12_isFact 12 = .ok (.iload_n 0, 1) := by decide +kernel
theorem dX12_isFact_13 : decode cX12_isFact 13 = .ok (.bipush 104, 2) := by decide +kernel
theorem dX12_isFact_15 : decode cX12_isFact 15 = .ok (.if_icmp .eq 27, 3) := by decide +kernel
theorem dX12_isFact_18 : decode cX12_isFact 18 = .ok (.iload_n 0, 1) := by decide +kernel
theorem dX12_isFact_19 : decode cX12_isFact 19 = .ok (.bipush 114, 2) := by decide +kernel
theorem dX12_isFact_21 : decode cX12_isFact 21 = .ok (.if_icmp .eq 21, 3) := by decide +kernel
theorem dX12_isFact_24 : decode cX12_isFact 24 = .ok (.iload_n 0, 1) := by decide +kernel
theorem dX12_isFact_25 : decode cX12_isFact 25 = .ok (.bipush 102, 2) := by decide +kernel
theorem dX12_isFact_27 : decode cX12_isFact 27 = .ok (.if_icmp .eq 15, 3) := by decide +kernel
theorem dX12_isFact_30 : decode cX12_isFact 30 = .ok (.iload_n 0, 1) := by decide +kernel
theorem dX12_isFact_31 : decode cX12_isFact 31 = .ok (.bipush 111, 2) := by decide +kernel
theorem dX12_isFact_33 : decode cX12_isFact 33 = .ok (.if_icmp .eq 9, 3) := by decide +kernel
theorem dX12_isFact_36 : decode cX12_isFact 36 = .ok (.iload_n 0, 1) := by decide +kernel
theorem dX12_isFact_37 : decode cX12_isFact 37 = .ok (.bipush 115, 2) := by decide +kernel
theorem dX12_isFact_39 : decode cX12_isFact 39 = .ok (.if_icmp .ne 7, 3) := by decide +kernel
theorem dX12_isFact_42 : decode cX12_isFact 42 = .ok (.iconst 1, 1) := by decide +kernel
theorem dX12_isFact_43 : decode cX12_isFact 43 = .ok (.goto 4, 3) := by decide +kernel
theorem dX12_isFact_46 : decode cX12_isFact 46 = .ok (.iconst 0, 1) := by decide +kernel
theorem dX12_isFact_47 : decode cX12_isFact 47 = .ok (.ireturn, 1) := by decide +kernel
def vc_X12_isFact (l0 : Int32) (M : mj_M) (post : Bool → mj_M → Prop) : Prop := if l0 = 108 then (post true M) else (if l0 = 116 then (post true M) else (if l0 = 104 then (post true M) else (if l0 = 114 then (post true M) else (if l0 = 102 then (post true M) else (if l0 = 111 then (post true M) else (if l0 = 115 then (post true M) else (post false M)))))))
set_option maxHeartbeats 4000000 in
set_option maxRecDepth 100000 in
theorem ct_X12_isFact {l : Launch} {base : Nat} {D : va_G} {A : ClassId × ClassId × ClassId} (l0 : Int32) (M : mj_M) (post : Bool → mj_M → Prop) (h : vc_X12_isFact l0 M post) : mj_Met l base D A mj_jB yX12_isFact cX12_isFact 1 (some .boolean) rm_X12_isFact 0 0 [vI l0] M post := by
  refine mj_entry (by decide +kernel) (Nat.le_of_ble_eq_true rfl) (fun g hC hE h1 h2 h3 h4 => ?_)
  show mj_X g 0 [(0, vI l0)] [] M 0 0
  simp only [vc_X12_isFact] at h
  refine mx_iload_n (j := 0) hC dX12_isFact_0 rfl rfl ?_
  refine mx_bipush (v := 108) hC dX12_isFact_1 (by decide) ?_
  refine mx_icmpeq (tgt := 42) hC dX12_isFact_3 (by decide) (fun hc1 => ?_) (fun hc1 => ?_)
  · replace h := mj_yy hc1 h
    refine mx_iconst (v := 1) hC dX12_isFact_42 (by decide) ?_
    refine mx_goto (tgt := 47) hC dX12_isFact_43 (by decide) ?_
    exact mx_zret (b := true) hC hE rfl dX12_isFact_47 h
  · replace h := mj_nn hc1 h
    refine mx_iload_n (j := 0) hC dX12_isFact_6 rfl rfl ?_
    refine mx_bipush (v := 116) hC dX12_isFact_7 (by decide) ?_
    refine mx_icmpeq (tgt := 42) hC dX12_isFact_9 (by decide) (fun hc2 => ?_) (fun hc2 => ?_)
    · replace h := mj_yy hc2 h
      refine mx_iconst (v := 1) hC dX12_isFact_42 (by decide) ?_
      refine mx_goto (tgt := 47) hC dX12_isFact_43 (by decide) ?_
      exact mx_zret (b := true) hC hE rfl dX12_isFact_47 h
    · replace h := mj_nn hc2 h
      refine mx_iload_n (j := 0) hC dX12_isFact_12 rfl rfl ?_
      refine mx_bipush (v := 104) hC dX12_isFact_13 (by decide) ?_
      refine mx_icmpeq (tgt := 42) hC dX12_isFact_15 (by decide) (fun hc3 => ?_) (fun hc3 => ?_)
      · replace h := mj_yy hc3 h
        refine mx_iconst (v := 1) hC dX12_isFact_42 (by decide) ?_
        refine mx_goto (tgt := 47) hC dX12_isFact_43 (by decide) ?_
        exact mx_zret (b := true) hC hE rfl dX12_isFact_47 h
      · replace h := mj_nn hc3 h
        refine mx_iload_n (j := 0) hC dX12_isFact_18 rfl rfl ?_
        refine mx_bipush (v := 114) hC dX12_isFact_19 (by decide) ?_
        refine mx_icmpeq (tgt := 42) hC dX12_isFact_21 (by decide) (fun hc4 => ?_) (fun hc4 => ?_)
        · replace h := mj_yy hc4 h
          refine mx_iconst (v := 1) hC dX12_isFact_42 (by decide) ?_
          refine mx_goto (tgt := 47) hC dX12_isFact_43 (by decide) ?_
          exact mx_zret (b := true) hC hE rfl dX12_isFact_47 h
        · replace h := mj_nn hc4 h
          refine mx_iload_n (j := 0) hC dX12_isFact_24 rfl rfl ?_
          refine mx_bipush (v := 102) hC dX12_isFact_25 (by decide) ?_
          refine mx_icmpeq (tgt := 42) hC dX12_isFact_27 (by decide) (fun hc5 => ?_) (fun hc5 => ?_)
          · replace h := mj_yy hc5 h
            refine mx_iconst (v := 1) hC dX12_isFact_42 (by decide) ?_
            refine mx_goto (tgt := 47) hC dX12_isFact_43 (by decide) ?_
            exact mx_zret (b := true) hC hE rfl dX12_isFact_47 h
          · replace h := mj_nn hc5 h
            refine mx_iload_n (j := 0) hC dX12_isFact_30 rfl rfl ?_
            refine mx_bipush (v := 111) hC dX12_isFact_31 (by decide) ?_
            refine mx_icmpeq (tgt := 42) hC dX12_isFact_33 (by decide) (fun hc6 => ?_) (fun hc6 => ?_)
            · replace h := mj_yy hc6 h
              refine mx_iconst (v := 1) hC dX12_isFact_42 (by decide) ?_
              refine mx_goto (tgt := 47) hC dX12_isFact_43 (by decide) ?_
              exact mx_zret (b := true) hC hE rfl dX12_isFact_47 h
            · replace h := mj_nn hc6 h
              refine mx_iload_n (j := 0) hC dX12_isFact_36 rfl rfl ?_
              refine mx_bipush (v := 115) hC dX12_isFact_37 (by decide) ?_
              refine mx_icmpne (tgt := 46) hC dX12_isFact_39 (by decide) (fun hc7 => ?_) (fun hc7 => ?_)
              · replace h := mj_nn hc7 h
                refine mx_iconst (v := 0) hC dX12_isFact_46 (by decide) ?_
                exact mx_zret (b := false) hC hE rfl dX12_isFact_47 h
              · replace h := mj_yy hc7 h
                refine mx_iconst (v := 1) hC dX12_isFact_42 (by decide) ?_
                refine mx_goto (tgt := 47) hC dX12_isFact_43 (by decide) ?_
                exact mx_zret (b := true) hC hE rfl dX12_isFact_47 h
theorem tw1547 : (Jvm.Cond.constantLong "LeaseLandModel" (236 : Nat) (48 : Int64)) ∈ mj_tbl := mj_w 1600 (by decide +kernel) (by decide +kernel)
theorem tw1548 : (Jvm.Cond.constantLong "LeaseLandModel" (238 : Nat) (57 : Int64)) ∈ mj_tbl := mj_w 1601 (by decide +kernel) (by decide +kernel)
def rm_X12_isDigit : Room := { frames := 1, cells := 0, slots := 0, locals := 25 }
theorem dX12_isDigit_0 : decode cX12_isDigit 0 = .ok (.iload_n 0, 1) := by decide +kernel
theorem dX12_isDigit_1 : decode cX12_isDigit 1 = .ok (.i2l, 1) := by decide +kernel
theorem dX12_isDigit_2 : decode cX12_isDigit 2 = .ok (.ldc2_w 236, 3) := by decide +kernel
theorem dX12_isDigit_5 : decode cX12_isDigit 5 = .ok (.ldc2_w 238, 3) := by decide +kernel
theorem dX12_isDigit_8 : decode cX12_isDigit 8 = .ok (.invokestatic 133, 3) := by decide +kernel
theorem dX12_isDigit_11 : decode cX12_isDigit 11 = .ok (.ireturn, 1) := by decide +kernel
def vc_X12_isDigit (l0 : Int32) (M : mj_M) (post : Bool → mj_M → Prop) : Prop := vc_X12_in ((l0 : Int32).toInt64) 48 57 M (fun r1 M2 => post r1 M2)
set_option maxHeartbeats 4000000 in
set_option maxRecDepth 100000 in
theorem ct_X12_isDigit {l : Launch} {base : Nat} {D : va_G} {A : ClassId × ClassId × ClassId} (l0 : Int32) (M : mj_M) (post : Bool → mj_M → Prop) (h : vc_X12_isDigit l0 M post) : mj_Met l base D A mj_jB yX12_isDigit cX12_isDigit 1 (some .boolean) rm_X12_isDigit 0 0 [vI l0] M post := by
  refine mj_entry (by decide +kernel) (Nat.le_of_ble_eq_true rfl) (fun g hC hE h1 h2 h3 h4 => ?_)
  show mj_X g 0 [(0, vI l0)] [] M 0 0
  simp only [vc_X12_isDigit] at h
  refine mx_iload_n (j := 0) hC dX12_isDigit_0 rfl rfl ?_
  refine mx_i2l hC dX12_isDigit_1 ?_
  refine mx_ldc2 (v := 48) hC dX12_isDigit_2 tw1547 ?_
  refine mx_ldc2 (v := 57) hC dX12_isDigit_5 tw1548 ?_
  refine mx_callS (inj := mj_jB) (As := [vL ((l0 : Int32).toInt64), vL 48, vL 57]) (st := []) hC (ct_X12_in ((l0 : Int32).toInt64) 48 57 M _ h) ty_X12_in tw1379 rfl (Nat.le_of_ble_eq_true rfl) ⟨rfl, rfl, ⟨by decide, by decide⟩, by decide, by decide⟩ dX12_isDigit_8 (fun r1 M2 h => ?_)
  show mj_X g 11 [(0, vI l0)] [vI (mj_b r1)] M2 0 0
  exact mx_zret (b := r1) hC hE rfl dX12_isDigit_11 h
theorem tw1541 : (Jvm.Cond.methodLink "LeaseLandModel" (240 : Nat) ({ cls := "LeaseLandModel", name := "isFact", desc := "(I)Z" } : Jvm.MethodName)) ∈ mj_tbl := mj_w 1594 (by decide +kernel) (by decide +kernel)
theorem tw1544 : (Jvm.Cond.methodLink "LeaseLandModel" (243 : Nat) ({ cls := "LeaseLandModel", name := "isDigit", desc := "(I)Z" } : Jvm.MethodName)) ∈ mj_tbl := mj_w 1597 (by decide +kernel) (by decide +kernel)
theorem tw1546 : (Jvm.Cond.code ({ cls := "LeaseLandModel", name := "isDigit", desc := "(I)Z" } : Jvm.MethodName) prog_14_method_44_code (1 : Nat) (Option.some Jvm.ClassFile.FieldType.boolean)) ∈ mj_tbl := mj_w 1599 (by decide +kernel) (by decide +kernel)
theorem tw1545 : (Jvm.Cond.static ({ cls := "LeaseLandModel", name := "isDigit", desc := "(I)Z" } : Jvm.MethodName)) ∈ mj_tbl := mj_w 1598 (by decide +kernel) (by decide +kernel)
theorem ty_X12_isDigit : mj_YS yX12_isDigit cX12_isDigit 1 (some .boolean) 1 := ⟨⟨tw1546, tw11, by decide +kernel, by decide +kernel, by decide +kernel⟩, tw1545⟩
theorem tw1543 : (Jvm.Cond.code ({ cls := "LeaseLandModel", name := "isFact", desc := "(I)Z" } : Jvm.MethodName) prog_14_method_43_code (1 : Nat) (Option.some Jvm.ClassFile.FieldType.boolean)) ∈ mj_tbl := mj_w 1596 (by decide +kernel) (by decide +kernel)
theorem tw1542 : (Jvm.Cond.static ({ cls := "LeaseLandModel", name := "isFact", desc := "(I)Z" } : Jvm.MethodName)) ∈ mj_tbl := mj_w 1595 (by decide +kernel) (by decide +kernel)
theorem ty_X12_isFact : mj_YS yX12_isFact cX12_isFact 1 (some .boolean) 1 := ⟨⟨tw1543, tw11, by decide +kernel, by decide +kernel, by decide +kernel⟩, tw1542⟩
def rm_X12_stepOf : Room := { frames := 2, cells := 0, slots := 0, locals := 45 }
theorem dX12_stepOf_0 : decode cX12_stepOf 0 = .ok (.iload_n 0, 1) := by decide +kernel
theorem dX12_stepOf_1 : decode cX12_stepOf 1 = .ok (.ifCond .ne 32, 3) := by decide +kernel
theorem dX12_stepOf_4 : decode cX12_stepOf 4 = .ok (.iload_n 1, 1) := by decide +kernel
theorem dX12_stepOf_5 : decode cX12_stepOf 5 = .ok (.bipush 33, 2) := by decide +kernel
theorem dX12_stepOf_7 : decode cX12_stepOf 7 = .ok (.if_icmp .eq 9, 3) := by decide +kernel
theorem dX12_stepOf_10 : decode cX12_stepOf 10 = .ok (.iload_n 1, 1) := by decide +kernel
theorem dX12_stepOf_11 : decode cX12_stepOf 11 = .ok (.bipush 40, 2) := by decide +kernel
theorem dX12_stepOf_13 : decode cX12_stepOf 13 = .ok (.if_icmp .ne 7, 3) := by decide +kernel
theorem dX12_stepOf_16 : decode cX12_stepOf 16 = .ok (.iconst 0, 1) := by decide +kernel
theorem dX12_stepOf_17 : decode cX12_stepOf 17 = .ok (.goto 15, 3) := by decide +kernel
theorem dX12_stepOf_20 : decode cX12_stepOf 20 = .ok (.iload_n 1, 1) := by decide +kernel
theorem dX12_stepOf_21 : decode cX12_stepOf 21 = .ok (.invokestatic 240, 3) := by decide +kernel
theorem dX12_stepOf_24 : decode cX12_stepOf 24 = .ok (.ifCond .eq 7, 3) := by decide +kernel
theorem dX12_stepOf_27 : decode cX12_stepOf 27 = .ok (.iconst 1, 1) := by decide +kernel
theorem dX12_stepOf_28 : decode cX12_stepOf 28 = .ok (.goto 4, 3) := by decide +kernel
theorem dX12_stepOf_31 : decode cX12_stepOf 31 = .ok (.iconst (-1), 1) := by decide +kernel
theorem dX12_stepOf_32 : decode cX12_stepOf 32 = .ok (.ireturn, 1) := by decide +kernel
theorem dX12_stepOf_33 : decode cX12_stepOf 33 = .ok (.iload_n 0, 1) := by decide +kernel
theorem dX12_stepOf_34 : decode cX12_stepOf 34 = .ok (.iconst 1, 1) := by decide +kernel
theorem dX12_stepOf_35 : decode cX12_stepOf 35 = .ok (.if_icmp .ne 27, 3) := by decide +kernel
theorem dX12_stepOf_38 : decode cX12_stepOf 38 = .ok (.iload_n 1, 1) := by decide +kernel
theorem dX12_stepOf_39 : decode cX12_stepOf 39 = .ok (.bipush 60, 2) := by decide +kernel
theorem dX12_stepOf_41 : decode cX12_stepOf 41 = .ok (.if_icmp .eq 15, 3) := by decide +kernel
theorem dX12_stepOf_44 : decode cX12_stepOf 44 = .ok (.iload_n 1, 1) := by decide +kernel
theorem dX12_stepOf_45 : decode cX12_stepOf 45 = .ok (.bipush 62, 2) := by decide +kernel
theorem dX12_stepOf_47 : decode cX12_stepOf 47 = .ok (.if_icmp .eq 9, 3) := by decide +kernel
theorem dX12_stepOf_50 : decode cX12_stepOf 50 = .ok (.iload_n 1, 1) := by decide +kernel
theorem dX12_stepOf_51 : decode cX12_stepOf 51 = .ok (.bipush 61, 2) := by decide +kernel
theorem dX12_stepOf_53 : decode cX12_stepOf 53 = .ok (.if_icmp .ne 7, 3) := by decide +kernel
theorem dX12_stepOf_56 : decode cX12_stepOf 56 = .ok (.iconst 2, 1) := by decide +kernel
theorem dX12_stepOf_57 : decode cX12_stepOf 57 = .ok (.goto 4, 3) := by decide +kernel
theorem dX12_stepOf_60 : decode cX12_stepOf 60 = .ok (.iconst (-1), 1) := by decide +kernel
theorem dX12_stepOf_61 : decode cX12_stepOf 61 = .ok (.ireturn, 1) := by decide +kernel
theorem dX12_stepOf_62 : decode cX12_stepOf 62 = .ok (.iload_n 0, 1) := by decide +kernel
theorem dX12_stepOf_63 : decode cX12_stepOf 63 = .ok (.bipush 7, 2) := by decide +kernel
theorem dX12_stepOf_65 : decode cX12_stepOf 65 = .ok (.if_icmp .ge 14, 3) := by decide +kernel
theorem dX12_stepOf_68 : decode cX12_stepOf 68 = .ok (.iload_n 1, 1) := by decide +kernel
theorem dX12_stepOf_69 : decode cX12_stepOf 69 = .ok (.invokestatic 243, 3) := by decide +kernel
theorem dX12_stepOf_72 : decode cX12_stepOf 72 = .ok (.ifCond .eq 7, 3) := by decide +kernel
theorem dX12_stepOf_75 : decode cX12_stepOf 75 = .ok (.iload_n 0, 1) := by decide +kernel
theorem dX12_stepOf_76 : decode cX12_stepOf 76 = .ok (.iconst 1, 1) := by decide +kernel
theorem dX12_stepOf_77 : decode cX12_stepOf 77 = .ok (.iadd, 1) := by decide +kernel
theorem dX12_stepOf_78 : decode cX12_stepOf 78 = .ok (.ireturn, 1) := by decide +kernel
theorem dX12_stepOf_79 : decode cX12_stepOf 79 = .ok (.iload_n 0, 1) := by decide +kernel
theorem dX12_stepOf_80 : decode cX12_stepOf 80 = .ok (.iconst 2, 1) := by decide +kernel
theorem dX12_stepOf_81 : decode cX12_stepOf 81 = .ok (.if_icmp .ne 5, 3) := by decide +kernel
theorem dX12_stepOf_84 : decode cX12_stepOf 84 = .ok (.iconst (-1), 1) := by decide +kernel
theorem dX12_stepOf_85 : decode cX12_stepOf 85 = .ok (.ireturn, 1) := by decide +kernel
theorem dX12_stepOf_86 : decode cX12_stepOf 86 = .ok (.iload_n 1, 1) := by decide +kernel
theorem dX12_stepOf_87 : decode cX12_stepOf 87 = .ok (.bipush 38, 2) := by decide +kernel
theorem dX12_stepOf_89 : decode cX12_stepOf 89 = .ok (.if_icmp .eq 9, 3) := by decide +kernel
theorem dX12_stepOf_92 : decode cX12_stepOf 92 = .ok (.iload_n 1, 1) := by decide +kernel
theorem dX12_stepOf_93 : decode cX12_stepOf 93 = .ok (.bipush 124, 2) := by decide +kernel
theorem dX12_stepOf_95 : decode cX12_stepOf 95 = .ok (.if_icmp .ne 7, 3) := by decide +kernel
theorem dX12_stepOf_98 : decode cX12_stepOf 98 = .ok (.iconst 0, 1) := by decide +kernel
theorem dX12_stepOf_99 : decode cX12_stepOf 99 = .ok (.goto 19, 3) := by decide +kernel
theorem dX12_stepOf_102 : decode cX12_stepOf 102 = .ok (.iload_n 1, 1) := by decide +kernel
theorem dX12_stepOf_103 : decode cX12_stepOf 103 = .ok (.bipush 41, 2) := by decide +kernel
theorem dX12_stepOf_105 : decode cX12_stepOf 105 = .ok (.if_icmp .ne 12, 3) := by decide +kernel
theorem dX12_stepOf_108 : decode cX12_stepOf 108 = .ok (.iload_n 2, 1) := by decide +kernel
theorem dX12_stepOf_109 : decode cX12_stepOf 109 = .ok (.ifCond .le 8, 3) := by decide +kernel
theorem dX12_stepOf_112 : decode cX12_stepOf 112 = .ok (.bipush 8, 2) := by decide +kernel
theorem dX12_stepOf_114 : decode cX12_stepOf 114 = .ok (.goto 4, 3) := by decide +kernel
theorem dX12_stepOf_117 : decode cX12_stepOf 117 = .ok (.iconst (-1), 1) := by decide +kernel
theorem dX12_stepOf_118 : decode cX12_stepOf 118 = .ok (.ireturn, 1) := by decide +kernel
def vb_X12_stepOf_79 (post : Int32 → mj_M → Prop) (l0 : Int32) (l1 : Int32) (l2 : Int32) (M : mj_M) : Prop := if l0 = 2 then (post ((-1)) M) else (if l1 = 38 then (post 0 M) else (if l1 = 124 then (post 0 M) else (if l1 = 41 then (if l2 ≤ 0 then (post ((-1)) M) else (post 8 M)) else (post ((-1)) M))))
def vc_X12_stepOf (l0 : Int32) (l1 : Int32) (l2 : Int32) (M : mj_M) (post : Int32 → mj_M → Prop) : Prop := if l0 = 0 then (if l1 = 33 then (post 0 M) else (if l1 = 40 then (post 0 M) else (vc_X12_isFact l1 M (fun r17 M18 => if r17 = true then (post 1 M18) else (post ((-1)) M18))))) else (if l0 = 1 then (if l1 = 60 then (post 2 M) else (if l1 = 62 then (post 2 M) else (if l1 = 61 then (post 2 M) else (post ((-1)) M)))) else (if 7 ≤ l0 then (vb_X12_stepOf_79 post l0 l1 l2 M) else (vc_X12_isDigit l1 M (fun r9 M10 => if r9 = true then (post (l0 + 1) M10) else (vb_X12_stepOf_79 post l0 l1 l2 M10)))))
set_option maxHeartbeats 4000000 in
set_option maxRecDepth 100000 in
theorem xb_X12_stepOf_79 {g : mj_G} {post : Int32 → mj_M → Prop} (hC : mj_C g yX12_stepOf cX12_stepOf 3 (some .int) rm_X12_stepOf) (hE : mj_E g mj_jI post 0 0) (l0 : Int32) (l1 : Int32) (l2 : Int32) (M : mj_M) (h : vb_X12_stepOf_79 post l0 l1 l2 M) : mj_X g 79 [(0, vI l0), (1, vI l1), (2, vI l2)] [] M 0 0 := by
  simp only [vb_X12_stepOf_79] at h
  refine mx_iload_n (j := 0) hC dX12_stepOf_79 rfl rfl ?_
  refine mx_iconst (v := 2) hC dX12_stepOf_80 (by decide) ?_
  refine mx_icmpne (tgt := 86) hC dX12_stepOf_81 (by decide) (fun hc1 => ?_) (fun hc1 => ?_)
  · replace h := mj_nn hc1 h
    refine mx_iload_n (j := 1) hC dX12_stepOf_86 rfl rfl ?_
    refine mx_bipush (v := 38) hC dX12_stepOf_87 (by decide) ?_
    refine mx_icmpeq (tgt := 98) hC dX12_stepOf_89 (by decide) (fun hc2 => ?_) (fun hc2 => ?_)
    · replace h := mj_yy hc2 h
      refine mx_iconst (v := 0) hC dX12_stepOf_98 (by decide) ?_
      refine mx_goto (tgt := 118) hC dX12_stepOf_99 (by decide) ?_
      exact mx_iret hC hE rfl dX12_stepOf_118 h
    · replace h := mj_nn hc2 h
      refine mx_iload_n (j := 1) hC dX12_stepOf_92 rfl rfl ?_
      refine mx_bipush (v := 124) hC dX12_stepOf_93 (by decide) ?_
      refine mx_icmpne (tgt := 102) hC dX12_stepOf_95 (by decide) (fun hc3 => ?_) (fun hc3 => ?_)
      · replace h := mj_nn hc3 h
        refine mx_iload_n (j := 1) hC dX12_stepOf_102 rfl rfl ?_
        refine mx_bipush (v := 41) hC dX12_stepOf_103 (by decide) ?_
        refine mx_icmpne (tgt := 117) hC dX12_stepOf_105 (by decide) (fun hc4 => ?_) (fun hc4 => ?_)
        · replace h := mj_nn hc4 h
          refine mx_iconst (v := (-1)) hC dX12_stepOf_117 (by decide) ?_
          exact mx_iret hC hE rfl dX12_stepOf_118 h
        · replace h := mj_yy hc4 h
          refine mx_iload_n (j := 2) hC dX12_stepOf_108 rfl rfl ?_
          refine mx_ifle (tgt := 117) hC dX12_stepOf_109 (by decide) (fun hc5 => ?_) (fun hc5 => ?_)
          · replace h := mj_yy hc5 h
            refine mx_iconst (v := (-1)) hC dX12_stepOf_117 (by decide) ?_
            exact mx_iret hC hE rfl dX12_stepOf_118 h
          · replace h := mj_nn hc5 h
            refine mx_bipush (v := 8) hC dX12_stepOf_112 (by decide) ?_
            refine mx_goto (tgt := 118) hC dX12_stepOf_114 (by decide) ?_
            exact mx_iret hC hE rfl dX12_stepOf_118 h
      · replace h := mj_yy hc3 h
        refine mx_iconst (v := 0) hC dX12_stepOf_98 (by decide) ?_
        refine mx_goto (tgt := 118) hC dX12_stepOf_99 (by decide) ?_
        exact mx_iret hC hE rfl dX12_stepOf_118 h
  · replace h := mj_yy hc1 h
    refine mx_iconst (v := (-1)) hC dX12_stepOf_84 (by decide) ?_
    exact mx_iret hC hE rfl dX12_stepOf_85 h
set_option maxHeartbeats 4000000 in
set_option maxRecDepth 100000 in
theorem ct_X12_stepOf {l : Launch} {base : Nat} {D : va_G} {A : ClassId × ClassId × ClassId} (l0 : Int32) (l1 : Int32) (l2 : Int32) (M : mj_M) (post : Int32 → mj_M → Prop) (h : vc_X12_stepOf l0 l1 l2 M post) : mj_Met l base D A mj_jI yX12_stepOf cX12_stepOf 3 (some .int) rm_X12_stepOf 0 0 [vI l0, vI l1, vI l2] M post := by
  refine mj_entry (by decide +kernel) (Nat.le_of_ble_eq_true rfl) (fun g hC hE h1 h2 h3 h4 => ?_)
  show mj_X g 0 [(0, vI l0), (1, vI l1), (2, vI l2)] [] M 0 0
  simp only [vc_X12_stepOf] at h
  refine mx_iload_n (j := 0) hC dX12_stepOf_0 rfl rfl ?_
  refine mx_ifne (tgt := 33) hC dX12_stepOf_1 (by decide) (fun hc6 => ?_) (fun hc6 => ?_)
  · replace h := mj_nn hc6 h
    refine mx_iload_n (j := 0) hC dX12_stepOf_33 rfl rfl ?_
    refine mx_iconst (v := 1) hC dX12_stepOf_34 (by decide) ?_
    refine mx_icmpne (tgt := 62) hC dX12_stepOf_35 (by decide) (fun hc7 => ?_) (fun hc7 => ?_)
    · replace h := mj_nn hc7 h
      refine mx_iload_n (j := 0) hC dX12_stepOf_62 rfl rfl ?_
      refine mx_bipush (v := 7) hC dX12_stepOf_63 (by decide) ?_
      refine mx_icmpge (tgt := 79) hC dX12_stepOf_65 (by decide) (fun hc8 => ?_) (fun hc8 => ?_)
      · replace h := mj_yy hc8 h
        refine mx_sub (L' := [(0, vI l0), (1, vI l1), (2, vI l2)]) [0, 1, 2] rfl ?_
        exact show mj_X g 79 [(0, vI l0), (1, vI l1), (2, vI l2)] [] M 0 0 from (xb_X12_stepOf_79 hC hE l0 l1 l2 M h)
      · replace h := mj_nn hc8 h
        refine mx_iload_n (j := 1) hC dX12_stepOf_68 rfl rfl ?_
        refine mx_callS (inj := mj_jB) (As := [vI l1]) (st := []) hC (ct_X12_isDigit l1 M _ h) ty_X12_isDigit tw1544 rfl (Nat.le_of_ble_eq_true rfl) ⟨rfl, rfl, ⟨by decide, by decide⟩, by decide, by decide⟩ dX12_stepOf_69 (fun r9 M10 h => ?_)
        show mj_X g 72 [(0, vI l0), (1, vI l1), (2, vI l2)] [vI (mj_b r9)] M10 0 0
        refine mx_ifeqB (tgt := 79) hC dX12_stepOf_72 (by decide) (fun hc11 => ?_) (fun hc11 => ?_)
        · replace h := mj_nn hc11 h
          refine mx_sub (L' := [(0, vI l0), (1, vI l1), (2, vI l2)]) [0, 1, 2] rfl ?_
          exact show mj_X g 79 [(0, vI l0), (1, vI l1), (2, vI l2)] [] M10 0 0 from (xb_X12_stepOf_79 hC hE l0 l1 l2 M10 h)
        · replace h := mj_yy hc11 h
          refine mx_iload_n (j := 0) hC dX12_stepOf_75 rfl rfl ?_
          refine mx_iconst (v := 1) hC dX12_stepOf_76 (by decide) ?_
          refine mx_iadd hC dX12_stepOf_77 ?_
          exact mx_iret hC hE rfl dX12_stepOf_78 h
    · replace h := mj_yy hc7 h
      refine mx_iload_n (j := 1) hC dX12_stepOf_38 rfl rfl ?_
      refine mx_bipush (v := 60) hC dX12_stepOf_39 (by decide) ?_
      refine mx_icmpeq (tgt := 56) hC dX12_stepOf_41 (by decide) (fun hc12 => ?_) (fun hc12 => ?_)
      · replace h := mj_yy hc12 h
        refine mx_iconst (v := 2) hC dX12_stepOf_56 (by decide) ?_
        refine mx_goto (tgt := 61) hC dX12_stepOf_57 (by decide) ?_
        exact mx_iret hC hE rfl dX12_stepOf_61 h
      · replace h := mj_nn hc12 h
        refine mx_iload_n (j := 1) hC dX12_stepOf_44 rfl rfl ?_
        refine mx_bipush (v := 62) hC dX12_stepOf_45 (by decide) ?_
        refine mx_icmpeq (tgt := 56) hC dX12_stepOf_47 (by decide) (fun hc13 => ?_) (fun hc13 => ?_)
        · replace h := mj_yy hc13 h
          refine mx_iconst (v := 2) hC dX12_stepOf_56 (by decide) ?_
          refine mx_goto (tgt := 61) hC dX12_stepOf_57 (by decide) ?_
          exact mx_iret hC hE rfl dX12_stepOf_61 h
        · replace h := mj_nn hc13 h
          refine mx_iload_n (j := 1) hC dX12_stepOf_50 rfl rfl ?_
          refine mx_bipush (v := 61) hC dX12_stepOf_51 (by decide) ?_
          refine mx_icmpne (tgt := 60) hC dX12_stepOf_53 (by decide) (fun hc14 => ?_) (fun hc14 => ?_)
          · replace h := mj_nn hc14 h
            refine mx_iconst (v := (-1)) hC dX12_stepOf_60 (by decide) ?_
            exact mx_iret hC hE rfl dX12_stepOf_61 h
          · replace h := mj_yy hc14 h
            refine mx_iconst (v := 2) hC dX12_stepOf_56 (by decide) ?_
            refine mx_goto (tgt := 61) hC dX12_stepOf_57 (by decide) ?_
            exact mx_iret hC hE rfl dX12_stepOf_61 h
  · replace h := mj_yy hc6 h
    refine mx_iload_n (j := 1) hC dX12_stepOf_4 rfl rfl ?_
    refine mx_bipush (v := 33) hC dX12_stepOf_5 (by decide) ?_
    refine mx_icmpeq (tgt := 16) hC dX12_stepOf_7 (by decide) (fun hc15 => ?_) (fun hc15 => ?_)
    · replace h := mj_yy hc15 h
      refine mx_iconst (v := 0) hC dX12_stepOf_16 (by decide) ?_
      refine mx_goto (tgt := 32) hC dX12_stepOf_17 (by decide) ?_
      exact mx_iret hC hE rfl dX12_stepOf_32 h
    · replace h := mj_nn hc15 h
      refine mx_iload_n (j := 1) hC dX12_stepOf_10 rfl rfl ?_
      refine mx_bipush (v := 40) hC dX12_stepOf_11 (by decide) ?_
      refine mx_icmpne (tgt := 20) hC dX12_stepOf_13 (by decide) (fun hc16 => ?_) (fun hc16 => ?_)
      · replace h := mj_nn hc16 h
        refine mx_iload_n (j := 1) hC dX12_stepOf_20 rfl rfl ?_
        refine mx_callS (inj := mj_jB) (As := [vI l1]) (st := []) hC (ct_X12_isFact l1 M _ h) ty_X12_isFact tw1541 rfl (Nat.le_of_ble_eq_true rfl) ⟨rfl, rfl, ⟨by decide, by decide⟩, by decide, by decide⟩ dX12_stepOf_21 (fun r17 M18 h => ?_)
        show mj_X g 24 [(0, vI l0), (1, vI l1), (2, vI l2)] [vI (mj_b r17)] M18 0 0
        refine mx_ifeqB (tgt := 31) hC dX12_stepOf_24 (by decide) (fun hc19 => ?_) (fun hc19 => ?_)
        · replace h := mj_nn hc19 h
          refine mx_iconst (v := (-1)) hC dX12_stepOf_31 (by decide) ?_
          exact mx_iret hC hE rfl dX12_stepOf_32 h
        · replace h := mj_yy hc19 h
          refine mx_iconst (v := 1) hC dX12_stepOf_27 (by decide) ?_
          refine mx_goto (tgt := 32) hC dX12_stepOf_28 (by decide) ?_
          exact mx_iret hC hE rfl dX12_stepOf_32 h
      · replace h := mj_yy hc16 h
        refine mx_iconst (v := 0) hC dX12_stepOf_16 (by decide) ?_
        refine mx_goto (tgt := 32) hC dX12_stepOf_17 (by decide) ?_
        exact mx_iret hC hE rfl dX12_stepOf_32 h
theorem tw1538 : (Jvm.Cond.methodLink "LeaseLandModel" (246 : Nat) ({ cls := "LeaseLandModel", name := "stepOf", desc := "(III)I" } : Jvm.MethodName)) ∈ mj_tbl := mj_w 1591 (by decide +kernel) (by decide +kernel)
theorem tw1540 : (Jvm.Cond.code ({ cls := "LeaseLandModel", name := "stepOf", desc := "(III)I" } : Jvm.MethodName) prog_14_method_45_code (3 : Nat) (Option.some Jvm.ClassFile.FieldType.int)) ∈ mj_tbl := mj_w 1593 (by decide +kernel) (by decide +kernel)
theorem tw1539 : (Jvm.Cond.static ({ cls := "LeaseLandModel", name := "stepOf", desc := "(III)I" } : Jvm.MethodName)) ∈ mj_tbl := mj_w 1592 (by decide +kernel) (by decide +kernel)
theorem ty_X12_stepOf : mj_YS yX12_stepOf cX12_stepOf 3 (some .int) 3 := ⟨⟨tw1540, tw11, by decide +kernel, by decide +kernel, by decide +kernel⟩, tw1539⟩
def rm_X12_faultOf : Room := { frames := 3, cells := 0, slots := 0, locals := 67 }
theorem dX12_faultOf_0 : decode cX12_faultOf 0 = .ok (.iconst 0, 1) := by decide +kernel
theorem dX12_faultOf_1 : decode cX12_faultOf 1 = .ok (.istore_n 1, 1) := by decide +kernel
theorem dX12_faultOf_2 : decode cX12_faultOf 2 = .ok (.iconst 0, 1) := by decide +kernel
theorem dX12_faultOf_3 : decode cX12_faultOf 3 = .ok (.istore_n 2, 1) := by decide +kernel
theorem dX12_faultOf_4 : decode cX12_faultOf 4 = .ok (.iconst 0, 1) := by decide +kernel
theorem dX12_faultOf_5 : decode cX12_faultOf 5 = .ok (.istore_n 3, 1) := by decide +kernel
theorem dX12_faultOf_6 : decode cX12_faultOf 6 = .ok (.iload_n 3, 1) := by decide +kernel
theorem dX12_faultOf_7 : decode cX12_faultOf 7 = .ok (.aload_n 0, 1) := by decide +kernel
theorem dX12_faultOf_8 : decode cX12_faultOf 8 = .ok (.getfield 55, 3) := by decide +kernel
theorem dX12_faultOf_11 : decode cX12_faultOf 11 = .ok (.bipush 12, 2) := by decide +kernel
theorem dX12_faultOf_13 : decode cX12_faultOf 13 = .ok (.iaload, 1) := by decide +kernel
theorem dX12_faultOf_14 : decode cX12_faultOf 14 = .ok (.if_icmp .ge 61, 3) := by decide +kernel
theorem dX12_faultOf_17 : decode cX12_faultOf 17 = .ok (.aload_n 0, 1) := by decide +kernel
theorem dX12_faultOf_18 : decode cX12_faultOf 18 = .ok (.getfield 52, 3) := by decide +kernel
theorem dX12_faultOf_21 : decode cX12_faultOf 21 = .ok (.sipush 576, 3) := by decide +kernel
theorem dX12_faultOf_24 : decode cX12_faultOf 24 = .ok (.iload_n 3, 1) := by decide +kernel
theorem dX12_faultOf_25 : decode cX12_faultOf 25 = .ok (.iadd, 1) := by decide +kernel
theorem dX12_faultOf_26 : decode cX12_faultOf 26 = .ok (.iaload, 1) := by decide +kernel
theorem dX12_faultOf_27 : decode cX12_faultOf 27 = .ok (.istore 4, 2) := by decide +kernel
theorem dX12_faultOf_29 : decode cX12_faultOf 29 = .ok (.iload_n 1, 1) := by decide +kernel
theorem dX12_faultOf_30 : decode cX12_faultOf 30 = .ok (.iload 4, 2) := by decide +kernel
theorem dX12_faultOf_32 : decode cX12_faultOf 32 = .ok (.iload_n 2, 1) := by decide +kernel
theorem dX12_faultOf_33 : decode cX12_faultOf 33 = .ok (.invokestatic 246, 3) := by decide +kernel
theorem dX12_faultOf_36 : decode cX12_faultOf 36 = .ok (.istore_n 1, 1) := by decide +kernel
theorem dX12_faultOf_37 : decode cX12_faultOf 37 = .ok (.iload_n 1, 1) := by decide +kernel
theorem dX12_faultOf_38 : decode cX12_faultOf 38 = .ok (.ifCond .ge 5, 3) := by decide +kernel
theorem dX12_faultOf_41 : decode cX12_faultOf 41 = .ok (.iload_n 3, 1) := by decide +kernel
theorem dX12_faultOf_42 : decode cX12_faultOf 42 = .ok (.ireturn, 1) := by decide +kernel
theorem dX12_faultOf_43 : decode cX12_faultOf 43 = .ok (.iload_n 2, 1) := by decide +kernel
theorem dX12_faultOf_44 : decode cX12_faultOf 44 = .ok (.iload 4, 2) := by decide +kernel
theorem dX12_faultOf_46 : decode cX12_faultOf 46 = .ok (.bipush 40, 2) := by decide +kernel
theorem dX12_faultOf_48 : decode cX12_faultOf 48 = .ok (.if_icmp .ne 7, 3) := by decide +kernel
theorem dX12_faultOf_51 : decode cX12_faultOf 51 = .ok (.iconst 1, 1) := by decide +kernel
theorem dX12_faultOf_52 : decode cX12_faultOf 52 = .ok (.goto 15, 3) := by decide +kernel
theorem dX12_faultOf_55 : decode cX12_faultOf 55 = .ok (.iload 4, 2) := by decide +kernel
theorem dX12_faultOf_57 : decode cX12_faultOf 57 = .ok (.bipush 41, 2) := by decide +kernel
theorem dX12_faultOf_59 : decode cX12_faultOf 59 = .ok (.if_icmp .ne 7, 3) := by decide +kernel
theorem dX12_faultOf_62 : decode cX12_faultOf 62 = .ok (.iconst (-1), 1) := by decide +kernel
theorem dX12_faultOf_63 : decode cX12_faultOf 63 = .ok (.goto 4, 3) := by decide +kernel
theorem dX12_faultOf_66 : decode cX12_faultOf 66 = .ok (.iconst 0, 1) := by decide +kernel
theorem dX12_faultOf_67 : decode cX12_faultOf 67 = .ok (.iadd, 1) := by decide +kernel
theorem dX12_faultOf_68 : decode cX12_faultOf 68 = .ok (.istore_n 2, 1) := by decide +kernel
theorem dX12_faultOf_69 : decode cX12_faultOf 69 = .ok (.iinc 3 1, 3) := by decide +kernel
theorem dX12_faultOf_72 : decode cX12_faultOf 72 = .ok (.goto (-66), 3) := by decide +kernel
theorem dX12_faultOf_75 : decode cX12_faultOf 75 = .ok (.iload_n 1, 1) := by decide +kernel
theorem dX12_faultOf_76 : decode cX12_faultOf 76 = .ok (.iconst 2, 1) := by decide +kernel
theorem dX12_faultOf_77 : decode cX12_faultOf 77 = .ok (.if_icmp .le 12, 3) := by decide +kernel
theorem dX12_faultOf_80 : decode cX12_faultOf 80 = .ok (.iload_n 2, 1) := by decide +kernel
theorem dX12_faultOf_81 : decode cX12_faultOf 81 = .ok (.ifCond .ne 8, 3) := by decide +kernel
theorem dX12_faultOf_84 : decode cX12_faultOf 84 = .ok (.bipush (-6), 2) := by decide +kernel
theorem dX12_faultOf_86 : decode cX12_faultOf 86 = .ok (.goto 10, 3) := by decide +kernel
theorem dX12_faultOf_89 : decode cX12_faultOf 89 = .ok (.aload_n 0, 1) := by decide +kernel
theorem dX12_faultOf_90 : decode cX12_faultOf 90 = .ok (.getfield 55, 3) := by decide +kernel
theorem dX12_faultOf_93 : decode cX12_faultOf 93 = .ok (.bipush 12, 2) := by decide +kernel
theorem dX12_faultOf_95 : decode cX12_faultOf 95 = .ok (.iaload, 1) := by decide +kernel
theorem dX12_faultOf_96 : decode cX12_faultOf 96 = .ok (.ireturn, 1) := by decide +kernel
def vb_X12_faultOf_6 (post : Int32 → mj_M → Prop) : Nat → Nat → Int32 → Int32 → Int32 → mj_M → Prop
  | 0 => fun _ _ _ _ _ => False
  | f + 1 => fun l0 l1 l2 l3 M => mj_tag M l0 = 13 ∧ mj_tag M (mj_r M l0 17) = 101 ∧ vp_in 12 (mj_len M (mj_r M l0 17)) ∧ if (mj_i M (mj_r M l0 17) (12 : Int32).toNatClampNeg) ≤ l3 then (if l1 ≤ 2 then (post (mj_i M (mj_r M l0 17) (12 : Int32).toNatClampNeg) M) else (if l2 = 0 then (post ((-6)) M) else (post (mj_i M (mj_r M l0 17) (12 : Int32).toNatClampNeg) M))) else (mj_tag M (mj_r M l0 16) = 101 ∧ vp_in (576 + l3) (mj_len M (mj_r M l0 16)) ∧ vc_X12_stepOf l1 (mj_i M (mj_r M l0 16) (576 + l3 : Int32).toNatClampNeg) l2 M (fun r9 M10 => if 0 ≤ r9 then (if (mj_i M (mj_r M l0 16) (576 + l3 : Int32).toNatClampNeg) = 40 then (vb_X12_faultOf_6 post f l0 r9 (l2 + 1) (l3 + 1) M10) else (if (mj_i M (mj_r M l0 16) (576 + l3 : Int32).toNatClampNeg) = 41 then (vb_X12_faultOf_6 post f l0 r9 (l2 + ((-1))) (l3 + 1) M10) else (vb_X12_faultOf_6 post f l0 r9 (l2 + 0) (l3 + 1) M10))) else (post l3 M10)))
def vc_X12_faultOf (l0 : Nat) (M : mj_M) (post : Int32 → mj_M → Prop) : Prop := ∃ fe, vb_X12_faultOf_6 post fe l0 0 0 0 M
set_option maxHeartbeats 4000000 in
set_option maxRecDepth 100000 in
theorem xb_X12_faultOf_6 {g : mj_G} {post : Int32 → mj_M → Prop} (hC : mj_C g yX12_faultOf cX12_faultOf 5 (some .int) rm_X12_faultOf) (hE : mj_E g mj_jI post 0 0) : ∀ (f : Nat) (l0 : Nat) (l1 : Int32) (l2 : Int32) (l3 : Int32) (M : mj_M), vb_X12_faultOf_6 post f l0 l1 l2 l3 M → mj_X g 6 [(0, vR l0), (1, vI l1), (2, vI l2), (3, vI l3)] [] M 0 0 := by
  intro f
  induction f with
  | zero => exact fun _ _ _ _ _ h => absurd h (fun z => z)
  | succ f ih =>
    intro l0 l1 l2 l3 M h
    simp only [vb_X12_faultOf_6] at h
    refine mx_iload_n (j := 3) hC dX12_faultOf_6 rfl rfl ?_
    refine mx_aload_n (j := 0) hC dX12_faultOf_7 rfl rfl ?_
    obtain ⟨ht1, h⟩ := h
    refine mx_get (v := vR (mj_r M l0 17)) hC tf_X12_55 ht1 rfl dX12_faultOf_8 ?_
    refine mx_bipush (v := 12) hC dX12_faultOf_11 (by decide) ?_
    obtain ⟨ht2, h⟩ := h
    obtain ⟨hi3, h⟩ := h
    refine mx_iaload hC ht2 hi3 dX12_faultOf_13 ?_
    refine mx_icmpge (tgt := 75) hC dX12_faultOf_14 (by decide) (fun hc4 => ?_) (fun hc4 => ?_)
    · replace h := mj_yy hc4 h
      refine mx_iload_n (j := 1) hC dX12_faultOf_75 rfl rfl ?_
      refine mx_iconst (v := 2) hC dX12_faultOf_76 (by decide) ?_
      refine mx_icmple (tgt := 89) hC dX12_faultOf_77 (by decide) (fun hc5 => ?_) (fun hc5 => ?_)
      · replace h := mj_yy hc5 h
        refine mx_aload_n (j := 0) hC dX12_faultOf_89 rfl rfl ?_
        refine mx_get (v := vR (mj_r M l0 17)) hC tf_X12_55 ht1 rfl dX12_faultOf_90 ?_
        refine mx_bipush (v := 12) hC dX12_faultOf_93 (by decide) ?_
        refine mx_iaload hC ht2 hi3 dX12_faultOf_95 ?_
        exact mx_iret hC hE rfl dX12_faultOf_96 h
      · replace h := mj_nn hc5 h
        refine mx_iload_n (j := 2) hC dX12_faultOf_80 rfl rfl ?_
        refine mx_ifne (tgt := 89) hC dX12_faultOf_81 (by decide) (fun hc6 => ?_) (fun hc6 => ?_)
        · replace h := mj_nn hc6 h
          refine mx_aload_n (j := 0) hC dX12_faultOf_89 rfl rfl ?_
          refine mx_get (v := vR (mj_r M l0 17)) hC tf_X12_55 ht1 rfl dX12_faultOf_90 ?_
          refine mx_bipush (v := 12) hC dX12_faultOf_93 (by decide) ?_
          refine mx_iaload hC ht2 hi3 dX12_faultOf_95 ?_
          exact mx_iret hC hE rfl dX12_faultOf_96 h
        · replace h := mj_yy hc6 h
          refine mx_bipush (v := (-6)) hC dX12_faultOf_84 (by decide) ?_
          refine mx_goto (tgt := 96) hC dX12_faultOf_86 (by decide) ?_
          exact mx_iret hC hE rfl dX12_faultOf_96 h
    · replace h := mj_nn hc4 h
      refine mx_aload_n (j := 0) hC dX12_faultOf_17 rfl rfl ?_
      refine mx_get (v := vR (mj_r M l0 16)) hC tf_X12_52 ht1 rfl dX12_faultOf_18 ?_
      refine mx_sipush (v := 576) hC dX12_faultOf_21 (by decide) ?_
      refine mx_iload_n (j := 3) hC dX12_faultOf_24 rfl rfl ?_
      refine mx_iadd hC dX12_faultOf_25 ?_
      obtain ⟨ht7, h⟩ := h
      obtain ⟨hi8, h⟩ := h
      refine mx_iaload hC ht7 hi8 dX12_faultOf_26 ?_
      refine mx_istore (L' := [(4, vI (mj_i M (mj_r M l0 16) (576 + l3 : Int32).toNatClampNeg)), (0, vR l0), (1, vI l1), (2, vI l2), (3, vI l3)]) hC dX12_faultOf_27 (by decide) rfl ?_
      refine mx_iload_n (j := 2) hC dX12_faultOf_29 rfl rfl ?_
      refine mx_iload (j := 0) hC dX12_faultOf_30 rfl ?_
      refine mx_iload_n (j := 3) hC dX12_faultOf_32 rfl rfl ?_
      refine mx_callS (inj := mj_jI) (As := [vI l1, vI (mj_i M (mj_r M l0 16) (576 + l3 : Int32).toNatClampNeg), vI l2]) (st := []) hC (ct_X12_stepOf l1 (mj_i M (mj_r M l0 16) (576 + l3 : Int32).toNatClampNeg) l2 M _ h) ty_X12_stepOf tw1538 rfl (Nat.le_of_ble_eq_true rfl) ⟨rfl, rfl, ⟨by decide, by decide⟩, by decide, by decide⟩ dX12_faultOf_33 (fun r9 M10 h => ?_)
      show mj_X g 36 [(4, vI (mj_i M (mj_r M l0 16) (576 + l3 : Int32).toNatClampNeg)), (0, vR l0), (1, vI l1), (2, vI l2), (3, vI l3)] [vI r9] M10 0 0
      refine mx_istore_n (L' := [(1, vI r9), (4, vI (mj_i M (mj_r M l0 16) (576 + l3 : Int32).toNatClampNeg)), (0, vR l0), (2, vI l2), (3, vI l3)]) hC dX12_faultOf_36 rfl (by decide) rfl ?_
      refine mx_iload_n (j := 0) hC dX12_faultOf_37 rfl rfl ?_
      refine mx_ifge (tgt := 43) hC dX12_faultOf_38 (by decide) (fun hc11 => ?_) (fun hc11 => ?_)
      · replace h := mj_yy hc11 h
        refine mx_iload_n (j := 3) hC dX12_faultOf_43 rfl rfl ?_
        refine mx_iload (j := 1) hC dX12_faultOf_44 rfl ?_
        refine mx_bipush (v := 40) hC dX12_faultOf_46 (by decide) ?_
        refine mx_icmpne (tgt := 55) hC dX12_faultOf_48 (by decide) (fun hc12 => ?_) (fun hc12 => ?_)
        · replace h := mj_nn hc12 h
          refine mx_iload (j := 1) hC dX12_faultOf_55 rfl ?_
          refine mx_bipush (v := 41) hC dX12_faultOf_57 (by decide) ?_
          refine mx_icmpne (tgt := 66) hC dX12_faultOf_59 (by decide) (fun hc13 => ?_) (fun hc13 => ?_)
          · replace h := mj_nn hc13 h
            refine mx_iconst (v := 0) hC dX12_faultOf_66 (by decide) ?_
            refine mx_iadd hC dX12_faultOf_67 ?_
            refine mx_istore_n (L' := [(2, vI (l2 + 0)), (1, vI r9), (4, vI (mj_i M (mj_r M l0 16) (576 + l3 : Int32).toNatClampNeg)), (0, vR l0), (3, vI l3)]) hC dX12_faultOf_68 rfl (by decide) rfl ?_
            refine mx_iinc (j := 4) (v := l3 + 1) (L' := [(3, vI (l3 + 1)), (2, vI (l2 + 0)), (1, vI r9), (4, vI (mj_i M (mj_r M l0 16) (576 + l3 : Int32).toNatClampNeg)), (0, vR l0)]) hC dX12_faultOf_69 rfl rfl (by decide) rfl ?_
            refine mx_goto (tgt := 6) hC dX12_faultOf_72 (by decide) ?_
            refine mx_sub (L' := [(0, vR l0), (1, vI r9), (2, vI (l2 + 0)), (3, vI (l3 + 1))]) [4, 2, 1, 0] rfl ?_
            exact show mj_X g 6 [(0, vR l0), (1, vI r9), (2, vI (l2 + 0)), (3, vI (l3 + 1))] [] M10 0 0 from (ih l0 r9 (l2 + 0) (l3 + 1) M10 h)
          · replace h := mj_yy hc13 h
            refine mx_iconst (v := (-1)) hC dX12_faultOf_62 (by decide) ?_
            refine mx_goto (tgt := 67) hC dX12_faultOf_63 (by decide) ?_
            refine mx_iadd hC dX12_faultOf_67 ?_
            refine mx_istore_n (L' := [(2, vI (l2 + ((-1)))), (1, vI r9), (4, vI (mj_i M (mj_r M l0 16) (576 + l3 : Int32).toNatClampNeg)), (0, vR l0), (3, vI l3)]) hC dX12_faultOf_68 rfl (by decide) rfl ?_
            refine mx_iinc (j := 4) (v := l3 + 1) (L' := [(3, vI (l3 + 1)), (2, vI (l2 + ((-1)))), (1, vI r9), (4, vI (mj_i M (mj_r M l0 16) (576 + l3 : Int32).toNatClampNeg)), (0, vR l0)]) hC dX12_faultOf_69 rfl rfl (by decide) rfl ?_
            refine mx_goto (tgt := 6) hC dX12_faultOf_72 (by decide) ?_
            refine mx_sub (L' := [(0, vR l0), (1, vI r9), (2, vI (l2 + ((-1)))), (3, vI (l3 + 1))]) [4, 2, 1, 0] rfl ?_
            exact show mj_X g 6 [(0, vR l0), (1, vI r9), (2, vI (l2 + ((-1)))), (3, vI (l3 + 1))] [] M10 0 0 from (ih l0 r9 (l2 + ((-1))) (l3 + 1) M10 h)
        · replace h := mj_yy hc12 h
          refine mx_iconst (v := 1) hC dX12_faultOf_51 (by decide) ?_
          refine mx_goto (tgt := 67) hC dX12_faultOf_52 (by decide) ?_
          refine mx_iadd hC dX12_faultOf_67 ?_
          refine mx_istore_n (L' := [(2, vI (l2 + 1)), (1, vI r9), (4, vI (mj_i M (mj_r M l0 16) (576 + l3 : Int32).toNatClampNeg)), (0, vR l0), (3, vI l3)]) hC dX12_faultOf_68 rfl (by decide) rfl ?_
          refine mx_iinc (j := 4) (v := l3 + 1) (L' := [(3, vI (l3 + 1)), (2, vI (l2 + 1)), (1, vI r9), (4, vI (mj_i M (mj_r M l0 16) (576 + l3 : Int32).toNatClampNeg)), (0, vR l0)]) hC dX12_faultOf_69 rfl rfl (by decide) rfl ?_
          refine mx_goto (tgt := 6) hC dX12_faultOf_72 (by decide) ?_
          refine mx_sub (L' := [(0, vR l0), (1, vI r9), (2, vI (l2 + 1)), (3, vI (l3 + 1))]) [4, 2, 1, 0] rfl ?_
          exact show mj_X g 6 [(0, vR l0), (1, vI r9), (2, vI (l2 + 1)), (3, vI (l3 + 1))] [] M10 0 0 from (ih l0 r9 (l2 + 1) (l3 + 1) M10 h)
      · replace h := mj_nn hc11 h
        refine mx_iload_n (j := 4) hC dX12_faultOf_41 rfl rfl ?_
        exact mx_iret hC hE rfl dX12_faultOf_42 h
set_option maxHeartbeats 4000000 in
set_option maxRecDepth 100000 in
theorem ct_X12_faultOf {l : Launch} {base : Nat} {D : va_G} {A : ClassId × ClassId × ClassId} (l0 : Nat) (M : mj_M) (post : Int32 → mj_M → Prop) (h : vc_X12_faultOf l0 M post) : mj_Met l base D A mj_jI yX12_faultOf cX12_faultOf 5 (some .int) rm_X12_faultOf 0 0 [vR l0] M post := by
  refine mj_entry (by decide +kernel) (Nat.le_of_ble_eq_true rfl) (fun g hC hE h1 h2 h3 h4 => ?_)
  show mj_X g 0 [(0, vR l0)] [] M 0 0
  simp only [vc_X12_faultOf] at h
  refine mx_iconst (v := 0) hC dX12_faultOf_0 (by decide) ?_
  refine mx_istore_n (L' := [(1, vI 0), (0, vR l0)]) hC dX12_faultOf_1 rfl (by decide) rfl ?_
  refine mx_iconst (v := 0) hC dX12_faultOf_2 (by decide) ?_
  refine mx_istore_n (L' := [(2, vI 0), (1, vI 0), (0, vR l0)]) hC dX12_faultOf_3 rfl (by decide) rfl ?_
  refine mx_iconst (v := 0) hC dX12_faultOf_4 (by decide) ?_
  refine mx_istore_n (L' := [(3, vI 0), (2, vI 0), (1, vI 0), (0, vR l0)]) hC dX12_faultOf_5 rfl (by decide) rfl ?_
  refine mx_sub (L' := [(0, vR l0), (1, vI 0), (2, vI 0), (3, vI 0)]) [3, 2, 1, 0] rfl ?_
  obtain ⟨fe, h⟩ := h
  exact show mj_X g 6 [(0, vR l0), (1, vI 0), (2, vI 0), (3, vI 0)] [] M 0 0 from (xb_X12_faultOf_6 hC hE fe l0 0 0 0 M h)
theorem tw1534 : (Jvm.Cond.methodLink "LeaseLandModel" (249 : Nat) ({ cls := "LeaseLandModel", name := "faultOf", desc := "()I" } : Jvm.MethodName)) ∈ mj_tbl := mj_w 1587 (by decide +kernel) (by decide +kernel)
theorem tw1537 : (Jvm.Cond.code ({ cls := "LeaseLandModel", name := "faultOf", desc := "()I" } : Jvm.MethodName) prog_14_method_46_code (5 : Nat) (Option.some Jvm.ClassFile.FieldType.int)) ∈ mj_tbl := mj_w 1590 (by decide +kernel) (by decide +kernel)
theorem tw1536 : (Jvm.Cond.instanceMethod ({ cls := "LeaseLandModel", name := "faultOf", desc := "()I" } : Jvm.MethodName)) ∈ mj_tbl := mj_w 1589 (by decide +kernel) (by decide +kernel)
theorem ty_X12_faultOf : mj_YV 12 yX12_faultOf cX12_faultOf 5 (some .int) 0 := ⟨⟨tw1537, tw11, by decide +kernel, by decide +kernel, by decide +kernel⟩, tw1536, mj_w 20 (by decide +kernel) (by decide +kernel), _, rfl, rfl⟩
def rm_X12_fault : Room := { frames := 4, cells := 0, slots := 0, locals := 91 }
theorem dX12_fault_0 : decode cX12_fault 0 = .ok (.aload_n 0, 1) := by decide +kernel
theorem dX12_fault_1 : decode cX12_fault 1 = .ok (.invokevirtual 249, 3) := by decide +kernel
theorem dX12_fault_4 : decode cX12_fault 4 = .ok (.ireturn, 1) := by decide +kernel
def vc_X12_fault (l0 : Nat) (M : mj_M) (post : Int32 → mj_M → Prop) : Prop := mj_tag M l0 = 13 ∧ vc_X12_faultOf l0 M (fun r2 M3 => post r2 M3)
set_option maxHeartbeats 4000000 in
set_option maxRecDepth 100000 in
theorem ct_X12_fault {l : Launch} {base : Nat} {D : va_G} {A : ClassId × ClassId × ClassId} (l0 : Nat) (M : mj_M) (post : Int32 → mj_M → Prop) (h : vc_X12_fault l0 M post) : mj_Met l base D A mj_jI yX12_fault cX12_fault 1 (some .int) rm_X12_fault 0 0 [vR l0] M post := by
  refine mj_entry (by decide +kernel) (Nat.le_of_ble_eq_true rfl) (fun g hC hE h1 h2 h3 h4 => ?_)
  show mj_X g 0 [(0, vR l0)] [] M 0 0
  simp only [vc_X12_fault] at h
  refine mx_aload_n (j := 0) hC dX12_fault_0 rfl rfl ?_
  obtain ⟨ht1, h⟩ := h
  refine mx_callV (inj := mj_jI) (As := []) (st := []) hC (ct_X12_faultOf l0 M _ h) ty_X12_faultOf tw1534 ht1 rfl (Nat.le_of_ble_eq_true rfl) ⟨rfl, rfl, ⟨by decide, by decide⟩, by decide, by decide⟩ dX12_fault_1 (fun r2 M3 h => ?_)
  show mj_X g 4 [(0, vR l0)] [vI r2] M3 0 0
  exact mx_iret hC hE rfl dX12_fault_4 h

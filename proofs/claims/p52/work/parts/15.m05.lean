/-! methods 5. By program (wip/gen) out of the bytecode: vc_KEY: what must hold of a call; ct_KEY: then the machine does it. -/
theorem tw628 : (Jvm.Cond.fieldLink "LeaseLand" (231 : Nat) "LeaseLand$Act" "text" "[I") ∈ mj_tbl := mj_w 634 (by decide +kernel) (by decide +kernel)
theorem tf_X11_231 : mj_F 0 2 (.array .int) true "LeaseLand" 231 := ⟨_, tk0, by decide, rfl, rfl, rfl, tw628⟩
theorem tw645 : (Jvm.Cond.methodLink "LeaseLand" (223 : Nat) ({ cls := "LeaseLand$Acts", name := "inForce", desc := "(II)LLeaseLand$Act;" } : Jvm.MethodName)) ∈ mj_tbl := mj_w 651 (by decide +kernel) (by decide +kernel)
theorem tw653 : (Jvm.Cond.methodLink "LeaseLand" (227 : Nat) ({ cls := "LeaseLand", name := "refusalOfRight", desc := "(LLeaseLand$Holding;I)I" } : Jvm.MethodName)) ∈ mj_tbl := mj_w 659 (by decide +kernel) (by decide +kernel)
theorem tw657 : (Jvm.Cond.methodLink "LeaseLand" (236 : Nat) ({ cls := "LeaseLand$Reading", name := "isSo", desc := "([ILLeaseLand$Land;LLeaseLand$Holding;II)Z" } : Jvm.MethodName)) ∈ mj_tbl := mj_w 663 (by decide +kernel) (by decide +kernel)
theorem tw656 : (Jvm.Cond.code ({ cls := "LeaseLand", name := "refusalOfRight", desc := "(LLeaseLand$Holding;I)I" } : Jvm.MethodName) prog_1_method_23_code (3 : Nat) (Option.some Jvm.ClassFile.FieldType.int)) ∈ mj_tbl := mj_w 662 (by decide +kernel) (by decide +kernel)
theorem tw655 : (Jvm.Cond.instanceMethod ({ cls := "LeaseLand", name := "refusalOfRight", desc := "(LLeaseLand$Holding;I)I" } : Jvm.MethodName)) ∈ mj_tbl := mj_w 661 (by decide +kernel) (by decide +kernel)
theorem ty_X11_refusalOfRight : mj_YV 11 yX11_refusalOfRight cX11_refusalOfRight 3 (some .int) 2 := ⟨⟨tw656, tw1, by decide +kernel, by decide +kernel, by decide +kernel⟩, tw655, mj_w 1 (by decide +kernel) (by decide +kernel), _, rfl, rfl⟩
theorem tw648 : (Jvm.Cond.code ({ cls := "LeaseLand$Acts", name := "inForce", desc := "(II)LLeaseLand$Act;" } : Jvm.MethodName) prog_3_method_5_code (5 : Nat) (Option.some (Jvm.ClassFile.FieldType.object "LeaseLand$Act"))) ∈ mj_tbl := mj_w 654 (by decide +kernel) (by decide +kernel)
theorem tw646 : (Jvm.Cond.instanceMethod ({ cls := "LeaseLand$Acts", name := "inForce", desc := "(II)LLeaseLand$Act;" } : Jvm.MethodName)) ∈ mj_tbl := mj_w 652 (by decide +kernel) (by decide +kernel)
theorem tw647 : (Jvm.Cond.selects "LeaseLand$Acts" ({ cls := "LeaseLand$Acts", name := "inForce", desc := "(II)LLeaseLand$Act;" } : Jvm.MethodName) ({ cls := "LeaseLand$Acts", name := "inForce", desc := "(II)LLeaseLand$Act;" } : Jvm.MethodName)) ∈ mj_tbl := mj_w 653 (by decide +kernel) (by decide +kernel)
theorem ty_X1_inForce : mj_YV 1 yX1_inForce cX1_inForce 5 (some (.object "LeaseLand$Act")) 2 := ⟨⟨tw648, tw4, by decide +kernel, by decide +kernel, by decide +kernel⟩, tw646, tw647, _, rfl, rfl⟩
theorem tw660 : (Jvm.Cond.code ({ cls := "LeaseLand$Reading", name := "isSo", desc := "([ILLeaseLand$Land;LLeaseLand$Holding;II)Z" } : Jvm.MethodName) prog_10_method_2_code (8 : Nat) (Option.some Jvm.ClassFile.FieldType.boolean)) ∈ mj_tbl := mj_w 666 (by decide +kernel) (by decide +kernel)
theorem tw658 : (Jvm.Cond.instanceMethod ({ cls := "LeaseLand$Reading", name := "isSo", desc := "([ILLeaseLand$Land;LLeaseLand$Holding;II)Z" } : Jvm.MethodName)) ∈ mj_tbl := mj_w 664 (by decide +kernel) (by decide +kernel)
theorem tw659 : (Jvm.Cond.selects "LeaseLand$Reading" ({ cls := "LeaseLand$Reading", name := "isSo", desc := "([ILLeaseLand$Land;LLeaseLand$Holding;II)Z" } : Jvm.MethodName) ({ cls := "LeaseLand$Reading", name := "isSo", desc := "([ILLeaseLand$Land;LLeaseLand$Holding;II)Z" } : Jvm.MethodName)) ∈ mj_tbl := mj_w 665 (by decide +kernel) (by decide +kernel)
theorem ty_X8_isSo : mj_YV 8 yX8_isSo cX8_isSo 8 (some .boolean) 5 := ⟨⟨tw660, tw6, by decide +kernel, by decide +kernel, by decide +kernel⟩, tw658, tw659, _, rfl, rfl⟩
def rm_X11_right : Room := { frames := 10, cells := 0, slots := 0, locals := 297 }
theorem dX11_right_0 : decode cX11_right 0 = .ok (.aload_n 0, 1) := by decide +kernel
theorem dX11_right_1 : decode cX11_right 1 = .ok (.getfield 10, 3) := by decide +kernel
theorem dX11_right_4 : decode cX11_right 4 = .ok (.iload_n 1, 1) := by decide +kernel
theorem dX11_right_5 : decode cX11_right 5 = .ok (.invokevirtual 93, 3) := by decide +kernel
theorem dX11_right_8 : decode cX11_right 8 = .ok (.astore_n 3, 1) := by decide +kernel
theorem dX11_right_9 : decode cX11_right 9 = .ok (.aload_n 0, 1) := by decide +kernel
theorem dX11_right_10 : decode cX11_right 10 = .ok (.getfield 19, 3) := by decide +kernel
theorem dX11_right_13 : decode cX11_right 13 = .ok (.iload_n 2, 1) := by decide +kernel
theorem dX11_right_14 : decode cX11_right 14 = .ok (.aload_n 0, 1) := by decide +kernel
theorem dX11_right_15 : decode cX11_right 15 = .ok (.getfield 10, 3) := by decide +kernel
theorem dX11_right_18 : decode cX11_right 18 = .ok (.getfield 66, 3) := by decide +kernel
theorem dX11_right_21 : decode cX11_right 21 = .ok (.invokevirtual 223, 3) := by decide +kernel
theorem dX11_right_24 : decode cX11_right 24 = .ok (.astore 4, 2) := by decide +kernel
theorem dX11_right_26 : decode cX11_right 26 = .ok (.aload_n 3, 1) := by decide +kernel
theorem dX11_right_27 : decode cX11_right 27 = .ok (.ifnull 19, 3) := by decide +kernel
theorem dX11_right_30 : decode cX11_right 30 = .ok (.aload 4, 2) := by decide +kernel
theorem dX11_right_32 : decode cX11_right 32 = .ok (.ifnull 14, 3) := by decide +kernel
theorem dX11_right_35 : decode cX11_right 35 = .ok (.aload_n 0, 1) := by decide +kernel
theorem dX11_right_36 : decode cX11_right 36 = .ok (.getfield 10, 3) := by decide +kernel
theorem dX11_right_39 : decode cX11_right 39 = .ok (.aload_n 3, 1) := by decide +kernel
theorem dX11_right_40 : decode cX11_right 40 = .ok (.invokevirtual 111, 3) := by decide +kernel
theorem dX11_right_43 : decode cX11_right 43 = .ok (.ifCond .ne 10, 3) := by decide +kernel
theorem dX11_right_46 : decode cX11_right 46 = .ok (.aload_n 0, 1) := by decide +kernel
theorem dX11_right_47 : decode cX11_right 47 = .ok (.aload_n 3, 1) := by decide +kernel
theorem dX11_right_48 : decode cX11_right 48 = .ok (.iload_n 2, 1) := by decide +kernel
theorem dX11_right_49 : decode cX11_right 49 = .ok (.invokevirtual 227, 3) := by decide +kernel
theorem dX11_right_52 : decode cX11_right 52 = .ok (.ireturn, 1) := by decide +kernel
theorem dX11_right_53 : decode cX11_right 53 = .ok (.aload_n 0, 1) := by decide +kernel
theorem dX11_right_54 : decode cX11_right 54 = .ok (.getfield 26, 3) := by decide +kernel
theorem dX11_right_57 : decode cX11_right 57 = .ok (.aload 4, 2) := by decide +kernel
theorem dX11_right_59 : decode cX11_right 59 = .ok (.getfield 231, 3) := by decide +kernel
theorem dX11_right_62 : decode cX11_right 62 = .ok (.aload_n 0, 1) := by decide +kernel
theorem dX11_right_63 : decode cX11_right 63 = .ok (.getfield 10, 3) := by decide +kernel
theorem dX11_right_66 : decode cX11_right 66 = .ok (.aload_n 3, 1) := by decide +kernel
theorem dX11_right_67 : decode cX11_right 67 = .ok (.aload_n 0, 1) := by decide +kernel
theorem dX11_right_68 : decode cX11_right 68 = .ok (.getfield 10, 3) := by decide +kernel
theorem dX11_right_71 : decode cX11_right 71 = .ok (.getfield 66, 3) := by decide +kernel
theorem dX11_right_74 : decode cX11_right 74 = .ok (.bipush (-6), 2) := by decide +kernel
theorem dX11_right_76 : decode cX11_right 76 = .ok (.invokevirtual 236, 3) := by decide +kernel
theorem dX11_right_79 : decode cX11_right 79 = .ok (.ifCond .eq 7, 3) := by decide +kernel
theorem dX11_right_82 : decode cX11_right 82 = .ok (.iconst 1, 1) := by decide +kernel
theorem dX11_right_83 : decode cX11_right 83 = .ok (.goto 4, 3) := by decide +kernel
theorem dX11_right_86 : decode cX11_right 86 = .ok (.iconst 0, 1) := by decide +kernel
theorem dX11_right_87 : decode cX11_right 87 = .ok (.ireturn, 1) := by decide +kernel
def vb_X11_right_46 (post : Int32 → mj_M → Prop) (l0 : Nat) (l2 : Int32) (l3 : Nat) (M : mj_M) : Prop := mj_tag M l0 = 12 ∧ vc_X11_refusalOfRight l0 l3 l2 M (fun r2 M3 => post r2 M3)
def vc_X11_right (l0 : Nat) (l1 : Int32) (l2 : Int32) (M : mj_M) (post : Int32 → mj_M → Prop) : Prop := mj_tag M l0 = 12 ∧ mj_tag M (mj_r M l0 0) = 5 ∧ vc_X4_find (mj_r M l0 0) l1 M (fun r6 M7 => mj_tag M7 l0 = 12 ∧ mj_tag M7 (mj_r M7 l0 0) = 5 ∧ mj_tag M7 (mj_r M7 l0 1) = 2 ∧ vc_X1_inForce (mj_r M7 l0 1) l2 (mj_i M7 (mj_r M7 l0 0) 0) M7 (fun r11 M12 => if r6 = 0 then (vb_X11_right_46 post l0 l2 r6 M12) else (if r11 = 0 then (vb_X11_right_46 post l0 l2 r6 M12) else (mj_tag M12 l0 = 12 ∧ mj_tag M12 (mj_r M12 l0 0) = 5 ∧ vc_X4_isInForce (mj_r M12 l0 0) r6 M12 (fun r17 M18 => if r17 = true then (mj_tag M18 l0 = 12 ∧ mj_tag M18 r11 = 1 ∧ mj_tag M18 (mj_r M18 l0 0) = 5 ∧ mj_tag M18 (mj_r M18 l0 2) = 9 ∧ vc_X8_isSo (mj_r M18 l0 2) (mj_r M18 r11 2) (mj_r M18 l0 0) r6 (mj_i M18 (mj_r M18 l0 0) 0) ((-6)) M18 (fun r24 M25 => if r24 = true then (post 1 M25) else (post 0 M25))) else (vb_X11_right_46 post l0 l2 r6 M18))))))
set_option maxHeartbeats 4000000 in
set_option maxRecDepth 100000 in
theorem xb_X11_right_46 {g : mj_G} {post : Int32 → mj_M → Prop} (hC : mj_C g yX11_right cX11_right 5 (some .int) rm_X11_right) (hE : mj_E g mj_jI post 0 0) (l0 : Nat) (l2 : Int32) (l3 : Nat) (M : mj_M) (h : vb_X11_right_46 post l0 l2 l3 M) : mj_X g 46 [(0, vR l0), (2, vI l2), (3, vR l3)] [] M 0 0 := by
  simp only [vb_X11_right_46] at h
  refine mx_aload_n (j := 0) hC dX11_right_46 rfl rfl ?_
  refine mx_aload_n (j := 2) hC dX11_right_47 rfl rfl ?_
  refine mx_iload_n (j := 1) hC dX11_right_48 rfl rfl ?_
  obtain ⟨ht1, h⟩ := h
  refine mx_callV (inj := mj_jI) (As := [vR l3, vI l2]) (st := []) hC (ct_X11_refusalOfRight l0 l3 l2 M _ h) ty_X11_refusalOfRight tw653 ht1 rfl (Nat.le_of_ble_eq_true rfl) ⟨rfl, rfl, ⟨by decide, by decide⟩, by decide, by decide⟩ dX11_right_49 (fun r2 M3 h => ?_)
  show mj_X g 52 [(0, vR l0), (2, vI l2), (3, vR l3)] [vI r2] M3 0 0
  exact mx_iret hC hE rfl dX11_right_52 h
set_option maxHeartbeats 4000000 in
set_option maxRecDepth 100000 in
theorem ct_X11_right {l : Launch} {base : Nat} {D : va_G} {A : mj_AT} (l0 : Nat) (l1 : Int32) (l2 : Int32) (M : mj_M) (post : Int32 → mj_M → Prop) (h : vc_X11_right l0 l1 l2 M post) : mj_Met l base D A mj_jI yX11_right cX11_right 5 (some .int) rm_X11_right 0 0 [vR l0, vI l1, vI l2] M post := by
  refine mj_entry (by decide +kernel) (Nat.le_of_ble_eq_true rfl) (fun g hC hE h1 h2 h3 h4 => ?_)
  show mj_X g 0 [(0, vR l0), (1, vI l1), (2, vI l2)] [] M 0 0
  simp only [vc_X11_right] at h
  refine mx_aload_n (j := 0) hC dX11_right_0 rfl rfl ?_
  obtain ⟨ht4, h⟩ := h
  refine mx_get (v := vR (mj_r M l0 0)) hC tf_X11_10 ht4 rfl dX11_right_1 ?_
  refine mx_iload_n (j := 1) hC dX11_right_4 rfl rfl ?_
  obtain ⟨ht5, h⟩ := h
  refine mx_callV (inj := mj_jR) (As := [vI l1]) (st := []) hC (ct_X4_find (mj_r M l0 0) l1 M _ h) ty_X4_find tw377 ht5 rfl (Nat.le_of_ble_eq_true rfl) ⟨rfl, rfl, ⟨by decide, by decide⟩, by decide, by decide⟩ dX11_right_5 (fun r6 M7 h => ?_)
  show mj_X g 8 [(0, vR l0), (1, vI l1), (2, vI l2)] [vR r6] M7 0 0
  refine mx_astore_n (L' := [(3, vR r6), (0, vR l0), (1, vI l1), (2, vI l2)]) hC dX11_right_8 rfl (by decide) rfl ?_
  refine mx_aload_n (j := 1) hC dX11_right_9 rfl rfl ?_
  obtain ⟨ht8, h⟩ := h
  refine mx_get (v := vR (mj_r M7 l0 1)) hC tf_X11_19 ht8 rfl dX11_right_10 ?_
  refine mx_iload_n (j := 3) hC dX11_right_13 rfl rfl ?_
  refine mx_aload_n (j := 1) hC dX11_right_14 rfl rfl ?_
  refine mx_get (v := vR (mj_r M7 l0 0)) hC tf_X11_10 ht8 rfl dX11_right_15 ?_
  obtain ⟨ht9, h⟩ := h
  refine mx_get (v := vI (mj_i M7 (mj_r M7 l0 0) 0)) hC tf_X11_66 ht9 rfl dX11_right_18 ?_
  obtain ⟨ht10, h⟩ := h
  refine mx_callV (inj := mj_jR) (As := [vI l2, vI (mj_i M7 (mj_r M7 l0 0) 0)]) (st := []) hC (ct_X1_inForce (mj_r M7 l0 1) l2 (mj_i M7 (mj_r M7 l0 0) 0) M7 _ h) ty_X1_inForce tw645 ht10 rfl (Nat.le_of_ble_eq_true rfl) ⟨rfl, rfl, ⟨by decide, by decide⟩, by decide, by decide⟩ dX11_right_21 (fun r11 M12 h => ?_)
  show mj_X g 24 [(3, vR r6), (0, vR l0), (1, vI l1), (2, vI l2)] [vR r11] M12 0 0
  refine mx_astore (L' := [(4, vR r11), (3, vR r6), (0, vR l0), (1, vI l1), (2, vI l2)]) hC dX11_right_24 (by decide) rfl ?_
  refine mx_aload_n (j := 1) hC dX11_right_26 rfl rfl ?_
  refine mx_ifnull (tgt := 46) hC dX11_right_27 (by decide) (fun hc13 => ?_) (fun hc13 => ?_)
  · replace h := mj_yy hc13 h
    refine mx_sub (L' := [(0, vR l0), (2, vI l2), (3, vR r6)]) [2, 4, 1] rfl ?_
    exact show mj_X g 46 [(0, vR l0), (2, vI l2), (3, vR r6)] [] M12 0 0 from (xb_X11_right_46 hC hE l0 l2 r6 M12 h)
  · replace h := mj_nn hc13 h
    refine mx_aload (j := 0) hC dX11_right_30 rfl ?_
    refine mx_ifnull (tgt := 46) hC dX11_right_32 (by decide) (fun hc14 => ?_) (fun hc14 => ?_)
    · replace h := mj_yy hc14 h
      refine mx_sub (L' := [(0, vR l0), (2, vI l2), (3, vR r6)]) [2, 4, 1] rfl ?_
      exact show mj_X g 46 [(0, vR l0), (2, vI l2), (3, vR r6)] [] M12 0 0 from (xb_X11_right_46 hC hE l0 l2 r6 M12 h)
    · replace h := mj_nn hc14 h
      refine mx_aload_n (j := 2) hC dX11_right_35 rfl rfl ?_
      obtain ⟨ht15, h⟩ := h
      refine mx_get (v := vR (mj_r M12 l0 0)) hC tf_X11_10 ht15 rfl dX11_right_36 ?_
      refine mx_aload_n (j := 1) hC dX11_right_39 rfl rfl ?_
      obtain ⟨ht16, h⟩ := h
      refine mx_callV (inj := mj_jB) (As := [vR r6]) (st := []) hC (ct_X4_isInForce (mj_r M12 l0 0) r6 M12 _ h) ty_X4_isInForce tw649 ht16 rfl (Nat.le_of_ble_eq_true rfl) ⟨rfl, rfl, ⟨by decide, by decide⟩, by decide, by decide⟩ dX11_right_40 (fun r17 M18 h => ?_)
      show mj_X g 43 [(4, vR r11), (3, vR r6), (0, vR l0), (1, vI l1), (2, vI l2)] [vI (mj_b r17)] M18 0 0
      refine mx_ifneB (tgt := 53) hC dX11_right_43 (by decide) (fun hc19 => ?_) (fun hc19 => ?_)
      · replace h := mj_yy hc19 h
        refine mx_aload_n (j := 2) hC dX11_right_53 rfl rfl ?_
        obtain ⟨ht20, h⟩ := h
        refine mx_get (v := vR (mj_r M18 l0 2)) hC tf_X11_26 ht20 rfl dX11_right_54 ?_
        refine mx_aload (j := 0) hC dX11_right_57 rfl ?_
        obtain ⟨ht21, h⟩ := h
        refine mx_get (v := vR (mj_r M18 r11 2)) hC tf_X11_231 ht21 rfl dX11_right_59 ?_
        refine mx_aload_n (j := 2) hC dX11_right_62 rfl rfl ?_
        refine mx_get (v := vR (mj_r M18 l0 0)) hC tf_X11_10 ht20 rfl dX11_right_63 ?_
        refine mx_aload_n (j := 1) hC dX11_right_66 rfl rfl ?_
        refine mx_aload_n (j := 2) hC dX11_right_67 rfl rfl ?_
        refine mx_get (v := vR (mj_r M18 l0 0)) hC tf_X11_10 ht20 rfl dX11_right_68 ?_
        obtain ⟨ht22, h⟩ := h
        refine mx_get (v := vI (mj_i M18 (mj_r M18 l0 0) 0)) hC tf_X11_66 ht22 rfl dX11_right_71 ?_
        refine mx_bipush (v := (-6)) hC dX11_right_74 (by decide) ?_
        obtain ⟨ht23, h⟩ := h
        refine mx_callV (inj := mj_jB) (As := [vR (mj_r M18 r11 2), vR (mj_r M18 l0 0), vR r6, vI (mj_i M18 (mj_r M18 l0 0) 0), vI ((-6))]) (st := []) hC (ct_X8_isSo (mj_r M18 l0 2) (mj_r M18 r11 2) (mj_r M18 l0 0) r6 (mj_i M18 (mj_r M18 l0 0) 0) ((-6)) M18 _ h) ty_X8_isSo tw657 ht23 rfl (Nat.le_of_ble_eq_true rfl) ⟨rfl, rfl, ⟨by decide, by decide⟩, by decide, by decide⟩ dX11_right_76 (fun r24 M25 h => ?_)
        show mj_X g 79 [(4, vR r11), (3, vR r6), (0, vR l0), (1, vI l1), (2, vI l2)] [vI (mj_b r24)] M25 0 0
        refine mx_ifeqB (tgt := 86) hC dX11_right_79 (by decide) (fun hc26 => ?_) (fun hc26 => ?_)
        · replace h := mj_nn hc26 h
          refine mx_iconst (v := 0) hC dX11_right_86 (by decide) ?_
          exact mx_iret hC hE rfl dX11_right_87 h
        · replace h := mj_yy hc26 h
          refine mx_iconst (v := 1) hC dX11_right_82 (by decide) ?_
          refine mx_goto (tgt := 87) hC dX11_right_83 (by decide) ?_
          exact mx_iret hC hE rfl dX11_right_87 h
      · replace h := mj_nn hc19 h
        refine mx_sub (L' := [(0, vR l0), (2, vI l2), (3, vR r6)]) [2, 4, 1] rfl ?_
        exact show mj_X g 46 [(0, vR l0), (2, vI l2), (3, vR r6)] [] M18 0 0 from (xb_X11_right_46 hC hE l0 l2 r6 M18 h)
theorem tw723 : (Jvm.Cond.methodLink "LeaseLand" (243 : Nat) ({ cls := "LeaseLand$Holding", name := "isInForce", desc := "(I)Z" } : Jvm.MethodName)) ∈ mj_tbl := mj_w 729 (by decide +kernel) (by decide +kernel)
def rm_X11_hasRight : Room := { frames := 10, cells := 0, slots := 0, locals := 297 }
theorem dX11_hasRight_0 : decode cX11_hasRight 0 = .ok (.aload_n 0, 1) := by decide +kernel
theorem dX11_hasRight_1 : decode cX11_hasRight 1 = .ok (.getfield 19, 3) := by decide +kernel
theorem dX11_hasRight_4 : decode cX11_hasRight 4 = .ok (.iload_n 2, 1) := by decide +kernel
theorem dX11_hasRight_5 : decode cX11_hasRight 5 = .ok (.iload_n 3, 1) := by decide +kernel
theorem dX11_hasRight_6 : decode cX11_hasRight 6 = .ok (.invokevirtual 223, 3) := by decide +kernel
theorem dX11_hasRight_9 : decode cX11_hasRight 9 = .ok (.astore 4, 2) := by decide +kernel
theorem dX11_hasRight_11 : decode cX11_hasRight 11 = .ok (.aload 4, 2) := by decide +kernel
theorem dX11_hasRight_13 : decode cX11_hasRight 13 = .ok (.ifnull 38, 3) := by decide +kernel
theorem dX11_hasRight_16 : decode cX11_hasRight 16 = .ok (.aload_n 1, 1) := by decide +kernel
theorem dX11_hasRight_17 : decode cX11_hasRight 17 = .ok (.iload_n 3, 1) := by decide +kernel
theorem dX11_hasRight_18 : decode cX11_hasRight 18 = .ok (.invokevirtual 243, 3) := by decide +kernel
theorem dX11_hasRight_21 : decode cX11_hasRight 21 = .ok (.ifCond .eq 30, 3) := by decide +kernel
theorem dX11_hasRight_24 : decode cX11_hasRight 24 = .ok (.aload_n 0, 1) := by decide +kernel
theorem dX11_hasRight_25 : decode cX11_hasRight 25 = .ok (.getfield 26, 3) := by decide +kernel
theorem dX11_hasRight_28 : decode cX11_hasRight 28 = .ok (.aload 4, 2) := by decide +kernel
theorem dX11_hasRight_30 : decode cX11_hasRight 30 = .ok (.getfield 231, 3) := by decide +kernel
theorem dX11_hasRight_33 : decode cX11_hasRight 33 = .ok (.aload_n 0, 1) := by decide +kernel
theorem dX11_hasRight_34 : decode cX11_hasRight 34 = .ok (.getfield 10, 3) := by decide +kernel
theorem dX11_hasRight_37 : decode cX11_hasRight 37 = .ok (.aload_n 1, 1) := by decide +kernel
theorem dX11_hasRight_38 : decode cX11_hasRight 38 = .ok (.iload_n 3, 1) := by decide +kernel
theorem dX11_hasRight_39 : decode cX11_hasRight 39 = .ok (.bipush (-6), 2) := by decide +kernel
theorem dX11_hasRight_41 : decode cX11_hasRight 41 = .ok (.invokevirtual 236, 3) := by decide +kernel
theorem dX11_hasRight_44 : decode cX11_hasRight 44 = .ok (.ifCond .eq 7, 3) := by decide +kernel
theorem dX11_hasRight_47 : decode cX11_hasRight 47 = .ok (.iconst 1, 1) := by decide +kernel
theorem dX11_hasRight_48 : decode cX11_hasRight 48 = .ok (.goto 4, 3) := by decide +kernel
theorem dX11_hasRight_51 : decode cX11_hasRight 51 = .ok (.iconst 0, 1) := by decide +kernel
theorem dX11_hasRight_52 : decode cX11_hasRight 52 = .ok (.ireturn, 1) := by decide +kernel
def vc_X11_hasRight (l0 : Nat) (l1 : Nat) (l2 : Int32) (l3 : Int32) (M : mj_M) (post : Bool → mj_M → Prop) : Prop := mj_tag M l0 = 12 ∧ mj_tag M (mj_r M l0 1) = 2 ∧ vc_X1_inForce (mj_r M l0 1) l2 l3 M (fun r3 M4 => if r3 = 0 then (post false M4) else (mj_tag M4 l1 = 4 ∧ vc_X3_isInForce l1 l3 M4 (fun r7 M8 => if r7 = true then (mj_tag M8 l0 = 12 ∧ mj_tag M8 r3 = 1 ∧ mj_tag M8 (mj_r M8 l0 2) = 9 ∧ vc_X8_isSo (mj_r M8 l0 2) (mj_r M8 r3 2) (mj_r M8 l0 0) l1 l3 ((-6)) M8 (fun r13 M14 => if r13 = true then (post true M14) else (post false M14))) else (post false M8))))
set_option maxHeartbeats 4000000 in
set_option maxRecDepth 100000 in
theorem ct_X11_hasRight {l : Launch} {base : Nat} {D : va_G} {A : mj_AT} (l0 : Nat) (l1 : Nat) (l2 : Int32) (l3 : Int32) (M : mj_M) (post : Bool → mj_M → Prop) (h : vc_X11_hasRight l0 l1 l2 l3 M post) : mj_Met l base D A mj_jB yX11_hasRight cX11_hasRight 5 (some .boolean) rm_X11_hasRight 0 0 [vR l0, vR l1, vI l2, vI l3] M post := by
  refine mj_entry (by decide +kernel) (Nat.le_of_ble_eq_true rfl) (fun g hC hE h1 h2 h3 h4 => ?_)
  show mj_X g 0 [(0, vR l0), (1, vR l1), (2, vI l2), (3, vI l3)] [] M 0 0
  simp only [vc_X11_hasRight] at h
  refine mx_aload_n (j := 0) hC dX11_hasRight_0 rfl rfl ?_
  obtain ⟨ht1, h⟩ := h
  refine mx_get (v := vR (mj_r M l0 1)) hC tf_X11_19 ht1 rfl dX11_hasRight_1 ?_
  refine mx_iload_n (j := 2) hC dX11_hasRight_4 rfl rfl ?_
  refine mx_iload_n (j := 3) hC dX11_hasRight_5 rfl rfl ?_
  obtain ⟨ht2, h⟩ := h
  refine mx_callV (inj := mj_jR) (As := [vI l2, vI l3]) (st := []) hC (ct_X1_inForce (mj_r M l0 1) l2 l3 M _ h) ty_X1_inForce tw645 ht2 rfl (Nat.le_of_ble_eq_true rfl) ⟨rfl, rfl, ⟨by decide, by decide⟩, by decide, by decide⟩ dX11_hasRight_6 (fun r3 M4 h => ?_)
  show mj_X g 9 [(0, vR l0), (1, vR l1), (2, vI l2), (3, vI l3)] [vR r3] M4 0 0
  refine mx_astore (L' := [(4, vR r3), (0, vR l0), (1, vR l1), (2, vI l2), (3, vI l3)]) hC dX11_hasRight_9 (by decide) rfl ?_
  refine mx_aload (j := 0) hC dX11_hasRight_11 rfl ?_
  refine mx_ifnull (tgt := 51) hC dX11_hasRight_13 (by decide) (fun hc5 => ?_) (fun hc5 => ?_)
  · replace h := mj_yy hc5 h
    refine mx_iconst (v := 0) hC dX11_hasRight_51 (by decide) ?_
    exact mx_zret (b := false) hC hE rfl dX11_hasRight_52 h
  · replace h := mj_nn hc5 h
    refine mx_aload_n (j := 2) hC dX11_hasRight_16 rfl rfl ?_
    refine mx_iload_n (j := 4) hC dX11_hasRight_17 rfl rfl ?_
    obtain ⟨ht6, h⟩ := h
    refine mx_callV (inj := mj_jB) (As := [vI l3]) (st := []) hC (ct_X3_isInForce l1 l3 M4 _ h) ty_X3_isInForce tw723 ht6 rfl (Nat.le_of_ble_eq_true rfl) ⟨rfl, rfl, ⟨by decide, by decide⟩, by decide, by decide⟩ dX11_hasRight_18 (fun r7 M8 h => ?_)
    show mj_X g 21 [(4, vR r3), (0, vR l0), (1, vR l1), (2, vI l2), (3, vI l3)] [vI (mj_b r7)] M8 0 0
    refine mx_ifeqB (tgt := 51) hC dX11_hasRight_21 (by decide) (fun hc9 => ?_) (fun hc9 => ?_)
    · replace h := mj_nn hc9 h
      refine mx_iconst (v := 0) hC dX11_hasRight_51 (by decide) ?_
      exact mx_zret (b := false) hC hE rfl dX11_hasRight_52 h
    · replace h := mj_yy hc9 h
      refine mx_aload_n (j := 1) hC dX11_hasRight_24 rfl rfl ?_
      obtain ⟨ht10, h⟩ := h
      refine mx_get (v := vR (mj_r M8 l0 2)) hC tf_X11_26 ht10 rfl dX11_hasRight_25 ?_
      refine mx_aload (j := 0) hC dX11_hasRight_28 rfl ?_
      obtain ⟨ht11, h⟩ := h
      refine mx_get (v := vR (mj_r M8 r3 2)) hC tf_X11_231 ht11 rfl dX11_hasRight_30 ?_
      refine mx_aload_n (j := 1) hC dX11_hasRight_33 rfl rfl ?_
      refine mx_get (v := vR (mj_r M8 l0 0)) hC tf_X11_10 ht10 rfl dX11_hasRight_34 ?_
      refine mx_aload_n (j := 2) hC dX11_hasRight_37 rfl rfl ?_
      refine mx_iload_n (j := 4) hC dX11_hasRight_38 rfl rfl ?_
      refine mx_bipush (v := (-6)) hC dX11_hasRight_39 (by decide) ?_
      obtain ⟨ht12, h⟩ := h
      refine mx_callV (inj := mj_jB) (As := [vR (mj_r M8 r3 2), vR (mj_r M8 l0 0), vR l1, vI l3, vI ((-6))]) (st := []) hC (ct_X8_isSo (mj_r M8 l0 2) (mj_r M8 r3 2) (mj_r M8 l0 0) l1 l3 ((-6)) M8 _ h) ty_X8_isSo tw657 ht12 rfl (Nat.le_of_ble_eq_true rfl) ⟨rfl, rfl, ⟨by decide, by decide⟩, by decide, by decide⟩ dX11_hasRight_41 (fun r13 M14 h => ?_)
      show mj_X g 44 [(4, vR r3), (0, vR l0), (1, vR l1), (2, vI l2), (3, vI l3)] [vI (mj_b r13)] M14 0 0
      refine mx_ifeqB (tgt := 51) hC dX11_hasRight_44 (by decide) (fun hc15 => ?_) (fun hc15 => ?_)
      · replace h := mj_nn hc15 h
        refine mx_iconst (v := 0) hC dX11_hasRight_51 (by decide) ?_
        exact mx_zret (b := false) hC hE rfl dX11_hasRight_52 h
      · replace h := mj_yy hc15 h
        refine mx_iconst (v := 1) hC dX11_hasRight_47 (by decide) ?_
        refine mx_goto (tgt := 52) hC dX11_hasRight_48 (by decide) ?_
        exact mx_zret (b := true) hC hE rfl dX11_hasRight_52 h
theorem tw718 : (Jvm.Cond.methodLink "LeaseLand" (251 : Nat) ({ cls := "java/lang/Math", name := "min", desc := "(II)I" } : Jvm.MethodName)) ∈ mj_tbl := mj_w 724 (by decide +kernel) (by decide +kernel)
theorem tw719 : (Jvm.Cond.methodLink "LeaseLand" (256 : Nat) ({ cls := "LeaseLand", name := "hasRight", desc := "(LLeaseLand$Holding;II)Z" } : Jvm.MethodName)) ∈ mj_tbl := mj_w 725 (by decide +kernel) (by decide +kernel)
theorem tw722 : (Jvm.Cond.code ({ cls := "LeaseLand", name := "hasRight", desc := "(LLeaseLand$Holding;II)Z" } : Jvm.MethodName) prog_1_method_24_code (5 : Nat) (Option.some Jvm.ClassFile.FieldType.boolean)) ∈ mj_tbl := mj_w 728 (by decide +kernel) (by decide +kernel)
theorem tw721 : (Jvm.Cond.instanceMethod ({ cls := "LeaseLand", name := "hasRight", desc := "(LLeaseLand$Holding;II)Z" } : Jvm.MethodName)) ∈ mj_tbl := mj_w 727 (by decide +kernel) (by decide +kernel)
theorem ty_X11_hasRight : mj_YV 11 yX11_hasRight cX11_hasRight 5 (some .boolean) 3 := ⟨⟨tw722, tw1, by decide +kernel, by decide +kernel, by decide +kernel⟩, tw721, mj_w 2 (by decide +kernel) (by decide +kernel), _, rfl, rfl⟩
def rm_X11_first : Room := { frames := 11, cells := 0, slots := 0, locals := 321 }
theorem dX11_first_0 : decode cX11_first 0 = .ok (.aload_n 0, 1) := by decide +kernel
theorem dX11_first_1 : decode cX11_first 1 = .ok (.getfield 10, 3) := by decide +kernel
theorem dX11_first_4 : decode cX11_first 4 = .ok (.iload_n 1, 1) := by decide +kernel
theorem dX11_first_5 : decode cX11_first 5 = .ok (.invokevirtual 93, 3) := by decide +kernel
theorem dX11_first_8 : decode cX11_first 8 = .ok (.astore_n 3, 1) := by decide +kernel
theorem dX11_first_9 : decode cX11_first 9 = .ok (.aload_n 3, 1) := by decide +kernel
theorem dX11_first_10 : decode cX11_first 10 = .ok (.ifnull 10, 3) := by decide +kernel
theorem dX11_first_13 : decode cX11_first 13 = .ok (.iload_n 2, 1) := by decide +kernel
theorem dX11_first_14 : decode cX11_first 14 = .ok (.invokestatic 213, 3) := by decide +kernel
theorem dX11_first_17 : decode cX11_first 17 = .ok (.ifCond .ne 5, 3) := by decide +kernel
theorem dX11_first_20 : decode cX11_first 20 = .ok (.iconst (-1), 1) := by decide +kernel
theorem dX11_first_21 : decode cX11_first 21 = .ok (.ireturn, 1) := by decide +kernel
theorem dX11_first_22 : decode cX11_first 22 = .ok (.ldc 85, 2) := by decide +kernel
theorem dX11_first_24 : decode cX11_first 24 = .ok (.aload_n 0, 1) := by decide +kernel
theorem dX11_first_25 : decode cX11_first 25 = .ok (.getfield 10, 3) := by decide +kernel
theorem dX11_first_28 : decode cX11_first 28 = .ok (.getfield 66, 3) := by decide +kernel
theorem dX11_first_31 : decode cX11_first 31 = .ok (.sipush 999, 3) := by decide +kernel
theorem dX11_first_34 : decode cX11_first 34 = .ok (.iadd, 1) := by decide +kernel
theorem dX11_first_35 : decode cX11_first 35 = .ok (.invokestatic 251, 3) := by decide +kernel
theorem dX11_first_38 : decode cX11_first 38 = .ok (.istore 4, 2) := by decide +kernel
theorem dX11_first_40 : decode cX11_first 40 = .ok (.aload_n 0, 1) := by decide +kernel
theorem dX11_first_41 : decode cX11_first 41 = .ok (.getfield 10, 3) := by decide +kernel
theorem dX11_first_44 : decode cX11_first 44 = .ok (.getfield 66, 3) := by decide +kernel
theorem dX11_first_47 : decode cX11_first 47 = .ok (.istore 5, 2) := by decide +kernel
theorem dX11_first_49 : decode cX11_first 49 = .ok (.iload 5, 2) := by decide +kernel
theorem dX11_first_51 : decode cX11_first 51 = .ok (.iload 4, 2) := by decide +kernel
theorem dX11_first_53 : decode cX11_first 53 = .ok (.if_icmp .gt 23, 3) := by decide +kernel
theorem dX11_first_56 : decode cX11_first 56 = .ok (.aload_n 0, 1) := by decide +kernel
theorem dX11_first_57 : decode cX11_first 57 = .ok (.aload_n 3, 1) := by decide +kernel
theorem dX11_first_58 : decode cX11_first 58 = .ok (.iload_n 2, 1) := by decide +kernel
theorem dX11_first_59 : decode cX11_first 59 = .ok (.iload 5, 2) := by decide +kernel
theorem dX11_first_61 : decode cX11_first 61 = .ok (.invokevirtual 256, 3) := by decide +kernel
theorem dX11_first_64 : decode cX11_first 64 = .ok (.ifCond .eq 6, 3) := by decide +kernel
theorem dX11_first_67 : decode cX11_first 67 = .ok (.iload 5, 2) := by decide +kernel
theorem dX11_first_69 : decode cX11_first 69 = .ok (.ireturn, 1) := by decide +kernel
theorem dX11_first_70 : decode cX11_first 70 = .ok (.iinc 5 1, 3) := by decide +kernel
theorem dX11_first_73 : decode cX11_first 73 = .ok (.goto (-24), 3) := by decide +kernel
theorem dX11_first_76 : decode cX11_first 76 = .ok (.bipush (-6), 2) := by decide +kernel
theorem dX11_first_78 : decode cX11_first 78 = .ok (.ireturn, 1) := by decide +kernel
def vb_X11_first_49 (post : Int32 → mj_M → Prop) : Nat → Nat → Int32 → Nat → Int32 → Int32 → mj_M → Prop
  | 0 => fun _ _ _ _ _ _ => False
  | f + 1 => fun l0 l2 l3 l4 l5 M => if l4 < l5 then (post ((-6)) M) else (mj_tag M l0 = 12 ∧ vc_X11_hasRight l0 l3 l2 l5 M (fun r3 M4 => if r3 = true then (post l5 M4) else (vb_X11_first_49 post f l0 l2 l3 l4 (l5 + 1) M4)))
def vc_X11_first (l0 : Nat) (l1 : Int32) (l2 : Int32) (M : mj_M) (post : Int32 → mj_M → Prop) : Prop := mj_tag M l0 = 12 ∧ mj_tag M (mj_r M l0 0) = 5 ∧ vc_X4_find (mj_r M l0 0) l1 M (fun r8 M9 => if r8 = 0 then (post ((-1)) M9) else (vc_X11_isKind l2 M9 (fun r11 M12 => if r11 = true then (mj_tag M12 l0 = 12 ∧ mj_tag M12 (mj_r M12 l0 0) = 5 ∧ vc_J9_min_7cf53 73000 ((mj_i M12 (mj_r M12 l0 0) 0) + 999) M12 (fun r16 M17 => mj_tag M17 l0 = 12 ∧ mj_tag M17 (mj_r M17 l0 0) = 5 ∧ vb_X11_first_49 post 60 l0 l2 r8 r16 (mj_i M17 (mj_r M17 l0 0) 0) M17)) else (post ((-1)) M12))))
set_option maxHeartbeats 4000000 in
set_option maxRecDepth 100000 in
theorem xb_X11_first_49 {g : mj_G} {post : Int32 → mj_M → Prop} (hC : mj_C g yX11_first cX11_first 6 (some .int) rm_X11_first) (hE : mj_E g mj_jI post 0 0) : ∀ (f : Nat) (l0 : Nat) (l2 : Int32) (l3 : Nat) (l4 : Int32) (l5 : Int32) (M : mj_M), vb_X11_first_49 post f l0 l2 l3 l4 l5 M → mj_X g 49 [(0, vR l0), (2, vI l2), (3, vR l3), (4, vI l4), (5, vI l5)] [] M 0 0 := by
  intro f
  induction f with
  | zero => exact fun _ _ _ _ _ _ h => absurd h (fun z => z)
  | succ f ih =>
    intro l0 l2 l3 l4 l5 M h
    simp only [vb_X11_first_49] at h
    refine mx_iload (j := 4) hC dX11_first_49 rfl ?_
    refine mx_iload (j := 3) hC dX11_first_51 rfl ?_
    refine mx_icmpgt (tgt := 76) hC dX11_first_53 (by decide) (fun hc1 => ?_) (fun hc1 => ?_)
    · replace h := mj_yy hc1 h
      refine mx_bipush (v := (-6)) hC dX11_first_76 (by decide) ?_
      exact mx_iret hC hE rfl dX11_first_78 h
    · replace h := mj_nn hc1 h
      refine mx_aload_n (j := 0) hC dX11_first_56 rfl rfl ?_
      refine mx_aload_n (j := 2) hC dX11_first_57 rfl rfl ?_
      refine mx_iload_n (j := 1) hC dX11_first_58 rfl rfl ?_
      refine mx_iload (j := 4) hC dX11_first_59 rfl ?_
      obtain ⟨ht2, h⟩ := h
      refine mx_callV (inj := mj_jB) (As := [vR l3, vI l2, vI l5]) (st := []) hC (ct_X11_hasRight l0 l3 l2 l5 M _ h) ty_X11_hasRight tw719 ht2 rfl (Nat.le_of_ble_eq_true rfl) ⟨rfl, rfl, ⟨by decide, by decide⟩, by decide, by decide⟩ dX11_first_61 (fun r3 M4 h => ?_)
      show mj_X g 64 [(0, vR l0), (2, vI l2), (3, vR l3), (4, vI l4), (5, vI l5)] [vI (mj_b r3)] M4 0 0
      refine mx_ifeqB (tgt := 70) hC dX11_first_64 (by decide) (fun hc5 => ?_) (fun hc5 => ?_)
      · replace h := mj_nn hc5 h
        refine mx_iinc (j := 4) (v := l5 + 1) (L' := [(5, vI (l5 + 1)), (0, vR l0), (2, vI l2), (3, vR l3), (4, vI l4)]) hC dX11_first_70 rfl rfl (by decide) rfl ?_
        refine mx_goto (tgt := 49) hC dX11_first_73 (by decide) ?_
        refine mx_sub (L' := [(0, vR l0), (2, vI l2), (3, vR l3), (4, vI l4), (5, vI (l5 + 1))]) [1, 2, 3, 4, 0] rfl ?_
        exact show mj_X g 49 [(0, vR l0), (2, vI l2), (3, vR l3), (4, vI l4), (5, vI (l5 + 1))] [] M4 0 0 from (ih l0 l2 l3 l4 (l5 + 1) M4 h)
      · replace h := mj_yy hc5 h
        refine mx_iload (j := 4) hC dX11_first_67 rfl ?_
        exact mx_iret hC hE rfl dX11_first_69 h
set_option maxHeartbeats 4000000 in
set_option maxRecDepth 100000 in
theorem ct_X11_first {l : Launch} {base : Nat} {D : va_G} {A : mj_AT} (l0 : Nat) (l1 : Int32) (l2 : Int32) (M : mj_M) (post : Int32 → mj_M → Prop) (h : vc_X11_first l0 l1 l2 M post) : mj_Met l base D A mj_jI yX11_first cX11_first 6 (some .int) rm_X11_first 0 0 [vR l0, vI l1, vI l2] M post := by
  refine mj_entry (by decide +kernel) (Nat.le_of_ble_eq_true rfl) (fun g hC hE h1 h2 h3 h4 => ?_)
  show mj_X g 0 [(0, vR l0), (1, vI l1), (2, vI l2)] [] M 0 0
  simp only [vc_X11_first] at h
  refine mx_aload_n (j := 0) hC dX11_first_0 rfl rfl ?_
  obtain ⟨ht6, h⟩ := h
  refine mx_get (v := vR (mj_r M l0 0)) hC tf_X11_10 ht6 rfl dX11_first_1 ?_
  refine mx_iload_n (j := 1) hC dX11_first_4 rfl rfl ?_
  obtain ⟨ht7, h⟩ := h
  refine mx_callV (inj := mj_jR) (As := [vI l1]) (st := []) hC (ct_X4_find (mj_r M l0 0) l1 M _ h) ty_X4_find tw377 ht7 rfl (Nat.le_of_ble_eq_true rfl) ⟨rfl, rfl, ⟨by decide, by decide⟩, by decide, by decide⟩ dX11_first_5 (fun r8 M9 h => ?_)
  show mj_X g 8 [(0, vR l0), (1, vI l1), (2, vI l2)] [vR r8] M9 0 0
  refine mx_astore_n (L' := [(3, vR r8), (0, vR l0), (1, vI l1), (2, vI l2)]) hC dX11_first_8 rfl (by decide) rfl ?_
  refine mx_aload_n (j := 0) hC dX11_first_9 rfl rfl ?_
  refine mx_ifnull (tgt := 20) hC dX11_first_10 (by decide) (fun hc10 => ?_) (fun hc10 => ?_)
  · replace h := mj_yy hc10 h
    refine mx_iconst (v := (-1)) hC dX11_first_20 (by decide) ?_
    exact mx_iret hC hE rfl dX11_first_21 h
  · replace h := mj_nn hc10 h
    refine mx_iload_n (j := 3) hC dX11_first_13 rfl rfl ?_
    refine mx_callS (inj := mj_jB) (As := [vI l2]) (st := []) hC (ct_X11_isKind l2 M9 _ h) ty_X11_isKind tw468 rfl (Nat.le_of_ble_eq_true rfl) ⟨rfl, rfl, ⟨by decide, by decide⟩, by decide, by decide⟩ dX11_first_14 (fun r11 M12 h => ?_)
    show mj_X g 17 [(3, vR r8), (0, vR l0), (1, vI l1), (2, vI l2)] [vI (mj_b r11)] M12 0 0
    refine mx_ifneB (tgt := 22) hC dX11_first_17 (by decide) (fun hc13 => ?_) (fun hc13 => ?_)
    · replace h := mj_yy hc13 h
      refine mx_ldc (v := 73000) hC dX11_first_22 tw274 ?_
      refine mx_aload_n (j := 1) hC dX11_first_24 rfl rfl ?_
      obtain ⟨ht14, h⟩ := h
      refine mx_get (v := vR (mj_r M12 l0 0)) hC tf_X11_10 ht14 rfl dX11_first_25 ?_
      obtain ⟨ht15, h⟩ := h
      refine mx_get (v := vI (mj_i M12 (mj_r M12 l0 0) 0)) hC tf_X11_66 ht15 rfl dX11_first_28 ?_
      refine mx_sipush (v := 999) hC dX11_first_31 (by decide) ?_
      refine mx_iadd hC dX11_first_34 ?_
      refine mx_callS (inj := mj_jI) (As := [vI 73000, vI ((mj_i M12 (mj_r M12 l0 0) 0) + 999)]) (st := []) hC (ct_J9_min_7cf53 73000 ((mj_i M12 (mj_r M12 l0 0) 0) + 999) M12 _ h) ty_J9_min_7cf53 tw718 rfl (Nat.le_of_ble_eq_true rfl) ⟨rfl, rfl, ⟨by decide, by decide⟩, by decide, by decide⟩ dX11_first_35 (fun r16 M17 h => ?_)
      show mj_X g 38 [(3, vR r8), (0, vR l0), (1, vI l1), (2, vI l2)] [vI r16] M17 0 0
      refine mx_istore (L' := [(4, vI r16), (3, vR r8), (0, vR l0), (1, vI l1), (2, vI l2)]) hC dX11_first_38 (by decide) rfl ?_
      refine mx_aload_n (j := 2) hC dX11_first_40 rfl rfl ?_
      obtain ⟨ht18, h⟩ := h
      refine mx_get (v := vR (mj_r M17 l0 0)) hC tf_X11_10 ht18 rfl dX11_first_41 ?_
      obtain ⟨ht19, h⟩ := h
      refine mx_get (v := vI (mj_i M17 (mj_r M17 l0 0) 0)) hC tf_X11_66 ht19 rfl dX11_first_44 ?_
      refine mx_istore (L' := [(5, vI (mj_i M17 (mj_r M17 l0 0) 0)), (4, vI r16), (3, vR r8), (0, vR l0), (1, vI l1), (2, vI l2)]) hC dX11_first_47 (by decide) rfl ?_
      refine mx_sub (L' := [(0, vR l0), (2, vI l2), (3, vR r8), (4, vI r16), (5, vI (mj_i M17 (mj_r M17 l0 0) 0))]) [3, 5, 2, 1, 0] rfl ?_
      exact show mj_X g 49 [(0, vR l0), (2, vI l2), (3, vR r8), (4, vI r16), (5, vI (mj_i M17 (mj_r M17 l0 0) 0))] [] M17 0 0 from (xb_X11_first_49 hC hE 60 l0 l2 r8 r16 (mj_i M17 (mj_r M17 l0 0) 0) M17 h)
    · replace h := mj_nn hc13 h
      refine mx_iconst (v := (-1)) hC dX11_first_20 (by decide) ?_
      exact mx_iret hC hE rfl dX11_first_21 h
theorem tw139 : (Jvm.Cond.fieldLink "LeaseLand" (260 : Nat) "LeaseLand$Notices" "count" "I") ∈ mj_tbl := mj_w 145 (by decide +kernel) (by decide +kernel)
theorem tf_X11_260 : mj_F 7 2 .int false "LeaseLand" 260 := ⟨_, tk7, by decide, rfl, rfl, rfl, tw139⟩
theorem tw728 : (Jvm.Cond.methodLink "LeaseLand" (261 : Nat) ({ cls := "LeaseLand$Notices", name := "lackOf", desc := "(LLeaseLand$Holding;II)I" } : Jvm.MethodName)) ∈ mj_tbl := mj_w 734 (by decide +kernel) (by decide +kernel)
theorem tw740 : (Jvm.Cond.methodLink "LeaseLand" (264 : Nat) ({ cls := "LeaseLand$Notices", name := "add", desc := "(LLeaseLand$Holding;II)I" } : Jvm.MethodName)) ∈ mj_tbl := mj_w 746 (by decide +kernel) (by decide +kernel)
theorem tw743 : (Jvm.Cond.code ({ cls := "LeaseLand$Notices", name := "add", desc := "(LLeaseLand$Holding;II)I" } : Jvm.MethodName) prog_9_method_3_code (5 : Nat) (Option.some Jvm.ClassFile.FieldType.int)) ∈ mj_tbl := mj_w 749 (by decide +kernel) (by decide +kernel)
theorem tw741 : (Jvm.Cond.instanceMethod ({ cls := "LeaseLand$Notices", name := "add", desc := "(LLeaseLand$Holding;II)I" } : Jvm.MethodName)) ∈ mj_tbl := mj_w 747 (by decide +kernel) (by decide +kernel)
theorem tw742 : (Jvm.Cond.selects "LeaseLand$Notices" ({ cls := "LeaseLand$Notices", name := "add", desc := "(LLeaseLand$Holding;II)I" } : Jvm.MethodName) ({ cls := "LeaseLand$Notices", name := "add", desc := "(LLeaseLand$Holding;II)I" } : Jvm.MethodName)) ∈ mj_tbl := mj_w 748 (by decide +kernel) (by decide +kernel)
theorem ty_X7_add : mj_YV 7 yX7_add cX7_add 5 (some .int) 3 := ⟨⟨tw743, tw7, by decide +kernel, by decide +kernel, by decide +kernel⟩, tw741, tw742, _, rfl, rfl⟩
theorem tw731 : (Jvm.Cond.code ({ cls := "LeaseLand$Notices", name := "lackOf", desc := "(LLeaseLand$Holding;II)I" } : Jvm.MethodName) prog_9_method_4_code (7 : Nat) (Option.some Jvm.ClassFile.FieldType.int)) ∈ mj_tbl := mj_w 737 (by decide +kernel) (by decide +kernel)
theorem tw729 : (Jvm.Cond.instanceMethod ({ cls := "LeaseLand$Notices", name := "lackOf", desc := "(LLeaseLand$Holding;II)I" } : Jvm.MethodName)) ∈ mj_tbl := mj_w 735 (by decide +kernel) (by decide +kernel)
theorem tw730 : (Jvm.Cond.selects "LeaseLand$Notices" ({ cls := "LeaseLand$Notices", name := "lackOf", desc := "(LLeaseLand$Holding;II)I" } : Jvm.MethodName) ({ cls := "LeaseLand$Notices", name := "lackOf", desc := "(LLeaseLand$Holding;II)I" } : Jvm.MethodName)) ∈ mj_tbl := mj_w 736 (by decide +kernel) (by decide +kernel)
theorem ty_X7_lackOf : mj_YV 7 yX7_lackOf cX7_lackOf 7 (some .int) 3 := ⟨⟨tw731, tw7, by decide +kernel, by decide +kernel, by decide +kernel⟩, tw729, tw730, _, rfl, rfl⟩
def rm_X11_notice : Room := { frames := 11, cells := 1, slots := 7, locals := 321 }
theorem dX11_notice_0 : decode cX11_notice 0 = .ok (.aload_n 0, 1) := by decide +kernel
theorem dX11_notice_1 : decode cX11_notice 1 = .ok (.getfield 10, 3) := by decide +kernel
theorem dX11_notice_4 : decode cX11_notice 4 = .ok (.iload_n 1, 1) := by decide +kernel
theorem dX11_notice_5 : decode cX11_notice 5 = .ok (.invokevirtual 121, 3) := by decide +kernel
theorem dX11_notice_8 : decode cX11_notice 8 = .ok (.astore_n 3, 1) := by decide +kernel
theorem dX11_notice_9 : decode cX11_notice 9 = .ok (.aload_n 3, 1) := by decide +kernel
theorem dX11_notice_10 : decode cX11_notice 10 = .ok (.ifnonnull 5, 3) := by decide +kernel
theorem dX11_notice_13 : decode cX11_notice 13 = .ok (.iconst (-1), 1) := by decide +kernel
theorem dX11_notice_14 : decode cX11_notice 14 = .ok (.ireturn, 1) := by decide +kernel
theorem dX11_notice_15 : decode cX11_notice 15 = .ok (.iload_n 2, 1) := by decide +kernel
theorem dX11_notice_16 : decode cX11_notice 16 = .ok (.ifCond .eq 11, 3) := by decide +kernel
theorem dX11_notice_19 : decode cX11_notice 19 = .ok (.iload_n 2, 1) := by decide +kernel
theorem dX11_notice_20 : decode cX11_notice 20 = .ok (.iconst 1, 1) := by decide +kernel
theorem dX11_notice_21 : decode cX11_notice 21 = .ok (.if_icmp .eq 6, 3) := by decide +kernel
theorem dX11_notice_24 : decode cX11_notice 24 = .ok (.bipush (-2), 2) := by decide +kernel
theorem dX11_notice_26 : decode cX11_notice 26 = .ok (.ireturn, 1) := by decide +kernel
theorem dX11_notice_27 : decode cX11_notice 27 = .ok (.aload_n 0, 1) := by decide +kernel
theorem dX11_notice_28 : decode cX11_notice 28 = .ok (.getfield 10, 3) := by decide +kernel
theorem dX11_notice_31 : decode cX11_notice 31 = .ok (.aload_n 3, 1) := by decide +kernel
theorem dX11_notice_32 : decode cX11_notice 32 = .ok (.invokevirtual 111, 3) := by decide +kernel
theorem dX11_notice_35 : decode cX11_notice 35 = .ok (.ifCond .ne 6, 3) := by decide +kernel
theorem dX11_notice_38 : decode cX11_notice 38 = .ok (.bipush (-3), 2) := by decide +kernel
theorem dX11_notice_40 : decode cX11_notice 40 = .ok (.ireturn, 1) := by decide +kernel
theorem dX11_notice_41 : decode cX11_notice 41 = .ok (.aload_n 0, 1) := by decide +kernel
theorem dX11_notice_42 : decode cX11_notice 42 = .ok (.getfield 33, 3) := by decide +kernel
theorem dX11_notice_45 : decode cX11_notice 45 = .ok (.getfield 260, 3) := by decide +kernel
theorem dX11_notice_48 : decode cX11_notice 48 = .ok (.bipush 24, 2) := by decide +kernel
theorem dX11_notice_50 : decode cX11_notice 50 = .ok (.if_icmp .ne 6, 3) := by decide +kernel
theorem dX11_notice_53 : decode cX11_notice 53 = .ok (.bipush (-4), 2) := by decide +kernel
theorem dX11_notice_55 : decode cX11_notice 55 = .ok (.ireturn, 1) := by decide +kernel
theorem dX11_notice_56 : decode cX11_notice 56 = .ok (.aload_n 0, 1) := by decide +kernel
theorem dX11_notice_57 : decode cX11_notice 57 = .ok (.aload_n 3, 1) := by decide +kernel
theorem dX11_notice_58 : decode cX11_notice 58 = .ok (.iload_n 2, 1) := by decide +kernel
theorem dX11_notice_59 : decode cX11_notice 59 = .ok (.aload_n 0, 1) := by decide +kernel
theorem dX11_notice_60 : decode cX11_notice 60 = .ok (.getfield 10, 3) := by decide +kernel
theorem dX11_notice_63 : decode cX11_notice 63 = .ok (.getfield 66, 3) := by decide +kernel
theorem dX11_notice_66 : decode cX11_notice 66 = .ok (.invokevirtual 256, 3) := by decide +kernel
theorem dX11_notice_69 : decode cX11_notice 69 = .ok (.ifCond .eq 22, 3) := by decide +kernel
theorem dX11_notice_72 : decode cX11_notice 72 = .ok (.aload_n 0, 1) := by decide +kernel
theorem dX11_notice_73 : decode cX11_notice 73 = .ok (.getfield 33, 3) := by decide +kernel
theorem dX11_notice_76 : decode cX11_notice 76 = .ok (.aload_n 3, 1) := by decide +kernel
theorem dX11_notice_77 : decode cX11_notice 77 = .ok (.iload_n 2, 1) := by decide +kernel
theorem dX11_notice_78 : decode cX11_notice 78 = .ok (.aload_n 0, 1) := by decide +kernel
theorem dX11_notice_79 : decode cX11_notice 79 = .ok (.getfield 10, 3) := by decide +kernel
theorem dX11_notice_82 : decode cX11_notice 82 = .ok (.getfield 66, 3) := by decide +kernel
theorem dX11_notice_85 : decode cX11_notice 85 = .ok (.invokevirtual 261, 3) := by decide +kernel
theorem dX11_notice_88 : decode cX11_notice 88 = .ok (.goto 4, 3) := by decide +kernel
theorem dX11_notice_91 : decode cX11_notice 91 = .ok (.iconst 1, 1) := by decide +kernel
theorem dX11_notice_92 : decode cX11_notice 92 = .ok (.istore 4, 2) := by decide +kernel
theorem dX11_notice_94 : decode cX11_notice 94 = .ok (.iload 4, 2) := by decide +kernel
theorem dX11_notice_96 : decode cX11_notice 96 = .ok (.ifCond .ne 22, 3) := by decide +kernel
theorem dX11_notice_99 : decode cX11_notice 99 = .ok (.aload_n 0, 1) := by decide +kernel
theorem dX11_notice_100 : decode cX11_notice 100 = .ok (.getfield 33, 3) := by decide +kernel
theorem dX11_notice_103 : decode cX11_notice 103 = .ok (.aload_n 3, 1) := by decide +kernel
theorem dX11_notice_104 : decode cX11_notice 104 = .ok (.iload_n 2, 1) := by decide +kernel
theorem dX11_notice_105 : decode cX11_notice 105 = .ok (.aload_n 0, 1) := by decide +kernel
theorem dX11_notice_106 : decode cX11_notice 106 = .ok (.getfield 10, 3) := by decide +kernel
theorem dX11_notice_109 : decode cX11_notice 109 = .ok (.getfield 66, 3) := by decide +kernel
theorem dX11_notice_112 : decode cX11_notice 112 = .ok (.invokevirtual 264, 3) := by decide +kernel
theorem dX11_notice_115 : decode cX11_notice 115 = .ok (.goto 9, 3) := by decide +kernel
theorem dX11_notice_118 : decode cX11_notice 118 = .ok (.sipush (-200), 3) := by decide +kernel
theorem dX11_notice_121 : decode cX11_notice 121 = .ok (.iload 4, 2) := by decide +kernel
theorem dX11_notice_123 : decode cX11_notice 123 = .ok (.isub, 1) := by decide +kernel
theorem dX11_notice_124 : decode cX11_notice 124 = .ok (.ireturn, 1) := by decide +kernel
def vb_X11_notice_92 (post : Int32 → mj_M → Prop) (l0 : Nat) (l2 : Int32) (l3 : Nat) (s0 : Int32) (M : mj_M) : Prop := if s0 = 0 then (mj_tag M l0 = 12 ∧ mj_tag M (mj_r M l0 0) = 5 ∧ mj_tag M (mj_r M l0 3) = 8 ∧ vc_X7_add (mj_r M l0 3) l3 l2 (mj_i M (mj_r M l0 0) 0) M (fun r5 M6 => post r5 M6)) else (post (((-200)) - s0) M)
def vb_X11_notice_27 (post : Int32 → mj_M → Prop) (l0 : Nat) (l2 : Int32) (l3 : Nat) (M : mj_M) : Prop := mj_tag M l0 = 12 ∧ mj_tag M (mj_r M l0 0) = 5 ∧ vc_X4_isInForce (mj_r M l0 0) l3 M (fun r9 M10 => if r9 = true then (mj_tag M10 l0 = 12 ∧ mj_tag M10 (mj_r M10 l0 3) = 8 ∧ if (mj_i M10 (mj_r M10 l0 3) 2) = 24 then (post ((-4)) M10) else (mj_tag M10 (mj_r M10 l0 0) = 5 ∧ vc_X11_hasRight l0 l3 l2 (mj_i M10 (mj_r M10 l0 0) 0) M10 (fun r16 M17 => if r16 = true then (mj_tag M17 l0 = 12 ∧ mj_tag M17 (mj_r M17 l0 0) = 5 ∧ mj_tag M17 (mj_r M17 l0 3) = 8 ∧ vc_X7_lackOf (mj_r M17 l0 3) l3 l2 (mj_i M17 (mj_r M17 l0 0) 0) M17 (fun r22 M23 => vb_X11_notice_92 post l0 l2 l3 r22 M23)) else (vb_X11_notice_92 post l0 l2 l3 1 M17)))) else (post ((-3)) M10))
def vc_X11_notice (l0 : Nat) (l1 : Int32) (l2 : Int32) (M : mj_M) (post : Int32 → mj_M → Prop) : Prop := mj_tag M l0 = 12 ∧ mj_tag M (mj_r M l0 0) = 5 ∧ vc_X4_findLease (mj_r M l0 0) l1 M (fun r26 M27 => if r26 = 0 then (post ((-1)) M27) else (if l2 = 0 then (vb_X11_notice_27 post l0 l2 r26 M27) else (if l2 = 1 then (vb_X11_notice_27 post l0 l2 r26 M27) else (post ((-2)) M27))))
set_option maxHeartbeats 4000000 in
set_option maxRecDepth 100000 in
theorem xb_X11_notice_92 {g : mj_G} {post : Int32 → mj_M → Prop} (hC : mj_C g yX11_notice cX11_notice 5 (some .int) rm_X11_notice) (hE : mj_E g mj_jI post 1 7) (l0 : Nat) (l2 : Int32) (l3 : Nat) (s0 : Int32) (M : mj_M) (h : vb_X11_notice_92 post l0 l2 l3 s0 M) : mj_X g 92 [(0, vR l0), (2, vI l2), (3, vR l3)] [vI s0] M 0 0 := by
  simp only [vb_X11_notice_92] at h
  refine mx_istore (L' := [(4, vI s0), (0, vR l0), (2, vI l2), (3, vR l3)]) hC dX11_notice_92 (by decide) rfl ?_
  refine mx_iload (j := 0) hC dX11_notice_94 rfl ?_
  refine mx_ifne (tgt := 118) hC dX11_notice_96 (by decide) (fun hc1 => ?_) (fun hc1 => ?_)
  · replace h := mj_nn hc1 h
    refine mx_sipush (v := (-200)) hC dX11_notice_118 (by decide) ?_
    refine mx_iload (j := 0) hC dX11_notice_121 rfl ?_
    refine mx_isub hC dX11_notice_123 ?_
    refine mx_widen (k' := 1) (n' := 7) (by decide) (by decide) ?_
    exact mx_iret hC hE rfl dX11_notice_124 h
  · replace h := mj_yy hc1 h
    refine mx_aload_n (j := 1) hC dX11_notice_99 rfl rfl ?_
    obtain ⟨ht2, h⟩ := h
    refine mx_get (v := vR (mj_r M l0 3)) hC tf_X11_33 ht2 rfl dX11_notice_100 ?_
    refine mx_aload_n (j := 3) hC dX11_notice_103 rfl rfl ?_
    refine mx_iload_n (j := 2) hC dX11_notice_104 rfl rfl ?_
    refine mx_aload_n (j := 1) hC dX11_notice_105 rfl rfl ?_
    refine mx_get (v := vR (mj_r M l0 0)) hC tf_X11_10 ht2 rfl dX11_notice_106 ?_
    obtain ⟨ht3, h⟩ := h
    refine mx_get (v := vI (mj_i M (mj_r M l0 0) 0)) hC tf_X11_66 ht3 rfl dX11_notice_109 ?_
    obtain ⟨ht4, h⟩ := h
    refine mx_callV (inj := mj_jI) (As := [vR l3, vI l2, vI (mj_i M (mj_r M l0 0) 0)]) (st := []) hC (ct_X7_add (mj_r M l0 3) l3 l2 (mj_i M (mj_r M l0 0) 0) M _ h) ty_X7_add tw740 ht4 rfl (Nat.le_of_ble_eq_true rfl) ⟨rfl, rfl, ⟨by decide, by decide⟩, by decide, by decide⟩ dX11_notice_112 (fun r5 M6 h => ?_)
    show mj_X g 115 [(4, vI s0), (0, vR l0), (2, vI l2), (3, vR l3)] [vI r5] M6 1 7
    refine mx_goto (tgt := 124) hC dX11_notice_115 (by decide) ?_
    exact mx_iret hC hE rfl dX11_notice_124 h
set_option maxHeartbeats 4000000 in
set_option maxRecDepth 100000 in
theorem xb_X11_notice_27 {g : mj_G} {post : Int32 → mj_M → Prop} (hC : mj_C g yX11_notice cX11_notice 5 (some .int) rm_X11_notice) (hE : mj_E g mj_jI post 1 7) (l0 : Nat) (l2 : Int32) (l3 : Nat) (M : mj_M) (h : vb_X11_notice_27 post l0 l2 l3 M) : mj_X g 27 [(0, vR l0), (2, vI l2), (3, vR l3)] [] M 0 0 := by
  simp only [vb_X11_notice_27] at h
  refine mx_aload_n (j := 0) hC dX11_notice_27 rfl rfl ?_
  obtain ⟨ht7, h⟩ := h
  refine mx_get (v := vR (mj_r M l0 0)) hC tf_X11_10 ht7 rfl dX11_notice_28 ?_
  refine mx_aload_n (j := 2) hC dX11_notice_31 rfl rfl ?_
  obtain ⟨ht8, h⟩ := h
  refine mx_callV (inj := mj_jB) (As := [vR l3]) (st := []) hC (ct_X4_isInForce (mj_r M l0 0) l3 M _ h) ty_X4_isInForce tw649 ht8 rfl (Nat.le_of_ble_eq_true rfl) ⟨rfl, rfl, ⟨by decide, by decide⟩, by decide, by decide⟩ dX11_notice_32 (fun r9 M10 h => ?_)
  show mj_X g 35 [(0, vR l0), (2, vI l2), (3, vR l3)] [vI (mj_b r9)] M10 0 0
  refine mx_ifneB (tgt := 41) hC dX11_notice_35 (by decide) (fun hc11 => ?_) (fun hc11 => ?_)
  · replace h := mj_yy hc11 h
    refine mx_aload_n (j := 0) hC dX11_notice_41 rfl rfl ?_
    obtain ⟨ht12, h⟩ := h
    refine mx_get (v := vR (mj_r M10 l0 3)) hC tf_X11_33 ht12 rfl dX11_notice_42 ?_
    obtain ⟨ht13, h⟩ := h
    refine mx_get (v := vI (mj_i M10 (mj_r M10 l0 3) 2)) hC tf_X11_260 ht13 rfl dX11_notice_45 ?_
    refine mx_bipush (v := 24) hC dX11_notice_48 (by decide) ?_
    refine mx_icmpne (tgt := 56) hC dX11_notice_50 (by decide) (fun hc14 => ?_) (fun hc14 => ?_)
    · replace h := mj_nn hc14 h
      refine mx_aload_n (j := 0) hC dX11_notice_56 rfl rfl ?_
      refine mx_aload_n (j := 2) hC dX11_notice_57 rfl rfl ?_
      refine mx_iload_n (j := 1) hC dX11_notice_58 rfl rfl ?_
      refine mx_aload_n (j := 0) hC dX11_notice_59 rfl rfl ?_
      refine mx_get (v := vR (mj_r M10 l0 0)) hC tf_X11_10 ht12 rfl dX11_notice_60 ?_
      obtain ⟨ht15, h⟩ := h
      refine mx_get (v := vI (mj_i M10 (mj_r M10 l0 0) 0)) hC tf_X11_66 ht15 rfl dX11_notice_63 ?_
      refine mx_callV (inj := mj_jB) (As := [vR l3, vI l2, vI (mj_i M10 (mj_r M10 l0 0) 0)]) (st := []) hC (ct_X11_hasRight l0 l3 l2 (mj_i M10 (mj_r M10 l0 0) 0) M10 _ h) ty_X11_hasRight tw719 ht12 rfl (Nat.le_of_ble_eq_true rfl) ⟨rfl, rfl, ⟨by decide, by decide⟩, by decide, by decide⟩ dX11_notice_66 (fun r16 M17 h => ?_)
      show mj_X g 69 [(0, vR l0), (2, vI l2), (3, vR l3)] [vI (mj_b r16)] M17 0 0
      refine mx_ifeqB (tgt := 91) hC dX11_notice_69 (by decide) (fun hc18 => ?_) (fun hc18 => ?_)
      · replace h := mj_nn hc18 h
        refine mx_iconst (v := 1) hC dX11_notice_91 (by decide) ?_
        refine mx_sub (L' := [(0, vR l0), (2, vI l2), (3, vR l3)]) [0, 1, 2] rfl ?_
        exact show mj_X g 92 [(0, vR l0), (2, vI l2), (3, vR l3)] [vI 1] M17 0 0 from (xb_X11_notice_92 hC hE l0 l2 l3 1 M17 h)
      · replace h := mj_yy hc18 h
        refine mx_aload_n (j := 0) hC dX11_notice_72 rfl rfl ?_
        obtain ⟨ht19, h⟩ := h
        refine mx_get (v := vR (mj_r M17 l0 3)) hC tf_X11_33 ht19 rfl dX11_notice_73 ?_
        refine mx_aload_n (j := 2) hC dX11_notice_76 rfl rfl ?_
        refine mx_iload_n (j := 1) hC dX11_notice_77 rfl rfl ?_
        refine mx_aload_n (j := 0) hC dX11_notice_78 rfl rfl ?_
        refine mx_get (v := vR (mj_r M17 l0 0)) hC tf_X11_10 ht19 rfl dX11_notice_79 ?_
        obtain ⟨ht20, h⟩ := h
        refine mx_get (v := vI (mj_i M17 (mj_r M17 l0 0) 0)) hC tf_X11_66 ht20 rfl dX11_notice_82 ?_
        obtain ⟨ht21, h⟩ := h
        refine mx_callV (inj := mj_jI) (As := [vR l3, vI l2, vI (mj_i M17 (mj_r M17 l0 0) 0)]) (st := []) hC (ct_X7_lackOf (mj_r M17 l0 3) l3 l2 (mj_i M17 (mj_r M17 l0 0) 0) M17 _ h) ty_X7_lackOf tw728 ht21 rfl (Nat.le_of_ble_eq_true rfl) ⟨rfl, rfl, ⟨by decide, by decide⟩, by decide, by decide⟩ dX11_notice_85 (fun r22 M23 h => ?_)
        show mj_X g 88 [(0, vR l0), (2, vI l2), (3, vR l3)] [vI r22] M23 0 0
        refine mx_goto (tgt := 92) hC dX11_notice_88 (by decide) ?_
        refine mx_sub (L' := [(0, vR l0), (2, vI l2), (3, vR l3)]) [0, 1, 2] rfl ?_
        exact show mj_X g 92 [(0, vR l0), (2, vI l2), (3, vR l3)] [vI r22] M23 0 0 from (xb_X11_notice_92 hC hE l0 l2 l3 r22 M23 h)
    · replace h := mj_yy hc14 h
      refine mx_bipush (v := (-4)) hC dX11_notice_53 (by decide) ?_
      refine mx_widen (k' := 1) (n' := 7) (by decide) (by decide) ?_
      exact mx_iret hC hE rfl dX11_notice_55 h
  · replace h := mj_nn hc11 h
    refine mx_bipush (v := (-3)) hC dX11_notice_38 (by decide) ?_
    refine mx_widen (k' := 1) (n' := 7) (by decide) (by decide) ?_
    exact mx_iret hC hE rfl dX11_notice_40 h
set_option maxHeartbeats 4000000 in
set_option maxRecDepth 100000 in
theorem ct_X11_notice {l : Launch} {base : Nat} {D : va_G} {A : mj_AT} (l0 : Nat) (l1 : Int32) (l2 : Int32) (M : mj_M) (post : Int32 → mj_M → Prop) (h : vc_X11_notice l0 l1 l2 M post) : mj_Met l base D A mj_jI yX11_notice cX11_notice 5 (some .int) rm_X11_notice 1 7 [vR l0, vI l1, vI l2] M post := by
  refine mj_entry (by decide +kernel) (Nat.le_of_ble_eq_true rfl) (fun g hC hE h1 h2 h3 h4 => ?_)
  show mj_X g 0 [(0, vR l0), (1, vI l1), (2, vI l2)] [] M 0 0
  simp only [vc_X11_notice] at h
  refine mx_aload_n (j := 0) hC dX11_notice_0 rfl rfl ?_
  obtain ⟨ht24, h⟩ := h
  refine mx_get (v := vR (mj_r M l0 0)) hC tf_X11_10 ht24 rfl dX11_notice_1 ?_
  refine mx_iload_n (j := 1) hC dX11_notice_4 rfl rfl ?_
  obtain ⟨ht25, h⟩ := h
  refine mx_callV (inj := mj_jR) (As := [vI l1]) (st := []) hC (ct_X4_findLease (mj_r M l0 0) l1 M _ h) ty_X4_findLease tw447 ht25 rfl (Nat.le_of_ble_eq_true rfl) ⟨rfl, rfl, ⟨by decide, by decide⟩, by decide, by decide⟩ dX11_notice_5 (fun r26 M27 h => ?_)
  show mj_X g 8 [(0, vR l0), (1, vI l1), (2, vI l2)] [vR r26] M27 0 0
  refine mx_astore_n (L' := [(3, vR r26), (0, vR l0), (1, vI l1), (2, vI l2)]) hC dX11_notice_8 rfl (by decide) rfl ?_
  refine mx_aload_n (j := 0) hC dX11_notice_9 rfl rfl ?_
  refine mx_ifnonnull (tgt := 15) hC dX11_notice_10 (by decide) (fun hc28 => ?_) (fun hc28 => ?_)
  · replace h := mj_nn hc28 h
    refine mx_iload_n (j := 3) hC dX11_notice_15 rfl rfl ?_
    refine mx_ifeq (tgt := 27) hC dX11_notice_16 (by decide) (fun hc29 => ?_) (fun hc29 => ?_)
    · replace h := mj_yy hc29 h
      refine mx_sub (L' := [(0, vR l0), (2, vI l2), (3, vR r26)]) [1, 3, 0] rfl ?_
      exact show mj_X g 27 [(0, vR l0), (2, vI l2), (3, vR r26)] [] M27 0 0 from (xb_X11_notice_27 hC hE l0 l2 r26 M27 h)
    · replace h := mj_nn hc29 h
      refine mx_iload_n (j := 3) hC dX11_notice_19 rfl rfl ?_
      refine mx_iconst (v := 1) hC dX11_notice_20 (by decide) ?_
      refine mx_icmpeq (tgt := 27) hC dX11_notice_21 (by decide) (fun hc30 => ?_) (fun hc30 => ?_)
      · replace h := mj_yy hc30 h
        refine mx_sub (L' := [(0, vR l0), (2, vI l2), (3, vR r26)]) [1, 3, 0] rfl ?_
        exact show mj_X g 27 [(0, vR l0), (2, vI l2), (3, vR r26)] [] M27 0 0 from (xb_X11_notice_27 hC hE l0 l2 r26 M27 h)
      · replace h := mj_nn hc30 h
        refine mx_bipush (v := (-2)) hC dX11_notice_24 (by decide) ?_
        refine mx_widen (k' := 1) (n' := 7) (by decide) (by decide) ?_
        exact mx_iret hC hE rfl dX11_notice_26 h
  · replace h := mj_yy hc28 h
    refine mx_iconst (v := (-1)) hC dX11_notice_13 (by decide) ?_
    refine mx_widen (k' := 1) (n' := 7) (by decide) (by decide) ?_
    exact mx_iret hC hE rfl dX11_notice_14 h
theorem tw761 : (Jvm.Cond.fieldLink "LeaseLand" (278 : Nat) "LeaseLand$Notice" "standing" "I") ∈ mj_tbl := mj_w 767 (by decide +kernel) (by decide +kernel)
theorem tf_X11_278 : mj_F 6 4 .int false "LeaseLand" 278 := ⟨_, tk6, by decide, rfl, rfl, rfl, tw761⟩
theorem tw787 : (Jvm.Cond.methodLink "LeaseLand" (270 : Nat) ({ cls := "LeaseLand$Notices", name := "find", desc := "(I)LLeaseLand$Notice;" } : Jvm.MethodName)) ∈ mj_tbl := mj_w 793 (by decide +kernel) (by decide +kernel)
theorem tw791 : (Jvm.Cond.methodLink "LeaseLand" (284 : Nat) ({ cls := "LeaseLand$Notice", name := "standingOn", desc := "(I)I" } : Jvm.MethodName)) ∈ mj_tbl := mj_w 797 (by decide +kernel) (by decide +kernel)
theorem tw790 : (Jvm.Cond.code ({ cls := "LeaseLand$Notices", name := "find", desc := "(I)LLeaseLand$Notice;" } : Jvm.MethodName) prog_9_method_2_code (3 : Nat) (Option.some (Jvm.ClassFile.FieldType.object "LeaseLand$Notice"))) ∈ mj_tbl := mj_w 796 (by decide +kernel) (by decide +kernel)
theorem tw788 : (Jvm.Cond.instanceMethod ({ cls := "LeaseLand$Notices", name := "find", desc := "(I)LLeaseLand$Notice;" } : Jvm.MethodName)) ∈ mj_tbl := mj_w 794 (by decide +kernel) (by decide +kernel)
theorem tw789 : (Jvm.Cond.selects "LeaseLand$Notices" ({ cls := "LeaseLand$Notices", name := "find", desc := "(I)LLeaseLand$Notice;" } : Jvm.MethodName) ({ cls := "LeaseLand$Notices", name := "find", desc := "(I)LLeaseLand$Notice;" } : Jvm.MethodName)) ∈ mj_tbl := mj_w 795 (by decide +kernel) (by decide +kernel)
theorem ty_X7_find : mj_YV 7 yX7_find cX7_find 3 (some (.object "LeaseLand$Notice")) 1 := ⟨⟨tw790, tw7, by decide +kernel, by decide +kernel, by decide +kernel⟩, tw788, tw789, _, rfl, rfl⟩
def rm_X11_settle : Room := { frames := 1, cells := 0, slots := 0, locals := 22 }
theorem dX11_settle_0 : decode cX11_settle 0 = .ok (.aload_n 0, 1) := by decide +kernel
theorem dX11_settle_1 : decode cX11_settle 1 = .ok (.getfield 33, 3) := by decide +kernel
theorem dX11_settle_4 : decode cX11_settle 4 = .ok (.iload_n 1, 1) := by decide +kernel
theorem dX11_settle_5 : decode cX11_settle 5 = .ok (.invokevirtual 270, 3) := by decide +kernel
theorem dX11_settle_8 : decode cX11_settle 8 = .ok (.astore 4, 2) := by decide +kernel
theorem dX11_settle_10 : decode cX11_settle 10 = .ok (.aload 4, 2) := by decide +kernel
theorem dX11_settle_12 : decode cX11_settle 12 = .ok (.ifnonnull 5, 3) := by decide +kernel
theorem dX11_settle_15 : decode cX11_settle 15 = .ok (.iconst (-1), 1) := by decide +kernel
theorem dX11_settle_16 : decode cX11_settle 16 = .ok (.ireturn, 1) := by decide +kernel
theorem dX11_settle_17 : decode cX11_settle 17 = .ok (.aload 4, 2) := by decide +kernel
theorem dX11_settle_19 : decode cX11_settle 19 = .ok (.aload_n 0, 1) := by decide +kernel
theorem dX11_settle_20 : decode cX11_settle 20 = .ok (.getfield 10, 3) := by decide +kernel
theorem dX11_settle_23 : decode cX11_settle 23 = .ok (.getfield 66, 3) := by decide +kernel
theorem dX11_settle_26 : decode cX11_settle 26 = .ok (.invokevirtual 284, 3) := by decide +kernel
theorem dX11_settle_29 : decode cX11_settle 29 = .ok (.iload_n 2, 1) := by decide +kernel
theorem dX11_settle_30 : decode cX11_settle 30 = .ok (.if_icmp .eq 6, 3) := by decide +kernel
theorem dX11_settle_33 : decode cX11_settle 33 = .ok (.bipush (-3), 2) := by decide +kernel
theorem dX11_settle_35 : decode cX11_settle 35 = .ok (.ireturn, 1) := by decide +kernel
theorem dX11_settle_36 : decode cX11_settle 36 = .ok (.aload 4, 2) := by decide +kernel
theorem dX11_settle_38 : decode cX11_settle 38 = .ok (.iload_n 3, 1) := by decide +kernel
theorem dX11_settle_39 : decode cX11_settle 39 = .ok (.putfield 278, 3) := by decide +kernel
theorem dX11_settle_42 : decode cX11_settle 42 = .ok (.iconst 1, 1) := by decide +kernel
theorem dX11_settle_43 : decode cX11_settle 43 = .ok (.ireturn, 1) := by decide +kernel
def vc_X11_settle (l0 : Nat) (l1 : Int32) (l2 : Int32) (l3 : Int32) (M : mj_M) (post : Int32 → mj_M → Prop) : Prop := mj_tag M l0 = 12 ∧ mj_tag M (mj_r M l0 3) = 8 ∧ vc_X7_find (mj_r M l0 3) l1 M (fun r3 M4 => if r3 = 0 then (post ((-1)) M4) else (mj_tag M4 l0 = 12 ∧ mj_tag M4 (mj_r M4 l0 0) = 5 ∧ mj_tag M4 r3 = 7 ∧ vc_X6_standingOn r3 (mj_i M4 (mj_r M4 l0 0) 0) M4 (fun r9 M10 => if r9 = l2 then (mj_tag M10 r3 = 7 ∧ post 1 (mj_wi M10 r3 4 l3)) else (post ((-3)) M10))))
set_option maxHeartbeats 4000000 in
set_option maxRecDepth 100000 in
theorem ct_X11_settle {l : Launch} {base : Nat} {D : va_G} {A : mj_AT} (l0 : Nat) (l1 : Int32) (l2 : Int32) (l3 : Int32) (M : mj_M) (post : Int32 → mj_M → Prop) (h : vc_X11_settle l0 l1 l2 l3 M post) : mj_Met l base D A mj_jI yX11_settle cX11_settle 5 (some .int) rm_X11_settle 0 0 [vR l0, vI l1, vI l2, vI l3] M post := by
  refine mj_entry (by decide +kernel) (Nat.le_of_ble_eq_true rfl) (fun g hC hE h1 h2 h3 h4 => ?_)
  show mj_X g 0 [(0, vR l0), (1, vI l1), (2, vI l2), (3, vI l3)] [] M 0 0
  simp only [vc_X11_settle] at h
  refine mx_aload_n (j := 0) hC dX11_settle_0 rfl rfl ?_
  obtain ⟨ht1, h⟩ := h
  refine mx_get (v := vR (mj_r M l0 3)) hC tf_X11_33 ht1 rfl dX11_settle_1 ?_
  refine mx_iload_n (j := 1) hC dX11_settle_4 rfl rfl ?_
  obtain ⟨ht2, h⟩ := h
  refine mx_callV (inj := mj_jR) (As := [vI l1]) (st := []) hC (ct_X7_find (mj_r M l0 3) l1 M _ h) ty_X7_find tw787 ht2 rfl (Nat.le_of_ble_eq_true rfl) ⟨rfl, rfl, ⟨by decide, by decide⟩, by decide, by decide⟩ dX11_settle_5 (fun r3 M4 h => ?_)
  show mj_X g 8 [(0, vR l0), (1, vI l1), (2, vI l2), (3, vI l3)] [vR r3] M4 0 0
  refine mx_astore (L' := [(4, vR r3), (0, vR l0), (1, vI l1), (2, vI l2), (3, vI l3)]) hC dX11_settle_8 (by decide) rfl ?_
  refine mx_aload (j := 0) hC dX11_settle_10 rfl ?_
  refine mx_ifnonnull (tgt := 17) hC dX11_settle_12 (by decide) (fun hc5 => ?_) (fun hc5 => ?_)
  · replace h := mj_nn hc5 h
    refine mx_aload (j := 0) hC dX11_settle_17 rfl ?_
    refine mx_aload_n (j := 1) hC dX11_settle_19 rfl rfl ?_
    obtain ⟨ht6, h⟩ := h
    refine mx_get (v := vR (mj_r M4 l0 0)) hC tf_X11_10 ht6 rfl dX11_settle_20 ?_
    obtain ⟨ht7, h⟩ := h
    refine mx_get (v := vI (mj_i M4 (mj_r M4 l0 0) 0)) hC tf_X11_66 ht7 rfl dX11_settle_23 ?_
    obtain ⟨ht8, h⟩ := h
    refine mx_callV (inj := mj_jI) (As := [vI (mj_i M4 (mj_r M4 l0 0) 0)]) (st := []) hC (ct_X6_standingOn r3 (mj_i M4 (mj_r M4 l0 0) 0) M4 _ h) ty_X6_standingOn tw791 ht8 rfl (Nat.le_of_ble_eq_true rfl) ⟨rfl, rfl, ⟨by decide, by decide⟩, by decide, by decide⟩ dX11_settle_26 (fun r9 M10 h => ?_)
    show mj_X g 29 [(4, vR r3), (0, vR l0), (1, vI l1), (2, vI l2), (3, vI l3)] [vI r9] M10 0 0
    refine mx_iload_n (j := 3) hC dX11_settle_29 rfl rfl ?_
    refine mx_icmpeq (tgt := 36) hC dX11_settle_30 (by decide) (fun hc11 => ?_) (fun hc11 => ?_)
    · replace h := mj_yy hc11 h
      refine mx_aload (j := 0) hC dX11_settle_36 rfl ?_
      refine mx_iload_n (j := 4) hC dX11_settle_38 rfl rfl ?_
      obtain ⟨ht12, h⟩ := h
      refine mx_put (v := vI l3) (M1 := mj_wi M10 r3 4 l3) hC tf_X11_278 ht12 (Or.inl rfl) ⟨rfl, rfl⟩ (mj_off_wi _ _ _ _) mj_put_wi dX11_settle_39 ?_
      refine mx_iconst (v := 1) hC dX11_settle_42 (by decide) ?_
      exact mx_iret hC hE rfl dX11_settle_43 h
    · replace h := mj_nn hc11 h
      refine mx_bipush (v := (-3)) hC dX11_settle_33 (by decide) ?_
      exact mx_iret hC hE rfl dX11_settle_35 h
  · replace h := mj_yy hc5 h
    refine mx_iconst (v := (-1)) hC dX11_settle_15 (by decide) ?_
    exact mx_iret hC hE rfl dX11_settle_16 h
theorem tw783 : (Jvm.Cond.methodLink "LeaseLand" (266 : Nat) ({ cls := "LeaseLand", name := "settle", desc := "(III)I" } : Jvm.MethodName)) ∈ mj_tbl := mj_w 789 (by decide +kernel) (by decide +kernel)
theorem tw786 : (Jvm.Cond.code ({ cls := "LeaseLand", name := "settle", desc := "(III)I" } : Jvm.MethodName) prog_1_method_31_code (5 : Nat) (Option.some Jvm.ClassFile.FieldType.int)) ∈ mj_tbl := mj_w 792 (by decide +kernel) (by decide +kernel)
theorem tw785 : (Jvm.Cond.instanceMethod ({ cls := "LeaseLand", name := "settle", desc := "(III)I" } : Jvm.MethodName)) ∈ mj_tbl := mj_w 791 (by decide +kernel) (by decide +kernel)
theorem ty_X11_settle : mj_YV 11 yX11_settle cX11_settle 5 (some .int) 3 := ⟨⟨tw786, tw1, by decide +kernel, by decide +kernel, by decide +kernel⟩, tw785, mj_w 3 (by decide +kernel) (by decide +kernel), _, rfl, rfl⟩
def rm_X11_answer : Room := { frames := 2, cells := 0, slots := 0, locals := 46 }
theorem dX11_answer_0 : decode cX11_answer 0 = .ok (.aload_n 0, 1) := by decide +kernel
theorem dX11_answer_1 : decode cX11_answer 1 = .ok (.iload_n 1, 1) := by decide +kernel
theorem dX11_answer_2 : decode cX11_answer 2 = .ok (.iconst 0, 1) := by decide +kernel
theorem dX11_answer_3 : decode cX11_answer 3 = .ok (.iload_n 2, 1) := by decide +kernel
theorem dX11_answer_4 : decode cX11_answer 4 = .ok (.ifCond .eq 7, 3) := by decide +kernel
theorem dX11_answer_7 : decode cX11_answer 7 = .ok (.iconst 1, 1) := by decide +kernel
theorem dX11_answer_8 : decode cX11_answer 8 = .ok (.goto 4, 3) := by decide +kernel
theorem dX11_answer_11 : decode cX11_answer 11 = .ok (.iconst 2, 1) := by decide +kernel
theorem dX11_answer_12 : decode cX11_answer 12 = .ok (.invokevirtual 266, 3) := by decide +kernel
theorem dX11_answer_15 : decode cX11_answer 15 = .ok (.ireturn, 1) := by decide +kernel
def vb_X11_answer_12 (post : Int32 → mj_M → Prop) (s0 : Nat) (s1 : Int32) (s2 : Bool) (s3 : Int32) (M : mj_M) : Prop := mj_tag M s0 = 12 ∧ vc_X11_settle s0 s1 (mj_b s2) s3 M (fun r2 M3 => post r2 M3)
def vc_X11_answer (l0 : Nat) (l1 : Int32) (l2 : Bool) (M : mj_M) (post : Int32 → mj_M → Prop) : Prop := if l2 = true then (vb_X11_answer_12 post l0 l1 false 1 M) else (vb_X11_answer_12 post l0 l1 false 2 M)
set_option maxHeartbeats 4000000 in
set_option maxRecDepth 100000 in
theorem xb_X11_answer_12 {g : mj_G} {post : Int32 → mj_M → Prop} (hC : mj_C g yX11_answer cX11_answer 3 (some .int) rm_X11_answer) (hE : mj_E g mj_jI post 0 0) (s0 : Nat) (s1 : Int32) (s2 : Bool) (s3 : Int32) (M : mj_M) (h : vb_X11_answer_12 post s0 s1 s2 s3 M) : mj_X g 12 [] [vI s3, vI (mj_b s2), vI s1, vR s0] M 0 0 := by
  simp only [vb_X11_answer_12] at h
  obtain ⟨ht1, h⟩ := h
  refine mx_callV (inj := mj_jI) (As := [vI s1, vI (mj_b s2), vI s3]) (st := []) hC (ct_X11_settle s0 s1 (mj_b s2) s3 M _ h) ty_X11_settle tw783 ht1 rfl (Nat.le_of_ble_eq_true rfl) ⟨rfl, rfl, ⟨by decide, by decide⟩, by decide, by decide⟩ dX11_answer_12 (fun r2 M3 h => ?_)
  show mj_X g 15 [] [vI r2] M3 0 0
  exact mx_iret hC hE rfl dX11_answer_15 h
set_option maxHeartbeats 4000000 in
set_option maxRecDepth 100000 in
theorem ct_X11_answer {l : Launch} {base : Nat} {D : va_G} {A : mj_AT} (l0 : Nat) (l1 : Int32) (l2 : Bool) (M : mj_M) (post : Int32 → mj_M → Prop) (h : vc_X11_answer l0 l1 l2 M post) : mj_Met l base D A mj_jI yX11_answer cX11_answer 3 (some .int) rm_X11_answer 0 0 [vR l0, vI l1, vI (mj_b l2)] M post := by
  refine mj_entry (by decide +kernel) (Nat.le_of_ble_eq_true rfl) (fun g hC hE h1 h2 h3 h4 => ?_)
  show mj_X g 0 [(0, vR l0), (1, vI l1), (2, vI (mj_b l2))] [] M 0 0
  simp only [vc_X11_answer] at h
  refine mx_aload_n (j := 0) hC dX11_answer_0 rfl rfl ?_
  refine mx_iload_n (j := 1) hC dX11_answer_1 rfl rfl ?_
  refine mx_iconst (v := 0) hC dX11_answer_2 (by decide) ?_
  refine mx_iload_n (j := 2) hC dX11_answer_3 rfl rfl ?_
  refine mx_ifeqB (tgt := 11) hC dX11_answer_4 (by decide) (fun hc4 => ?_) (fun hc4 => ?_)
  · replace h := mj_nn hc4 h
    refine mx_iconst (v := 2) hC dX11_answer_11 (by decide) ?_
    refine mx_sub (L' := []) [] rfl ?_
    exact show mj_X g 12 [] [vI 2, vI (mj_b false), vI l1, vR l0] M 0 0 from (xb_X11_answer_12 hC hE l0 l1 false 2 M h)
  · replace h := mj_yy hc4 h
    refine mx_iconst (v := 1) hC dX11_answer_7 (by decide) ?_
    refine mx_goto (tgt := 12) hC dX11_answer_8 (by decide) ?_
    refine mx_sub (L' := []) [] rfl ?_
    exact show mj_X g 12 [] [vI 1, vI (mj_b false), vI l1, vR l0] M 0 0 from (xb_X11_answer_12 hC hE l0 l1 false 1 M h)
def rm_X11_status : Room := { frames := 1, cells := 0, slots := 0, locals := 22 }
theorem dX11_status_0 : decode cX11_status 0 = .ok (.aload_n 0, 1) := by decide +kernel
theorem dX11_status_1 : decode cX11_status 1 = .ok (.getfield 33, 3) := by decide +kernel
theorem dX11_status_4 : decode cX11_status 4 = .ok (.iload_n 1, 1) := by decide +kernel
theorem dX11_status_5 : decode cX11_status 5 = .ok (.invokevirtual 270, 3) := by decide +kernel
theorem dX11_status_8 : decode cX11_status 8 = .ok (.astore_n 2, 1) := by decide +kernel
theorem dX11_status_9 : decode cX11_status 9 = .ok (.aload_n 2, 1) := by decide +kernel
theorem dX11_status_10 : decode cX11_status 10 = .ok (.ifnonnull 7, 3) := by decide +kernel
theorem dX11_status_13 : decode cX11_status 13 = .ok (.iconst (-1), 1) := by decide +kernel
theorem dX11_status_14 : decode cX11_status 14 = .ok (.goto 14, 3) := by decide +kernel
theorem dX11_status_17 : decode cX11_status 17 = .ok (.aload_n 2, 1) := by decide +kernel
theorem dX11_status_18 : decode cX11_status 18 = .ok (.aload_n 0, 1) := by decide +kernel
theorem dX11_status_19 : decode cX11_status 19 = .ok (.getfield 10, 3) := by decide +kernel
theorem dX11_status_22 : decode cX11_status 22 = .ok (.getfield 66, 3) := by decide +kernel
theorem dX11_status_25 : decode cX11_status 25 = .ok (.invokevirtual 284, 3) := by decide +kernel
theorem dX11_status_28 : decode cX11_status 28 = .ok (.ireturn, 1) := by decide +kernel
def vc_X11_status (l0 : Nat) (l1 : Int32) (M : mj_M) (post : Int32 → mj_M → Prop) : Prop := mj_tag M l0 = 12 ∧ mj_tag M (mj_r M l0 3) = 8 ∧ vc_X7_find (mj_r M l0 3) l1 M (fun r3 M4 => if r3 = 0 then (post ((-1)) M4) else (mj_tag M4 l0 = 12 ∧ mj_tag M4 (mj_r M4 l0 0) = 5 ∧ mj_tag M4 r3 = 7 ∧ vc_X6_standingOn r3 (mj_i M4 (mj_r M4 l0 0) 0) M4 (fun r9 M10 => post r9 M10)))
set_option maxHeartbeats 4000000 in
set_option maxRecDepth 100000 in
theorem ct_X11_status {l : Launch} {base : Nat} {D : va_G} {A : mj_AT} (l0 : Nat) (l1 : Int32) (M : mj_M) (post : Int32 → mj_M → Prop) (h : vc_X11_status l0 l1 M post) : mj_Met l base D A mj_jI yX11_status cX11_status 3 (some .int) rm_X11_status 0 0 [vR l0, vI l1] M post := by
  refine mj_entry (by decide +kernel) (Nat.le_of_ble_eq_true rfl) (fun g hC hE h1 h2 h3 h4 => ?_)
  show mj_X g 0 [(0, vR l0), (1, vI l1)] [] M 0 0
  simp only [vc_X11_status] at h
  refine mx_aload_n (j := 0) hC dX11_status_0 rfl rfl ?_
  obtain ⟨ht1, h⟩ := h
  refine mx_get (v := vR (mj_r M l0 3)) hC tf_X11_33 ht1 rfl dX11_status_1 ?_
  refine mx_iload_n (j := 1) hC dX11_status_4 rfl rfl ?_
  obtain ⟨ht2, h⟩ := h
  refine mx_callV (inj := mj_jR) (As := [vI l1]) (st := []) hC (ct_X7_find (mj_r M l0 3) l1 M _ h) ty_X7_find tw787 ht2 rfl (Nat.le_of_ble_eq_true rfl) ⟨rfl, rfl, ⟨by decide, by decide⟩, by decide, by decide⟩ dX11_status_5 (fun r3 M4 h => ?_)
  show mj_X g 8 [(0, vR l0), (1, vI l1)] [vR r3] M4 0 0
  refine mx_astore_n (L' := [(2, vR r3), (0, vR l0), (1, vI l1)]) hC dX11_status_8 rfl (by decide) rfl ?_
  refine mx_aload_n (j := 0) hC dX11_status_9 rfl rfl ?_
  refine mx_ifnonnull (tgt := 17) hC dX11_status_10 (by decide) (fun hc5 => ?_) (fun hc5 => ?_)
  · replace h := mj_nn hc5 h
    refine mx_aload_n (j := 0) hC dX11_status_17 rfl rfl ?_
    refine mx_aload_n (j := 1) hC dX11_status_18 rfl rfl ?_
    obtain ⟨ht6, h⟩ := h
    refine mx_get (v := vR (mj_r M4 l0 0)) hC tf_X11_10 ht6 rfl dX11_status_19 ?_
    obtain ⟨ht7, h⟩ := h
    refine mx_get (v := vI (mj_i M4 (mj_r M4 l0 0) 0)) hC tf_X11_66 ht7 rfl dX11_status_22 ?_
    obtain ⟨ht8, h⟩ := h
    refine mx_callV (inj := mj_jI) (As := [vI (mj_i M4 (mj_r M4 l0 0) 0)]) (st := []) hC (ct_X6_standingOn r3 (mj_i M4 (mj_r M4 l0 0) 0) M4 _ h) ty_X6_standingOn tw791 ht8 rfl (Nat.le_of_ble_eq_true rfl) ⟨rfl, rfl, ⟨by decide, by decide⟩, by decide, by decide⟩ dX11_status_25 (fun r9 M10 h => ?_)
    show mj_X g 28 [(2, vR r3), (0, vR l0), (1, vI l1)] [vI r9] M10 0 0
    exact mx_iret hC hE rfl dX11_status_28 h
  · replace h := mj_yy hc5 h
    refine mx_iconst (v := (-1)) hC dX11_status_13 (by decide) ?_
    refine mx_goto (tgt := 28) hC dX11_status_14 (by decide) ?_
    exact mx_iret hC hE rfl dX11_status_28 h
theorem tw754 : (Jvm.Cond.fieldLink "LeaseLand" (287 : Nat) "LeaseLand$Notice" "giver" "LLeaseLand$Holding;") ∈ mj_tbl := mj_w 760 (by decide +kernel) (by decide +kernel)
theorem tf_X11_287 : mj_F 6 1 (.object "LeaseLand$Holding") true "LeaseLand" 287 := ⟨_, tk6, by decide, rfl, rfl, rfl, tw754⟩
theorem tw757 : (Jvm.Cond.fieldLink "LeaseLand" (290 : Nat) "LeaseLand$Notice" "kind" "I") ∈ mj_tbl := mj_w 763 (by decide +kernel) (by decide +kernel)
theorem tf_X11_290 : mj_F 6 2 .int true "LeaseLand" 290 := ⟨_, tk6, by decide, rfl, rfl, rfl, tw757⟩
theorem tw800 : (Jvm.Cond.methodLink "LeaseLand" (293 : Nat) ({ cls := "LeaseLand$Land", name := "canLengthen", desc := "(LLeaseLand$Holding;)Z" } : Jvm.MethodName)) ∈ mj_tbl := mj_w 806 (by decide +kernel) (by decide +kernel)
theorem tw815 : (Jvm.Cond.methodLink "LeaseLand" (296 : Nat) ({ cls := "LeaseLand$Land", name := "lengthen", desc := "(LLeaseLand$Holding;)V" } : Jvm.MethodName)) ∈ mj_tbl := mj_w 821 (by decide +kernel) (by decide +kernel)
theorem tw819 : (Jvm.Cond.methodLink "LeaseLand" (300 : Nat) ({ cls := "LeaseLand$Land", name := "canBuyOut", desc := "(LLeaseLand$Holding;)Z" } : Jvm.MethodName)) ∈ mj_tbl := mj_w 825 (by decide +kernel) (by decide +kernel)
theorem tw823 : (Jvm.Cond.methodLink "LeaseLand" (303 : Nat) ({ cls := "LeaseLand$Land", name := "buyOut", desc := "(LLeaseLand$Holding;)V" } : Jvm.MethodName)) ∈ mj_tbl := mj_w 829 (by decide +kernel) (by decide +kernel)
theorem tw826 : (Jvm.Cond.code ({ cls := "LeaseLand$Land", name := "buyOut", desc := "(LLeaseLand$Holding;)V" } : Jvm.MethodName) prog_6_method_28_code (4 : Nat) (Option.none : Option Jvm.ClassFile.FieldType)) ∈ mj_tbl := mj_w 832 (by decide +kernel) (by decide +kernel)
theorem tw824 : (Jvm.Cond.instanceMethod ({ cls := "LeaseLand$Land", name := "buyOut", desc := "(LLeaseLand$Holding;)V" } : Jvm.MethodName)) ∈ mj_tbl := mj_w 830 (by decide +kernel) (by decide +kernel)
theorem tw825 : (Jvm.Cond.selects "LeaseLand$Land" ({ cls := "LeaseLand$Land", name := "buyOut", desc := "(LLeaseLand$Holding;)V" } : Jvm.MethodName) ({ cls := "LeaseLand$Land", name := "buyOut", desc := "(LLeaseLand$Holding;)V" } : Jvm.MethodName)) ∈ mj_tbl := mj_w 831 (by decide +kernel) (by decide +kernel)
theorem ty_X4_buyOut : mj_YV 4 yX4_buyOut cX4_buyOut 4 (none) 1 := ⟨⟨tw826, tw2, by decide +kernel, by decide +kernel, by decide +kernel⟩, tw824, tw825, _, rfl, rfl⟩
theorem tw822 : (Jvm.Cond.code ({ cls := "LeaseLand$Land", name := "canBuyOut", desc := "(LLeaseLand$Holding;)Z" } : Jvm.MethodName) prog_6_method_27_code (3 : Nat) (Option.some Jvm.ClassFile.FieldType.boolean)) ∈ mj_tbl := mj_w 828 (by decide +kernel) (by decide +kernel)
theorem tw820 : (Jvm.Cond.instanceMethod ({ cls := "LeaseLand$Land", name := "canBuyOut", desc := "(LLeaseLand$Holding;)Z" } : Jvm.MethodName)) ∈ mj_tbl := mj_w 826 (by decide +kernel) (by decide +kernel)
theorem tw821 : (Jvm.Cond.selects "LeaseLand$Land" ({ cls := "LeaseLand$Land", name := "canBuyOut", desc := "(LLeaseLand$Holding;)Z" } : Jvm.MethodName) ({ cls := "LeaseLand$Land", name := "canBuyOut", desc := "(LLeaseLand$Holding;)Z" } : Jvm.MethodName)) ∈ mj_tbl := mj_w 827 (by decide +kernel) (by decide +kernel)
theorem ty_X4_canBuyOut : mj_YV 4 yX4_canBuyOut cX4_canBuyOut 3 (some .boolean) 1 := ⟨⟨tw822, tw2, by decide +kernel, by decide +kernel, by decide +kernel⟩, tw820, tw821, _, rfl, rfl⟩
theorem tw803 : (Jvm.Cond.code ({ cls := "LeaseLand$Land", name := "canLengthen", desc := "(LLeaseLand$Holding;)Z" } : Jvm.MethodName) prog_6_method_24_code (4 : Nat) (Option.some Jvm.ClassFile.FieldType.boolean)) ∈ mj_tbl := mj_w 809 (by decide +kernel) (by decide +kernel)
theorem tw801 : (Jvm.Cond.instanceMethod ({ cls := "LeaseLand$Land", name := "canLengthen", desc := "(LLeaseLand$Holding;)Z" } : Jvm.MethodName)) ∈ mj_tbl := mj_w 807 (by decide +kernel) (by decide +kernel)
theorem tw802 : (Jvm.Cond.selects "LeaseLand$Land" ({ cls := "LeaseLand$Land", name := "canLengthen", desc := "(LLeaseLand$Holding;)Z" } : Jvm.MethodName) ({ cls := "LeaseLand$Land", name := "canLengthen", desc := "(LLeaseLand$Holding;)Z" } : Jvm.MethodName)) ∈ mj_tbl := mj_w 808 (by decide +kernel) (by decide +kernel)
theorem ty_X4_canLengthen : mj_YV 4 yX4_canLengthen cX4_canLengthen 4 (some .boolean) 1 := ⟨⟨tw803, tw2, by decide +kernel, by decide +kernel, by decide +kernel⟩, tw801, tw802, _, rfl, rfl⟩
theorem tw818 : (Jvm.Cond.code ({ cls := "LeaseLand$Land", name := "lengthen", desc := "(LLeaseLand$Holding;)V" } : Jvm.MethodName) prog_6_method_25_code (4 : Nat) (Option.none : Option Jvm.ClassFile.FieldType)) ∈ mj_tbl := mj_w 824 (by decide +kernel) (by decide +kernel)
theorem tw816 : (Jvm.Cond.instanceMethod ({ cls := "LeaseLand$Land", name := "lengthen", desc := "(LLeaseLand$Holding;)V" } : Jvm.MethodName)) ∈ mj_tbl := mj_w 822 (by decide +kernel) (by decide +kernel)
theorem tw817 : (Jvm.Cond.selects "LeaseLand$Land" ({ cls := "LeaseLand$Land", name := "lengthen", desc := "(LLeaseLand$Holding;)V" } : Jvm.MethodName) ({ cls := "LeaseLand$Land", name := "lengthen", desc := "(LLeaseLand$Holding;)V" } : Jvm.MethodName)) ∈ mj_tbl := mj_w 823 (by decide +kernel) (by decide +kernel)
theorem ty_X4_lengthen : mj_YV 4 yX4_lengthen cX4_lengthen 4 (none) 1 := ⟨⟨tw818, tw2, by decide +kernel, by decide +kernel, by decide +kernel⟩, tw816, tw817, _, rfl, rfl⟩
def rm_X11_carry : Room := { frames := 5, cells := 0, slots := 0, locals := 116 }
theorem dX11_carry_0 : decode cX11_carry 0 = .ok (.aload_n 0, 1) := by decide +kernel
theorem dX11_carry_1 : decode cX11_carry 1 = .ok (.getfield 33, 3) := by decide +kernel
theorem dX11_carry_4 : decode cX11_carry 4 = .ok (.iload_n 1, 1) := by decide +kernel
theorem dX11_carry_5 : decode cX11_carry 5 = .ok (.invokevirtual 270, 3) := by decide +kernel
theorem dX11_carry_8 : decode cX11_carry 8 = .ok (.astore_n 2, 1) := by decide +kernel
theorem dX11_carry_9 : decode cX11_carry 9 = .ok (.aload_n 2, 1) := by decide +kernel
theorem dX11_carry_10 : decode cX11_carry 10 = .ok (.ifnonnull 5, 3) := by decide +kernel
theorem dX11_carry_13 : decode cX11_carry 13 = .ok (.iconst (-1), 1) := by decide +kernel
theorem dX11_carry_14 : decode cX11_carry 14 = .ok (.ireturn, 1) := by decide +kernel
theorem dX11_carry_15 : decode cX11_carry 15 = .ok (.aload_n 2, 1) := by decide +kernel
theorem dX11_carry_16 : decode cX11_carry 16 = .ok (.aload_n 0, 1) := by decide +kernel
theorem dX11_carry_17 : decode cX11_carry 17 = .ok (.getfield 10, 3) := by decide +kernel
theorem dX11_carry_20 : decode cX11_carry 20 = .ok (.getfield 66, 3) := by decide +kernel
theorem dX11_carry_23 : decode cX11_carry 23 = .ok (.invokevirtual 284, 3) := by decide +kernel
theorem dX11_carry_26 : decode cX11_carry 26 = .ok (.iconst 1, 1) := by decide +kernel
theorem dX11_carry_27 : decode cX11_carry 27 = .ok (.if_icmp .ne 17, 3) := by decide +kernel
theorem dX11_carry_30 : decode cX11_carry 30 = .ok (.aload_n 0, 1) := by decide +kernel
theorem dX11_carry_31 : decode cX11_carry 31 = .ok (.getfield 10, 3) := by decide +kernel
theorem dX11_carry_34 : decode cX11_carry 34 = .ok (.aload_n 2, 1) := by decide +kernel
theorem dX11_carry_35 : decode cX11_carry 35 = .ok (.getfield 287, 3) := by decide +kernel
theorem dX11_carry_38 : decode cX11_carry 38 = .ok (.invokevirtual 111, 3) := by decide +kernel
theorem dX11_carry_41 : decode cX11_carry 41 = .ok (.ifCond .ne 6, 3) := by decide +kernel
theorem dX11_carry_44 : decode cX11_carry 44 = .ok (.bipush (-3), 2) := by decide +kernel
theorem dX11_carry_46 : decode cX11_carry 46 = .ok (.ireturn, 1) := by decide +kernel
theorem dX11_carry_47 : decode cX11_carry 47 = .ok (.aload_n 2, 1) := by decide +kernel
theorem dX11_carry_48 : decode cX11_carry 48 = .ok (.getfield 290, 3) := by decide +kernel
theorem dX11_carry_51 : decode cX11_carry 51 = .ok (.ifCond .ne 34, 3) := by decide +kernel
theorem dX11_carry_54 : decode cX11_carry 54 = .ok (.aload_n 0, 1) := by decide +kernel
theorem dX11_carry_55 : decode cX11_carry 55 = .ok (.getfield 10, 3) := by decide +kernel
theorem dX11_carry_58 : decode cX11_carry 58 = .ok (.aload_n 2, 1) := by decide +kernel
theorem dX11_carry_59 : decode cX11_carry 59 = .ok (.getfield 287, 3) := by decide +kernel
theorem dX11_carry_62 : decode cX11_carry 62 = .ok (.invokevirtual 293, 3) := by decide +kernel
theorem dX11_carry_65 : decode cX11_carry 65 = .ok (.ifCond .ne 6, 3) := by decide +kernel
theorem dX11_carry_68 : decode cX11_carry 68 = .ok (.bipush (-5), 2) := by decide +kernel
theorem dX11_carry_70 : decode cX11_carry 70 = .ok (.ireturn, 1) := by decide +kernel
theorem dX11_carry_71 : decode cX11_carry 71 = .ok (.aload_n 0, 1) := by decide +kernel
theorem dX11_carry_72 : decode cX11_carry 72 = .ok (.getfield 10, 3) := by decide +kernel
theorem dX11_carry_75 : decode cX11_carry 75 = .ok (.aload_n 2, 1) := by decide +kernel
theorem dX11_carry_76 : decode cX11_carry 76 = .ok (.getfield 287, 3) := by decide +kernel
theorem dX11_carry_79 : decode cX11_carry 79 = .ok (.invokevirtual 296, 3) := by decide +kernel
theorem dX11_carry_82 : decode cX11_carry 82 = .ok (.goto 31, 3) := by decide +kernel
theorem dX11_carry_85 : decode cX11_carry 85 = .ok (.aload_n 0, 1) := by decide +kernel
theorem dX11_carry_86 : decode cX11_carry 86 = .ok (.getfield 10, 3) := by decide +kernel
theorem dX11_carry_89 : decode cX11_carry 89 = .ok (.aload_n 2, 1) := by decide +kernel
theorem dX11_carry_90 : decode cX11_carry 90 = .ok (.getfield 287, 3) := by decide +kernel
theorem dX11_carry_93 : decode cX11_carry 93 = .ok (.invokevirtual 300, 3) := by decide +kernel
theorem dX11_carry_96 : decode cX11_carry 96 = .ok (.ifCond .ne 6, 3) := by decide +kernel
theorem dX11_carry_99 : decode cX11_carry 99 = .ok (.bipush (-5), 2) := by decide +kernel
theorem dX11_carry_101 : decode cX11_carry 101 = .ok (.ireturn, 1) := by decide +kernel
theorem dX11_carry_102 : decode cX11_carry 102 = .ok (.aload_n 0, 1) := by decide +kernel
theorem dX11_carry_103 : decode cX11_carry 103 = .ok (.getfield 10, 3) := by decide +kernel
theorem dX11_carry_106 : decode cX11_carry 106 = .ok (.aload_n 2, 1) := by decide +kernel
theorem dX11_carry_107 : decode cX11_carry 107 = .ok (.getfield 287, 3) := by decide +kernel
theorem dX11_carry_110 : decode cX11_carry 110 = .ok (.invokevirtual 303, 3) := by decide +kernel
theorem dX11_carry_113 : decode cX11_carry 113 = .ok (.aload_n 2, 1) := by decide +kernel
theorem dX11_carry_114 : decode cX11_carry 114 = .ok (.iconst 4, 1) := by decide +kernel
theorem dX11_carry_115 : decode cX11_carry 115 = .ok (.putfield 278, 3) := by decide +kernel
theorem dX11_carry_118 : decode cX11_carry 118 = .ok (.iconst 1, 1) := by decide +kernel
theorem dX11_carry_119 : decode cX11_carry 119 = .ok (.ireturn, 1) := by decide +kernel
def vc_X11_carry (l0 : Nat) (l1 : Int32) (M : mj_M) (post : Int32 → mj_M → Prop) : Prop := mj_tag M l0 = 12 ∧ mj_tag M (mj_r M l0 3) = 8 ∧ vc_X7_find (mj_r M l0 3) l1 M (fun r3 M4 => if r3 = 0 then (post ((-1)) M4) else (mj_tag M4 l0 = 12 ∧ mj_tag M4 (mj_r M4 l0 0) = 5 ∧ mj_tag M4 r3 = 7 ∧ vc_X6_standingOn r3 (mj_i M4 (mj_r M4 l0 0) 0) M4 (fun r9 M10 => if r9 = 1 then (mj_tag M10 l0 = 12 ∧ mj_tag M10 r3 = 7 ∧ mj_tag M10 (mj_r M10 l0 0) = 5 ∧ vc_X4_isInForce (mj_r M10 l0 0) (mj_r M10 r3 1) M10 (fun r15 M16 => if r15 = true then (mj_tag M16 r3 = 7 ∧ if (mj_i M16 r3 2) = 0 then (mj_tag M16 l0 = 12 ∧ mj_tag M16 (mj_r M16 l0 0) = 5 ∧ vc_X4_canLengthen (mj_r M16 l0 0) (mj_r M16 r3 1) M16 (fun r32 M33 => if r32 = true then (mj_tag M33 l0 = 12 ∧ mj_tag M33 r3 = 7 ∧ mj_tag M33 (mj_r M33 l0 0) = 5 ∧ vc_X4_lengthen (mj_r M33 l0 0) (mj_r M33 r3 1) M33 (fun _ M38 => mj_tag M38 r3 = 7 ∧ post 1 (mj_wi M38 r3 4 4))) else (post ((-5)) M33))) else (mj_tag M16 l0 = 12 ∧ mj_tag M16 (mj_r M16 l0 0) = 5 ∧ vc_X4_canBuyOut (mj_r M16 l0 0) (mj_r M16 r3 1) M16 (fun r22 M23 => if r22 = true then (mj_tag M23 l0 = 12 ∧ mj_tag M23 r3 = 7 ∧ mj_tag M23 (mj_r M23 l0 0) = 5 ∧ vc_X4_buyOut (mj_r M23 l0 0) (mj_r M23 r3 1) M23 (fun _ M28 => mj_tag M28 r3 = 7 ∧ post 1 (mj_wi M28 r3 4 4))) else (post ((-5)) M23)))) else (post ((-3)) M16))) else (post ((-3)) M10))))
set_option maxHeartbeats 4000000 in
set_option maxRecDepth 100000 in
theorem ct_X11_carry {l : Launch} {base : Nat} {D : va_G} {A : mj_AT} (l0 : Nat) (l1 : Int32) (M : mj_M) (post : Int32 → mj_M → Prop) (h : vc_X11_carry l0 l1 M post) : mj_Met l base D A mj_jI yX11_carry cX11_carry 3 (some .int) rm_X11_carry 0 0 [vR l0, vI l1] M post := by
  refine mj_entry (by decide +kernel) (Nat.le_of_ble_eq_true rfl) (fun g hC hE h1 h2 h3 h4 => ?_)
  show mj_X g 0 [(0, vR l0), (1, vI l1)] [] M 0 0
  simp only [vc_X11_carry] at h
  refine mx_aload_n (j := 0) hC dX11_carry_0 rfl rfl ?_
  obtain ⟨ht1, h⟩ := h
  refine mx_get (v := vR (mj_r M l0 3)) hC tf_X11_33 ht1 rfl dX11_carry_1 ?_
  refine mx_iload_n (j := 1) hC dX11_carry_4 rfl rfl ?_
  obtain ⟨ht2, h⟩ := h
  refine mx_callV (inj := mj_jR) (As := [vI l1]) (st := []) hC (ct_X7_find (mj_r M l0 3) l1 M _ h) ty_X7_find tw787 ht2 rfl (Nat.le_of_ble_eq_true rfl) ⟨rfl, rfl, ⟨by decide, by decide⟩, by decide, by decide⟩ dX11_carry_5 (fun r3 M4 h => ?_)
  show mj_X g 8 [(0, vR l0), (1, vI l1)] [vR r3] M4 0 0
  refine mx_astore_n (L' := [(2, vR r3), (0, vR l0), (1, vI l1)]) hC dX11_carry_8 rfl (by decide) rfl ?_
  refine mx_aload_n (j := 0) hC dX11_carry_9 rfl rfl ?_
  refine mx_ifnonnull (tgt := 15) hC dX11_carry_10 (by decide) (fun hc5 => ?_) (fun hc5 => ?_)
  · replace h := mj_nn hc5 h
    refine mx_aload_n (j := 0) hC dX11_carry_15 rfl rfl ?_
    refine mx_aload_n (j := 1) hC dX11_carry_16 rfl rfl ?_
    obtain ⟨ht6, h⟩ := h
    refine mx_get (v := vR (mj_r M4 l0 0)) hC tf_X11_10 ht6 rfl dX11_carry_17 ?_
    obtain ⟨ht7, h⟩ := h
    refine mx_get (v := vI (mj_i M4 (mj_r M4 l0 0) 0)) hC tf_X11_66 ht7 rfl dX11_carry_20 ?_
    obtain ⟨ht8, h⟩ := h
    refine mx_callV (inj := mj_jI) (As := [vI (mj_i M4 (mj_r M4 l0 0) 0)]) (st := []) hC (ct_X6_standingOn r3 (mj_i M4 (mj_r M4 l0 0) 0) M4 _ h) ty_X6_standingOn tw791 ht8 rfl (Nat.le_of_ble_eq_true rfl) ⟨rfl, rfl, ⟨by decide, by decide⟩, by decide, by decide⟩ dX11_carry_23 (fun r9 M10 h => ?_)
    show mj_X g 26 [(2, vR r3), (0, vR l0), (1, vI l1)] [vI r9] M10 0 0
    refine mx_iconst (v := 1) hC dX11_carry_26 (by decide) ?_
    refine mx_icmpne (tgt := 44) hC dX11_carry_27 (by decide) (fun hc11 => ?_) (fun hc11 => ?_)
    · replace h := mj_nn hc11 h
      refine mx_bipush (v := (-3)) hC dX11_carry_44 (by decide) ?_
      exact mx_iret hC hE rfl dX11_carry_46 h
    · replace h := mj_yy hc11 h
      refine mx_aload_n (j := 1) hC dX11_carry_30 rfl rfl ?_
      obtain ⟨ht12, h⟩ := h
      refine mx_get (v := vR (mj_r M10 l0 0)) hC tf_X11_10 ht12 rfl dX11_carry_31 ?_
      refine mx_aload_n (j := 0) hC dX11_carry_34 rfl rfl ?_
      obtain ⟨ht13, h⟩ := h
      refine mx_get (v := vR (mj_r M10 r3 1)) hC tf_X11_287 ht13 rfl dX11_carry_35 ?_
      obtain ⟨ht14, h⟩ := h
      refine mx_callV (inj := mj_jB) (As := [vR (mj_r M10 r3 1)]) (st := []) hC (ct_X4_isInForce (mj_r M10 l0 0) (mj_r M10 r3 1) M10 _ h) ty_X4_isInForce tw649 ht14 rfl (Nat.le_of_ble_eq_true rfl) ⟨rfl, rfl, ⟨by decide, by decide⟩, by decide, by decide⟩ dX11_carry_38 (fun r15 M16 h => ?_)
      show mj_X g 41 [(2, vR r3), (0, vR l0), (1, vI l1)] [vI (mj_b r15)] M16 0 0
      refine mx_ifneB (tgt := 47) hC dX11_carry_41 (by decide) (fun hc17 => ?_) (fun hc17 => ?_)
      · replace h := mj_yy hc17 h
        refine mx_aload_n (j := 0) hC dX11_carry_47 rfl rfl ?_
        obtain ⟨ht18, h⟩ := h
        refine mx_get (v := vI (mj_i M16 r3 2)) hC tf_X11_290 ht18 rfl dX11_carry_48 ?_
        refine mx_ifne (tgt := 85) hC dX11_carry_51 (by decide) (fun hc19 => ?_) (fun hc19 => ?_)
        · replace h := mj_nn hc19 h
          refine mx_aload_n (j := 1) hC dX11_carry_85 rfl rfl ?_
          obtain ⟨ht20, h⟩ := h
          refine mx_get (v := vR (mj_r M16 l0 0)) hC tf_X11_10 ht20 rfl dX11_carry_86 ?_
          refine mx_aload_n (j := 0) hC dX11_carry_89 rfl rfl ?_
          refine mx_get (v := vR (mj_r M16 r3 1)) hC tf_X11_287 ht18 rfl dX11_carry_90 ?_
          obtain ⟨ht21, h⟩ := h
          refine mx_callV (inj := mj_jB) (As := [vR (mj_r M16 r3 1)]) (st := []) hC (ct_X4_canBuyOut (mj_r M16 l0 0) (mj_r M16 r3 1) M16 _ h) ty_X4_canBuyOut tw819 ht21 rfl (Nat.le_of_ble_eq_true rfl) ⟨rfl, rfl, ⟨by decide, by decide⟩, by decide, by decide⟩ dX11_carry_93 (fun r22 M23 h => ?_)
          show mj_X g 96 [(2, vR r3), (0, vR l0), (1, vI l1)] [vI (mj_b r22)] M23 0 0
          refine mx_ifneB (tgt := 102) hC dX11_carry_96 (by decide) (fun hc24 => ?_) (fun hc24 => ?_)
          · replace h := mj_yy hc24 h
            refine mx_aload_n (j := 1) hC dX11_carry_102 rfl rfl ?_
            obtain ⟨ht25, h⟩ := h
            refine mx_get (v := vR (mj_r M23 l0 0)) hC tf_X11_10 ht25 rfl dX11_carry_103 ?_
            refine mx_aload_n (j := 0) hC dX11_carry_106 rfl rfl ?_
            obtain ⟨ht26, h⟩ := h
            refine mx_get (v := vR (mj_r M23 r3 1)) hC tf_X11_287 ht26 rfl dX11_carry_107 ?_
            obtain ⟨ht27, h⟩ := h
            refine mx_callV (inj := mj_jV) (As := [vR (mj_r M23 r3 1)]) (st := []) hC (ct_X4_buyOut (mj_r M23 l0 0) (mj_r M23 r3 1) M23 _ h) ty_X4_buyOut tw823 ht27 rfl (Nat.le_of_ble_eq_true rfl) ⟨rfl, rfl, ⟨by decide, by decide⟩, by decide, by decide⟩ dX11_carry_110 (fun _ M28 h => ?_)
            show mj_X g 113 [(2, vR r3), (0, vR l0), (1, vI l1)] [] M28 0 0
            refine mx_aload_n (j := 0) hC dX11_carry_113 rfl rfl ?_
            refine mx_iconst (v := 4) hC dX11_carry_114 (by decide) ?_
            obtain ⟨ht29, h⟩ := h
            refine mx_put (v := vI 4) (M1 := mj_wi M28 r3 4 4) hC tf_X11_278 ht29 (Or.inl rfl) ⟨rfl, rfl⟩ (mj_off_wi _ _ _ _) mj_put_wi dX11_carry_115 ?_
            refine mx_iconst (v := 1) hC dX11_carry_118 (by decide) ?_
            exact mx_iret hC hE rfl dX11_carry_119 h
          · replace h := mj_nn hc24 h
            refine mx_bipush (v := (-5)) hC dX11_carry_99 (by decide) ?_
            exact mx_iret hC hE rfl dX11_carry_101 h
        · replace h := mj_yy hc19 h
          refine mx_aload_n (j := 1) hC dX11_carry_54 rfl rfl ?_
          obtain ⟨ht30, h⟩ := h
          refine mx_get (v := vR (mj_r M16 l0 0)) hC tf_X11_10 ht30 rfl dX11_carry_55 ?_
          refine mx_aload_n (j := 0) hC dX11_carry_58 rfl rfl ?_
          refine mx_get (v := vR (mj_r M16 r3 1)) hC tf_X11_287 ht18 rfl dX11_carry_59 ?_
          obtain ⟨ht31, h⟩ := h
          refine mx_callV (inj := mj_jB) (As := [vR (mj_r M16 r3 1)]) (st := []) hC (ct_X4_canLengthen (mj_r M16 l0 0) (mj_r M16 r3 1) M16 _ h) ty_X4_canLengthen tw800 ht31 rfl (Nat.le_of_ble_eq_true rfl) ⟨rfl, rfl, ⟨by decide, by decide⟩, by decide, by decide⟩ dX11_carry_62 (fun r32 M33 h => ?_)
          show mj_X g 65 [(2, vR r3), (0, vR l0), (1, vI l1)] [vI (mj_b r32)] M33 0 0
          refine mx_ifneB (tgt := 71) hC dX11_carry_65 (by decide) (fun hc34 => ?_) (fun hc34 => ?_)
          · replace h := mj_yy hc34 h
            refine mx_aload_n (j := 1) hC dX11_carry_71 rfl rfl ?_
            obtain ⟨ht35, h⟩ := h
            refine mx_get (v := vR (mj_r M33 l0 0)) hC tf_X11_10 ht35 rfl dX11_carry_72 ?_
            refine mx_aload_n (j := 0) hC dX11_carry_75 rfl rfl ?_
            obtain ⟨ht36, h⟩ := h
            refine mx_get (v := vR (mj_r M33 r3 1)) hC tf_X11_287 ht36 rfl dX11_carry_76 ?_
            obtain ⟨ht37, h⟩ := h
            refine mx_callV (inj := mj_jV) (As := [vR (mj_r M33 r3 1)]) (st := []) hC (ct_X4_lengthen (mj_r M33 l0 0) (mj_r M33 r3 1) M33 _ h) ty_X4_lengthen tw815 ht37 rfl (Nat.le_of_ble_eq_true rfl) ⟨rfl, rfl, ⟨by decide, by decide⟩, by decide, by decide⟩ dX11_carry_79 (fun _ M38 h => ?_)
            show mj_X g 82 [(2, vR r3), (0, vR l0), (1, vI l1)] [] M38 0 0
            refine mx_goto (tgt := 113) hC dX11_carry_82 (by decide) ?_
            refine mx_aload_n (j := 0) hC dX11_carry_113 rfl rfl ?_
            refine mx_iconst (v := 4) hC dX11_carry_114 (by decide) ?_
            obtain ⟨ht39, h⟩ := h
            refine mx_put (v := vI 4) (M1 := mj_wi M38 r3 4 4) hC tf_X11_278 ht39 (Or.inl rfl) ⟨rfl, rfl⟩ (mj_off_wi _ _ _ _) mj_put_wi dX11_carry_115 ?_
            refine mx_iconst (v := 1) hC dX11_carry_118 (by decide) ?_
            exact mx_iret hC hE rfl dX11_carry_119 h
          · replace h := mj_nn hc34 h
            refine mx_bipush (v := (-5)) hC dX11_carry_68 (by decide) ?_
            exact mx_iret hC hE rfl dX11_carry_70 h
      · replace h := mj_nn hc17 h
        refine mx_bipush (v := (-3)) hC dX11_carry_44 (by decide) ?_
        exact mx_iret hC hE rfl dX11_carry_46 h
  · replace h := mj_yy hc5 h
    refine mx_iconst (v := (-1)) hC dX11_carry_13 (by decide) ?_
    exact mx_iret hC hE rfl dX11_carry_14 h
theorem tw847 : (Jvm.Cond.methodLink "LeaseLand" (306 : Nat) ({ cls := "LeaseLand$Land", name := "isInTheWay", desc := "(LLeaseLand$Holding;II)Z" } : Jvm.MethodName)) ∈ mj_tbl := mj_w 853 (by decide +kernel) (by decide +kernel)
def rm_X11_stay : Room := { frames := 11, cells := 0, slots := 0, locals := 321 }
theorem dX11_stay_0 : decode cX11_stay 0 = .ok (.aload_n 0, 1) := by decide +kernel
theorem dX11_stay_1 : decode cX11_stay 1 = .ok (.getfield 10, 3) := by decide +kernel
theorem dX11_stay_4 : decode cX11_stay 4 = .ok (.iload_n 1, 1) := by decide +kernel
theorem dX11_stay_5 : decode cX11_stay 5 = .ok (.invokevirtual 93, 3) := by decide +kernel
theorem dX11_stay_8 : decode cX11_stay 8 = .ok (.astore_n 2, 1) := by decide +kernel
theorem dX11_stay_9 : decode cX11_stay 9 = .ok (.aload_n 2, 1) := by decide +kernel
theorem dX11_stay_10 : decode cX11_stay 10 = .ok (.ifnull 10, 3) := by decide +kernel
theorem dX11_stay_13 : decode cX11_stay 13 = .ok (.aload_n 2, 1) := by decide +kernel
theorem dX11_stay_14 : decode cX11_stay 14 = .ok (.getfield 132, 3) := by decide +kernel
theorem dX11_stay_17 : decode cX11_stay 17 = .ok (.ifnonnull 5, 3) := by decide +kernel
theorem dX11_stay_20 : decode cX11_stay 20 = .ok (.iconst (-1), 1) := by decide +kernel
theorem dX11_stay_21 : decode cX11_stay 21 = .ok (.ireturn, 1) := by decide +kernel
theorem dX11_stay_22 : decode cX11_stay 22 = .ok (.aload_n 2, 1) := by decide +kernel
theorem dX11_stay_23 : decode cX11_stay 23 = .ok (.getfield 160, 3) := by decide +kernel
theorem dX11_stay_26 : decode cX11_stay 26 = .ok (.ifCond .ne 17, 3) := by decide +kernel
theorem dX11_stay_29 : decode cX11_stay 29 = .ok (.aload_n 0, 1) := by decide +kernel
theorem dX11_stay_30 : decode cX11_stay 30 = .ok (.getfield 10, 3) := by decide +kernel
theorem dX11_stay_33 : decode cX11_stay 33 = .ok (.getfield 66, 3) := by decide +kernel
theorem dX11_stay_36 : decode cX11_stay 36 = .ok (.aload_n 2, 1) := by decide +kernel
theorem dX11_stay_37 : decode cX11_stay 37 = .ok (.getfield 153, 3) := by decide +kernel
theorem dX11_stay_40 : decode cX11_stay 40 = .ok (.if_icmp .le 6, 3) := by decide +kernel
theorem dX11_stay_43 : decode cX11_stay 43 = .ok (.bipush (-3), 2) := by decide +kernel
theorem dX11_stay_45 : decode cX11_stay 45 = .ok (.ireturn, 1) := by decide +kernel
theorem dX11_stay_46 : decode cX11_stay 46 = .ok (.aload_n 2, 1) := by decide +kernel
theorem dX11_stay_47 : decode cX11_stay 47 = .ok (.getfield 132, 3) := by decide +kernel
theorem dX11_stay_50 : decode cX11_stay 50 = .ok (.invokevirtual 156, 3) := by decide +kernel
theorem dX11_stay_53 : decode cX11_stay 53 = .ok (.istore_n 3, 1) := by decide +kernel
theorem dX11_stay_54 : decode cX11_stay 54 = .ok (.aload_n 0, 1) := by decide +kernel
theorem dX11_stay_55 : decode cX11_stay 55 = .ok (.aload_n 2, 1) := by decide +kernel
theorem dX11_stay_56 : decode cX11_stay 56 = .ok (.iconst 2, 1) := by decide +kernel
theorem dX11_stay_57 : decode cX11_stay 57 = .ok (.aload_n 2, 1) := by decide +kernel
theorem dX11_stay_58 : decode cX11_stay 58 = .ok (.getfield 153, 3) := by decide +kernel
theorem dX11_stay_61 : decode cX11_stay 61 = .ok (.iconst 1, 1) := by decide +kernel
theorem dX11_stay_62 : decode cX11_stay 62 = .ok (.isub, 1) := by decide +kernel
theorem dX11_stay_63 : decode cX11_stay 63 = .ok (.invokevirtual 256, 3) := by decide +kernel
theorem dX11_stay_66 : decode cX11_stay 66 = .ok (.ifCond .eq 19, 3) := by decide +kernel
theorem dX11_stay_69 : decode cX11_stay 69 = .ok (.aload_n 0, 1) := by decide +kernel
theorem dX11_stay_70 : decode cX11_stay 70 = .ok (.getfield 10, 3) := by decide +kernel
theorem dX11_stay_73 : decode cX11_stay 73 = .ok (.aload_n 2, 1) := by decide +kernel
theorem dX11_stay_74 : decode cX11_stay 74 = .ok (.aload_n 2, 1) := by decide +kernel
theorem dX11_stay_75 : decode cX11_stay 75 = .ok (.getfield 153, 3) := by decide +kernel
theorem dX11_stay_78 : decode cX11_stay 78 = .ok (.iload_n 3, 1) := by decide +kernel
theorem dX11_stay_79 : decode cX11_stay 79 = .ok (.invokevirtual 306, 3) := by decide +kernel
theorem dX11_stay_82 : decode cX11_stay 82 = .ok (.ifCond .eq 6, 3) := by decide +kernel
theorem dX11_stay_85 : decode cX11_stay 85 = .ok (.bipush (-5), 2) := by decide +kernel
theorem dX11_stay_87 : decode cX11_stay 87 = .ok (.ireturn, 1) := by decide +kernel
theorem dX11_stay_88 : decode cX11_stay 88 = .ok (.iload_n 3, 1) := by decide +kernel
theorem dX11_stay_89 : decode cX11_stay 89 = .ok (.aload_n 2, 1) := by decide +kernel
theorem dX11_stay_90 : decode cX11_stay 90 = .ok (.getfield 153, 3) := by decide +kernel
theorem dX11_stay_93 : decode cX11_stay 93 = .ok (.isub, 1) := by decide +kernel
theorem dX11_stay_94 : decode cX11_stay 94 = .ok (.istore 4, 2) := by decide +kernel
theorem dX11_stay_96 : decode cX11_stay 96 = .ok (.aload_n 2, 1) := by decide +kernel
theorem dX11_stay_97 : decode cX11_stay 97 = .ok (.iload_n 3, 1) := by decide +kernel
theorem dX11_stay_98 : decode cX11_stay 98 = .ok (.putfield 153, 3) := by decide +kernel
theorem dX11_stay_101 : decode cX11_stay 101 = .ok (.iload 4, 2) := by decide +kernel
theorem dX11_stay_103 : decode cX11_stay 103 = .ok (.ireturn, 1) := by decide +kernel
def vc_X11_stay (l0 : Nat) (l1 : Int32) (M : mj_M) (post : Int32 → mj_M → Prop) : Prop := mj_tag M l0 = 12 ∧ mj_tag M (mj_r M l0 0) = 5 ∧ vc_X4_find (mj_r M l0 0) l1 M (fun r3 M4 => if r3 = 0 then (post ((-1)) M4) else (mj_tag M4 r3 = 4 ∧ if (mj_r M4 r3 2) = 0 then (post ((-1)) M4) else (if (mj_i M4 r3 6) = 0 then (mj_tag M4 l0 = 12 ∧ mj_tag M4 (mj_r M4 l0 0) = 5 ∧ if (mj_i M4 (mj_r M4 l0 0) 0) ≤ (mj_i M4 r3 5) then (mj_tag M4 (mj_r M4 r3 2) = 4 ∧ vc_X3_until (mj_r M4 r3 2) M4 (fun r13 M14 => mj_tag M14 r3 = 4 ∧ mj_tag M14 l0 = 12 ∧ vc_X11_hasRight l0 r3 2 ((mj_i M14 r3 5) - 1) M14 (fun r17 M18 => if r17 = true then (mj_tag M18 l0 = 12 ∧ mj_tag M18 r3 = 4 ∧ mj_tag M18 (mj_r M18 l0 0) = 5 ∧ vc_X4_isInTheWay (mj_r M18 l0 0) r3 (mj_i M18 r3 5) r13 M18 (fun r23 M24 => if r23 = true then (post ((-5)) M24) else (mj_tag M24 r3 = 4 ∧ post (r13 - (mj_i M24 r3 5)) (mj_wi M24 r3 5 r13)))) else (post ((-5)) M18)))) else (post ((-3)) M4)) else (post ((-3)) M4))))
set_option maxHeartbeats 4000000 in
set_option maxRecDepth 100000 in
theorem ct_X11_stay {l : Launch} {base : Nat} {D : va_G} {A : mj_AT} (l0 : Nat) (l1 : Int32) (M : mj_M) (post : Int32 → mj_M → Prop) (h : vc_X11_stay l0 l1 M post) : mj_Met l base D A mj_jI yX11_stay cX11_stay 5 (some .int) rm_X11_stay 0 0 [vR l0, vI l1] M post := by
  refine mj_entry (by decide +kernel) (Nat.le_of_ble_eq_true rfl) (fun g hC hE h1 h2 h3 h4 => ?_)
  show mj_X g 0 [(0, vR l0), (1, vI l1)] [] M 0 0
  simp only [vc_X11_stay] at h
  refine mx_aload_n (j := 0) hC dX11_stay_0 rfl rfl ?_
  obtain ⟨ht1, h⟩ := h
  refine mx_get (v := vR (mj_r M l0 0)) hC tf_X11_10 ht1 rfl dX11_stay_1 ?_
  refine mx_iload_n (j := 1) hC dX11_stay_4 rfl rfl ?_
  obtain ⟨ht2, h⟩ := h
  refine mx_callV (inj := mj_jR) (As := [vI l1]) (st := []) hC (ct_X4_find (mj_r M l0 0) l1 M _ h) ty_X4_find tw377 ht2 rfl (Nat.le_of_ble_eq_true rfl) ⟨rfl, rfl, ⟨by decide, by decide⟩, by decide, by decide⟩ dX11_stay_5 (fun r3 M4 h => ?_)
  show mj_X g 8 [(0, vR l0), (1, vI l1)] [vR r3] M4 0 0
  refine mx_astore_n (L' := [(2, vR r3), (0, vR l0), (1, vI l1)]) hC dX11_stay_8 rfl (by decide) rfl ?_
  refine mx_aload_n (j := 0) hC dX11_stay_9 rfl rfl ?_
  refine mx_ifnull (tgt := 20) hC dX11_stay_10 (by decide) (fun hc5 => ?_) (fun hc5 => ?_)
  · replace h := mj_yy hc5 h
    refine mx_iconst (v := (-1)) hC dX11_stay_20 (by decide) ?_
    exact mx_iret hC hE rfl dX11_stay_21 h
  · replace h := mj_nn hc5 h
    refine mx_aload_n (j := 0) hC dX11_stay_13 rfl rfl ?_
    obtain ⟨ht6, h⟩ := h
    refine mx_get (v := vR (mj_r M4 r3 2)) hC tf_X11_132 ht6 rfl dX11_stay_14 ?_
    refine mx_ifnonnull (tgt := 22) hC dX11_stay_17 (by decide) (fun hc7 => ?_) (fun hc7 => ?_)
    · replace h := mj_nn hc7 h
      refine mx_aload_n (j := 0) hC dX11_stay_22 rfl rfl ?_
      refine mx_get (v := vI (mj_i M4 r3 6)) hC tf_X11_160 ht6 rfl dX11_stay_23 ?_
      refine mx_ifne (tgt := 43) hC dX11_stay_26 (by decide) (fun hc8 => ?_) (fun hc8 => ?_)
      · replace h := mj_nn hc8 h
        refine mx_bipush (v := (-3)) hC dX11_stay_43 (by decide) ?_
        exact mx_iret hC hE rfl dX11_stay_45 h
      · replace h := mj_yy hc8 h
        refine mx_aload_n (j := 1) hC dX11_stay_29 rfl rfl ?_
        obtain ⟨ht9, h⟩ := h
        refine mx_get (v := vR (mj_r M4 l0 0)) hC tf_X11_10 ht9 rfl dX11_stay_30 ?_
        obtain ⟨ht10, h⟩ := h
        refine mx_get (v := vI (mj_i M4 (mj_r M4 l0 0) 0)) hC tf_X11_66 ht10 rfl dX11_stay_33 ?_
        refine mx_aload_n (j := 0) hC dX11_stay_36 rfl rfl ?_
        refine mx_get (v := vI (mj_i M4 r3 5)) hC tf_X11_153 ht6 rfl dX11_stay_37 ?_
        refine mx_icmple (tgt := 46) hC dX11_stay_40 (by decide) (fun hc11 => ?_) (fun hc11 => ?_)
        · replace h := mj_yy hc11 h
          refine mx_aload_n (j := 0) hC dX11_stay_46 rfl rfl ?_
          refine mx_get (v := vR (mj_r M4 r3 2)) hC tf_X11_132 ht6 rfl dX11_stay_47 ?_
          obtain ⟨ht12, h⟩ := h
          refine mx_callV (inj := mj_jI) (As := []) (st := []) hC (ct_X3_until (mj_r M4 r3 2) M4 _ h) ty_X3_until tw419 ht12 rfl (Nat.le_of_ble_eq_true rfl) ⟨rfl, rfl, ⟨by decide, by decide⟩, by decide, by decide⟩ dX11_stay_50 (fun r13 M14 h => ?_)
          show mj_X g 53 [(2, vR r3), (0, vR l0), (1, vI l1)] [vI r13] M14 0 0
          refine mx_istore_n (L' := [(3, vI r13), (2, vR r3), (0, vR l0), (1, vI l1)]) hC dX11_stay_53 rfl (by decide) rfl ?_
          refine mx_aload_n (j := 2) hC dX11_stay_54 rfl rfl ?_
          refine mx_aload_n (j := 1) hC dX11_stay_55 rfl rfl ?_
          refine mx_iconst (v := 2) hC dX11_stay_56 (by decide) ?_
          refine mx_aload_n (j := 1) hC dX11_stay_57 rfl rfl ?_
          obtain ⟨ht15, h⟩ := h
          refine mx_get (v := vI (mj_i M14 r3 5)) hC tf_X11_153 ht15 rfl dX11_stay_58 ?_
          refine mx_iconst (v := 1) hC dX11_stay_61 (by decide) ?_
          refine mx_isub hC dX11_stay_62 ?_
          obtain ⟨ht16, h⟩ := h
          refine mx_callV (inj := mj_jB) (As := [vR r3, vI 2, vI ((mj_i M14 r3 5) - 1)]) (st := []) hC (ct_X11_hasRight l0 r3 2 ((mj_i M14 r3 5) - 1) M14 _ h) ty_X11_hasRight tw719 ht16 rfl (Nat.le_of_ble_eq_true rfl) ⟨rfl, rfl, ⟨by decide, by decide⟩, by decide, by decide⟩ dX11_stay_63 (fun r17 M18 h => ?_)
          show mj_X g 66 [(3, vI r13), (2, vR r3), (0, vR l0), (1, vI l1)] [vI (mj_b r17)] M18 0 0
          refine mx_ifeqB (tgt := 85) hC dX11_stay_66 (by decide) (fun hc19 => ?_) (fun hc19 => ?_)
          · replace h := mj_nn hc19 h
            refine mx_bipush (v := (-5)) hC dX11_stay_85 (by decide) ?_
            exact mx_iret hC hE rfl dX11_stay_87 h
          · replace h := mj_yy hc19 h
            refine mx_aload_n (j := 2) hC dX11_stay_69 rfl rfl ?_
            obtain ⟨ht20, h⟩ := h
            refine mx_get (v := vR (mj_r M18 l0 0)) hC tf_X11_10 ht20 rfl dX11_stay_70 ?_
            refine mx_aload_n (j := 1) hC dX11_stay_73 rfl rfl ?_
            refine mx_aload_n (j := 1) hC dX11_stay_74 rfl rfl ?_
            obtain ⟨ht21, h⟩ := h
            refine mx_get (v := vI (mj_i M18 r3 5)) hC tf_X11_153 ht21 rfl dX11_stay_75 ?_
            refine mx_iload_n (j := 0) hC dX11_stay_78 rfl rfl ?_
            obtain ⟨ht22, h⟩ := h
            refine mx_callV (inj := mj_jB) (As := [vR r3, vI (mj_i M18 r3 5), vI r13]) (st := []) hC (ct_X4_isInTheWay (mj_r M18 l0 0) r3 (mj_i M18 r3 5) r13 M18 _ h) ty_X4_isInTheWay tw847 ht22 rfl (Nat.le_of_ble_eq_true rfl) ⟨rfl, rfl, ⟨by decide, by decide⟩, by decide, by decide⟩ dX11_stay_79 (fun r23 M24 h => ?_)
            show mj_X g 82 [(3, vI r13), (2, vR r3), (0, vR l0), (1, vI l1)] [vI (mj_b r23)] M24 0 0
            refine mx_ifeqB (tgt := 88) hC dX11_stay_82 (by decide) (fun hc25 => ?_) (fun hc25 => ?_)
            · replace h := mj_nn hc25 h
              refine mx_iload_n (j := 0) hC dX11_stay_88 rfl rfl ?_
              refine mx_aload_n (j := 1) hC dX11_stay_89 rfl rfl ?_
              obtain ⟨ht26, h⟩ := h
              refine mx_get (v := vI (mj_i M24 r3 5)) hC tf_X11_153 ht26 rfl dX11_stay_90 ?_
              refine mx_isub hC dX11_stay_93 ?_
              refine mx_istore (L' := [(4, vI (r13 - (mj_i M24 r3 5))), (3, vI r13), (2, vR r3), (0, vR l0), (1, vI l1)]) hC dX11_stay_94 (by decide) rfl ?_
              refine mx_aload_n (j := 2) hC dX11_stay_96 rfl rfl ?_
              refine mx_iload_n (j := 1) hC dX11_stay_97 rfl rfl ?_
              refine mx_put (v := vI r13) (M1 := mj_wi M24 r3 5 r13) hC tf_X11_153 ht26 (Or.inl rfl) ⟨rfl, rfl⟩ (mj_off_wi _ _ _ _) mj_put_wi dX11_stay_98 ?_
              refine mx_iload (j := 0) hC dX11_stay_101 rfl ?_
              exact mx_iret hC hE rfl dX11_stay_103 h
            · replace h := mj_yy hc25 h
              refine mx_bipush (v := (-5)) hC dX11_stay_85 (by decide) ?_
              exact mx_iret hC hE rfl dX11_stay_87 h
        · replace h := mj_nn hc11 h
          refine mx_bipush (v := (-3)) hC dX11_stay_43 (by decide) ?_
          exact mx_iret hC hE rfl dX11_stay_45 h
    · replace h := mj_yy hc7 h
      refine mx_iconst (v := (-1)) hC dX11_stay_20 (by decide) ?_
      exact mx_iret hC hE rfl dX11_stay_21 h
theorem tw855 : (Jvm.Cond.constantLong "LeaseLand" (441 : Nat) (-1000000000000000 : Int64)) ∈ mj_tbl := mj_w 861 (by decide +kernel) (by decide +kernel)
def rm_X11_lost : Room := { frames := 0, cells := 0, slots := 0, locals := 0 }
theorem dX11_lost_0 : decode cX11_lost 0 = .ok (.ldc2_w 441, 3) := by decide +kernel
theorem dX11_lost_3 : decode cX11_lost 3 = .ok (.iload_n 0, 1) := by decide +kernel
theorem dX11_lost_4 : decode cX11_lost 4 = .ok (.i2l, 1) := by decide +kernel
theorem dX11_lost_5 : decode cX11_lost 5 = .ok (.ladd, 1) := by decide +kernel
theorem dX11_lost_6 : decode cX11_lost 6 = .ok (.lreturn, 1) := by decide +kernel
def vc_X11_lost (l0 : Int32) (M : mj_M) (post : Int64 → mj_M → Prop) : Prop := post (((-1000000000000000)) + ((l0 : Int32).toInt64)) M
set_option maxHeartbeats 4000000 in
set_option maxRecDepth 100000 in
theorem ct_X11_lost {l : Launch} {base : Nat} {D : va_G} {A : mj_AT} (l0 : Int32) (M : mj_M) (post : Int64 → mj_M → Prop) (h : vc_X11_lost l0 M post) : mj_Met l base D A mj_jL yX11_lost cX11_lost 1 (some .long) rm_X11_lost 0 0 [vI l0] M post := by
  refine mj_entry (by decide +kernel) (Nat.le_of_ble_eq_true rfl) (fun g hC hE h1 h2 h3 h4 => ?_)
  show mj_X g 0 [(0, vI l0)] [] M 0 0
  simp only [vc_X11_lost] at h
  refine mx_ldc2 (v := (-1000000000000000)) hC dX11_lost_0 tw855 ?_
  refine mx_iload_n (j := 0) hC dX11_lost_3 rfl rfl ?_
  refine mx_i2l hC dX11_lost_4 ?_
  refine mx_ladd hC dX11_lost_5 ?_
  exact mx_lret hC hE rfl dX11_lost_6 h
theorem tw163 : (Jvm.Cond.fieldLink "LeaseLand" (359 : Nat) "LeaseLand$Market" "losses" "J") ∈ mj_tbl := mj_w 169 (by decide +kernel) (by decide +kernel)
theorem tf_X11_359 : mj_F 5 8 .long false "LeaseLand" 359 := ⟨_, tk5, by decide, rfl, rfl, rfl, tw163⟩
theorem tw165 : (Jvm.Cond.fieldLink "LeaseLand" (363 : Nat) "LeaseLand$Market" "marriage" "J") ∈ mj_tbl := mj_w 171 (by decide +kernel) (by decide +kernel)
theorem tf_X11_363 : mj_F 5 9 .long false "LeaseLand" 363 := ⟨_, tk5, by decide, rfl, rfl, rfl, tw165⟩
theorem tw160 : (Jvm.Cond.fieldLink "LeaseLand" (366 : Nat) "LeaseLand$Market" "gain" "J") ∈ mj_tbl := mj_w 166 (by decide +kernel) (by decide +kernel)
theorem tf_X11_366 : mj_F 5 6 .long false "LeaseLand" 366 := ⟨_, tk5, by decide, rfl, rfl, rfl, tw160⟩
theorem tw852 : (Jvm.Cond.methodLink "LeaseLand" (190 : Nat) ({ cls := "LeaseLand", name := "lost", desc := "(I)J" } : Jvm.MethodName)) ∈ mj_tbl := mj_w 858 (by decide +kernel) (by decide +kernel)
theorem tw856 : (Jvm.Cond.methodLink "LeaseLand" (356 : Nat) ({ cls := "LeaseLand$Market", name := "appraise", desc := "(LLeaseLand$Holding;I)V" } : Jvm.MethodName)) ∈ mj_tbl := mj_w 862 (by decide +kernel) (by decide +kernel)
theorem tw854 : (Jvm.Cond.code ({ cls := "LeaseLand", name := "lost", desc := "(I)J" } : Jvm.MethodName) prog_1_method_70_code (1 : Nat) (Option.some Jvm.ClassFile.FieldType.long)) ∈ mj_tbl := mj_w 860 (by decide +kernel) (by decide +kernel)
theorem tw853 : (Jvm.Cond.static ({ cls := "LeaseLand", name := "lost", desc := "(I)J" } : Jvm.MethodName)) ∈ mj_tbl := mj_w 859 (by decide +kernel) (by decide +kernel)
theorem ty_X11_lost : mj_YS yX11_lost cX11_lost 1 (some .long) 1 := ⟨⟨tw854, tw1, by decide +kernel, by decide +kernel, by decide +kernel⟩, tw853⟩
theorem tw859 : (Jvm.Cond.code ({ cls := "LeaseLand$Market", name := "appraise", desc := "(LLeaseLand$Holding;I)V" } : Jvm.MethodName) prog_7_method_9_code (6 : Nat) (Option.none : Option Jvm.ClassFile.FieldType)) ∈ mj_tbl := mj_w 865 (by decide +kernel) (by decide +kernel)
theorem tw857 : (Jvm.Cond.instanceMethod ({ cls := "LeaseLand$Market", name := "appraise", desc := "(LLeaseLand$Holding;I)V" } : Jvm.MethodName)) ∈ mj_tbl := mj_w 863 (by decide +kernel) (by decide +kernel)
theorem tw858 : (Jvm.Cond.selects "LeaseLand$Market" ({ cls := "LeaseLand$Market", name := "appraise", desc := "(LLeaseLand$Holding;I)V" } : Jvm.MethodName) ({ cls := "LeaseLand$Market", name := "appraise", desc := "(LLeaseLand$Holding;I)V" } : Jvm.MethodName)) ∈ mj_tbl := mj_w 864 (by decide +kernel) (by decide +kernel)
theorem ty_X5_appraise : mj_YV 5 yX5_appraise cX5_appraise 6 (none) 2 := ⟨⟨tw859, tw8, by decide +kernel, by decide +kernel, by decide +kernel⟩, tw857, tw858, _, rfl, rfl⟩
def rm_X11_price : Room := { frames := 5, cells := 0, slots := 0, locals := 113 }
theorem dX11_price_0 : decode cX11_price 0 = .ok (.aload_n 0, 1) := by decide +kernel
theorem dX11_price_1 : decode cX11_price 1 = .ok (.getfield 10, 3) := by decide +kernel
theorem dX11_price_4 : decode cX11_price 4 = .ok (.iload_n 1, 1) := by decide +kernel
theorem dX11_price_5 : decode cX11_price 5 = .ok (.invokevirtual 121, 3) := by decide +kernel
theorem dX11_price_8 : decode cX11_price 8 = .ok (.astore_n 3, 1) := by decide +kernel
theorem dX11_price_9 : decode cX11_price 9 = .ok (.aload_n 3, 1) := by decide +kernel
theorem dX11_price_10 : decode cX11_price 10 = .ok (.ifnonnull 8, 3) := by decide +kernel
theorem dX11_price_13 : decode cX11_price 13 = .ok (.iconst (-1), 1) := by decide +kernel
theorem dX11_price_14 : decode cX11_price 14 = .ok (.invokestatic 190, 3) := by decide +kernel
theorem dX11_price_17 : decode cX11_price 17 = .ok (.lreturn, 1) := by decide +kernel
theorem dX11_price_18 : decode cX11_price 18 = .ok (.iload_n 2, 1) := by decide +kernel
theorem dX11_price_19 : decode cX11_price 19 = .ok (.ifCond .lt 8, 3) := by decide +kernel
theorem dX11_price_22 : decode cX11_price 22 = .ok (.iload_n 2, 1) := by decide +kernel
theorem dX11_price_23 : decode cX11_price 23 = .ok (.iconst 3, 1) := by decide +kernel
theorem dX11_price_24 : decode cX11_price 24 = .ok (.if_icmp .le 9, 3) := by decide +kernel
theorem dX11_price_27 : decode cX11_price 27 = .ok (.bipush (-2), 2) := by decide +kernel
theorem dX11_price_29 : decode cX11_price 29 = .ok (.invokestatic 190, 3) := by decide +kernel
theorem dX11_price_32 : decode cX11_price 32 = .ok (.lreturn, 1) := by decide +kernel
theorem dX11_price_33 : decode cX11_price 33 = .ok (.aload_n 0, 1) := by decide +kernel
theorem dX11_price_34 : decode cX11_price 34 = .ok (.getfield 10, 3) := by decide +kernel
theorem dX11_price_37 : decode cX11_price 37 = .ok (.aload_n 3, 1) := by decide +kernel
theorem dX11_price_38 : decode cX11_price 38 = .ok (.invokevirtual 111, 3) := by decide +kernel
theorem dX11_price_41 : decode cX11_price 41 = .ok (.ifCond .ne 9, 3) := by decide +kernel
theorem dX11_price_44 : decode cX11_price 44 = .ok (.bipush (-3), 2) := by decide +kernel
theorem dX11_price_46 : decode cX11_price 46 = .ok (.invokestatic 190, 3) := by decide +kernel
theorem dX11_price_49 : decode cX11_price 49 = .ok (.lreturn, 1) := by decide +kernel
theorem dX11_price_50 : decode cX11_price 50 = .ok (.aload_n 0, 1) := by decide +kernel
theorem dX11_price_51 : decode cX11_price 51 = .ok (.getfield 40, 3) := by decide +kernel
theorem dX11_price_54 : decode cX11_price 54 = .ok (.aload_n 3, 1) := by decide +kernel
theorem dX11_price_55 : decode cX11_price 55 = .ok (.aload_n 0, 1) := by decide +kernel
theorem dX11_price_56 : decode cX11_price 56 = .ok (.getfield 10, 3) := by decide +kernel
theorem dX11_price_59 : decode cX11_price 59 = .ok (.getfield 66, 3) := by decide +kernel
theorem dX11_price_62 : decode cX11_price 62 = .ok (.invokevirtual 356, 3) := by decide +kernel
theorem dX11_price_65 : decode cX11_price 65 = .ok (.iload_n 2, 1) := by decide +kernel
theorem dX11_price_66 : decode cX11_price 66 = .ok (.tableswitch 58 0 2 #[26, 42, 50], 26) := by decide +kernel
theorem dX11_price_92 : decode cX11_price 92 = .ok (.aload_n 0, 1) := by decide +kernel
theorem dX11_price_93 : decode cX11_price 93 = .ok (.getfield 40, 3) := by decide +kernel
theorem dX11_price_96 : decode cX11_price 96 = .ok (.getfield 359, 3) := by decide +kernel
theorem dX11_price_99 : decode cX11_price 99 = .ok (.aload_n 0, 1) := by decide +kernel
theorem dX11_price_100 : decode cX11_price 100 = .ok (.getfield 40, 3) := by decide +kernel
theorem dX11_price_103 : decode cX11_price 103 = .ok (.getfield 363, 3) := by decide +kernel
theorem dX11_price_106 : decode cX11_price 106 = .ok (.ladd, 1) := by decide +kernel
theorem dX11_price_107 : decode cX11_price 107 = .ok (.lreturn, 1) := by decide +kernel
theorem dX11_price_108 : decode cX11_price 108 = .ok (.aload_n 0, 1) := by decide +kernel
theorem dX11_price_109 : decode cX11_price 109 = .ok (.getfield 40, 3) := by decide +kernel
theorem dX11_price_112 : decode cX11_price 112 = .ok (.getfield 366, 3) := by decide +kernel
theorem dX11_price_115 : decode cX11_price 115 = .ok (.lreturn, 1) := by decide +kernel
theorem dX11_price_116 : decode cX11_price 116 = .ok (.aload_n 0, 1) := by decide +kernel
theorem dX11_price_117 : decode cX11_price 117 = .ok (.getfield 40, 3) := by decide +kernel
theorem dX11_price_120 : decode cX11_price 120 = .ok (.getfield 363, 3) := by decide +kernel
theorem dX11_price_123 : decode cX11_price 123 = .ok (.lreturn, 1) := by decide +kernel
theorem dX11_price_124 : decode cX11_price 124 = .ok (.aload_n 0, 1) := by decide +kernel
theorem dX11_price_125 : decode cX11_price 125 = .ok (.getfield 40, 3) := by decide +kernel
theorem dX11_price_128 : decode cX11_price 128 = .ok (.getfield 359, 3) := by decide +kernel
theorem dX11_price_131 : decode cX11_price 131 = .ok (.lreturn, 1) := by decide +kernel
def vb_X11_price_27 (post : Int64 → mj_M → Prop) (M : mj_M) : Prop := vc_X11_lost ((-2)) M (fun r1 M2 => post r1 M2)
def vc_X11_price (l0 : Nat) (l1 : Int32) (l2 : Int32) (M : mj_M) (post : Int64 → mj_M → Prop) : Prop := mj_tag M l0 = 12 ∧ mj_tag M (mj_r M l0 0) = 5 ∧ vc_X4_findLease (mj_r M l0 0) l1 M (fun r5 M6 => if r5 = 0 then (vc_X11_lost ((-1)) M6 (fun r32 M33 => post r32 M33)) else (if l2 < 0 then (vb_X11_price_27 post M6) else (if l2 ≤ 3 then (mj_tag M6 l0 = 12 ∧ mj_tag M6 (mj_r M6 l0 0) = 5 ∧ vc_X4_isInForce (mj_r M6 l0 0) r5 M6 (fun r12 M13 => if r12 = true then (mj_tag M13 l0 = 12 ∧ mj_tag M13 (mj_r M13 l0 0) = 5 ∧ mj_tag M13 (mj_r M13 l0 4) = 6 ∧ vc_X5_appraise (mj_r M13 l0 4) r5 (mj_i M13 (mj_r M13 l0 0) 0) M13 (fun _ M18 => if l2 = 0 then (mj_tag M18 l0 = 12 ∧ mj_tag M18 (mj_r M18 l0 4) = 6 ∧ post ((mj_l M18 (mj_r M18 l0 4) 8) + (mj_l M18 (mj_r M18 l0 4) 9)) M18) else (if l2 = 1 then (mj_tag M18 l0 = 12 ∧ mj_tag M18 (mj_r M18 l0 4) = 6 ∧ post (mj_l M18 (mj_r M18 l0 4) 6) M18) else (if l2 = 2 then (mj_tag M18 l0 = 12 ∧ mj_tag M18 (mj_r M18 l0 4) = 6 ∧ post (mj_l M18 (mj_r M18 l0 4) 9) M18) else (mj_tag M18 l0 = 12 ∧ mj_tag M18 (mj_r M18 l0 4) = 6 ∧ post (mj_l M18 (mj_r M18 l0 4) 8) M18))))) else (vc_X11_lost ((-3)) M13 (fun r30 M31 => post r30 M31)))) else (vb_X11_price_27 post M6))))
set_option maxHeartbeats 4000000 in
set_option maxRecDepth 100000 in
theorem xb_X11_price_27 {g : mj_G} {post : Int64 → mj_M → Prop} (hC : mj_C g yX11_price cX11_price 4 (some .long) rm_X11_price) (hE : mj_E g mj_jL post 0 0) (M : mj_M) (h : vb_X11_price_27 post M) : mj_X g 27 [] [] M 0 0 := by
  simp only [vb_X11_price_27] at h
  refine mx_bipush (v := (-2)) hC dX11_price_27 (by decide) ?_
  refine mx_callS (inj := mj_jL) (As := [vI ((-2))]) (st := []) hC (ct_X11_lost ((-2)) M _ h) ty_X11_lost tw852 rfl (Nat.le_of_ble_eq_true rfl) ⟨rfl, rfl, ⟨by decide, by decide⟩, by decide, by decide⟩ dX11_price_29 (fun r1 M2 h => ?_)
  show mj_X g 32 [] [vL r1] M2 0 0
  exact mx_lret hC hE rfl dX11_price_32 h
set_option maxHeartbeats 4000000 in
set_option maxRecDepth 100000 in
theorem ct_X11_price {l : Launch} {base : Nat} {D : va_G} {A : mj_AT} (l0 : Nat) (l1 : Int32) (l2 : Int32) (M : mj_M) (post : Int64 → mj_M → Prop) (h : vc_X11_price l0 l1 l2 M post) : mj_Met l base D A mj_jL yX11_price cX11_price 4 (some .long) rm_X11_price 0 0 [vR l0, vI l1, vI l2] M post := by
  refine mj_entry (by decide +kernel) (Nat.le_of_ble_eq_true rfl) (fun g hC hE h1 h2 h3 h4 => ?_)
  show mj_X g 0 [(0, vR l0), (1, vI l1), (2, vI l2)] [] M 0 0
  simp only [vc_X11_price] at h
  refine mx_aload_n (j := 0) hC dX11_price_0 rfl rfl ?_
  obtain ⟨ht3, h⟩ := h
  refine mx_get (v := vR (mj_r M l0 0)) hC tf_X11_10 ht3 rfl dX11_price_1 ?_
  refine mx_iload_n (j := 1) hC dX11_price_4 rfl rfl ?_
  obtain ⟨ht4, h⟩ := h
  refine mx_callV (inj := mj_jR) (As := [vI l1]) (st := []) hC (ct_X4_findLease (mj_r M l0 0) l1 M _ h) ty_X4_findLease tw447 ht4 rfl (Nat.le_of_ble_eq_true rfl) ⟨rfl, rfl, ⟨by decide, by decide⟩, by decide, by decide⟩ dX11_price_5 (fun r5 M6 h => ?_)
  show mj_X g 8 [(0, vR l0), (1, vI l1), (2, vI l2)] [vR r5] M6 0 0
  refine mx_astore_n (L' := [(3, vR r5), (0, vR l0), (1, vI l1), (2, vI l2)]) hC dX11_price_8 rfl (by decide) rfl ?_
  refine mx_aload_n (j := 0) hC dX11_price_9 rfl rfl ?_
  refine mx_ifnonnull (tgt := 18) hC dX11_price_10 (by decide) (fun hc7 => ?_) (fun hc7 => ?_)
  · replace h := mj_nn hc7 h
    refine mx_iload_n (j := 3) hC dX11_price_18 rfl rfl ?_
    refine mx_iflt (tgt := 27) hC dX11_price_19 (by decide) (fun hc8 => ?_) (fun hc8 => ?_)
    · replace h := mj_yy hc8 h
      refine mx_sub (L' := []) [] rfl ?_
      exact show mj_X g 27 [] [] M6 0 0 from (xb_X11_price_27 hC hE M6 h)
    · replace h := mj_nn hc8 h
      refine mx_iload_n (j := 3) hC dX11_price_22 rfl rfl ?_
      refine mx_iconst (v := 3) hC dX11_price_23 (by decide) ?_
      refine mx_icmple (tgt := 33) hC dX11_price_24 (by decide) (fun hc9 => ?_) (fun hc9 => ?_)
      · replace h := mj_yy hc9 h
        refine mx_aload_n (j := 1) hC dX11_price_33 rfl rfl ?_
        obtain ⟨ht10, h⟩ := h
        refine mx_get (v := vR (mj_r M6 l0 0)) hC tf_X11_10 ht10 rfl dX11_price_34 ?_
        refine mx_aload_n (j := 0) hC dX11_price_37 rfl rfl ?_
        obtain ⟨ht11, h⟩ := h
        refine mx_callV (inj := mj_jB) (As := [vR r5]) (st := []) hC (ct_X4_isInForce (mj_r M6 l0 0) r5 M6 _ h) ty_X4_isInForce tw649 ht11 rfl (Nat.le_of_ble_eq_true rfl) ⟨rfl, rfl, ⟨by decide, by decide⟩, by decide, by decide⟩ dX11_price_38 (fun r12 M13 h => ?_)
        show mj_X g 41 [(3, vR r5), (0, vR l0), (1, vI l1), (2, vI l2)] [vI (mj_b r12)] M13 0 0
        refine mx_ifneB (tgt := 50) hC dX11_price_41 (by decide) (fun hc14 => ?_) (fun hc14 => ?_)
        · replace h := mj_yy hc14 h
          refine mx_aload_n (j := 1) hC dX11_price_50 rfl rfl ?_
          obtain ⟨ht15, h⟩ := h
          refine mx_get (v := vR (mj_r M13 l0 4)) hC tf_X11_40 ht15 rfl dX11_price_51 ?_
          refine mx_aload_n (j := 0) hC dX11_price_54 rfl rfl ?_
          refine mx_aload_n (j := 1) hC dX11_price_55 rfl rfl ?_
          refine mx_get (v := vR (mj_r M13 l0 0)) hC tf_X11_10 ht15 rfl dX11_price_56 ?_
          obtain ⟨ht16, h⟩ := h
          refine mx_get (v := vI (mj_i M13 (mj_r M13 l0 0) 0)) hC tf_X11_66 ht16 rfl dX11_price_59 ?_
          obtain ⟨ht17, h⟩ := h
          refine mx_callV (inj := mj_jV) (As := [vR r5, vI (mj_i M13 (mj_r M13 l0 0) 0)]) (st := []) hC (ct_X5_appraise (mj_r M13 l0 4) r5 (mj_i M13 (mj_r M13 l0 0) 0) M13 _ h) ty_X5_appraise tw856 ht17 rfl (Nat.le_of_ble_eq_true rfl) ⟨rfl, rfl, ⟨by decide, by decide⟩, by decide, by decide⟩ dX11_price_62 (fun _ M18 h => ?_)
          show mj_X g 65 [(3, vR r5), (0, vR l0), (1, vI l1), (2, vI l2)] [] M18 0 0
          refine mx_iload_n (j := 3) hC dX11_price_65 rfl rfl ?_
          by_cases hc19 : l2 = 0
          · replace h := mj_yy hc19 h
            refine mx_tsin (v := 0) (off := 26) (tgt := 92) hC dX11_price_66 hc19 (by decide) (by decide) (by decide) (by decide) ?_
            refine mx_aload_n (j := 1) hC dX11_price_92 rfl rfl ?_
            obtain ⟨ht20, h⟩ := h
            refine mx_get (v := vR (mj_r M18 l0 4)) hC tf_X11_40 ht20 rfl dX11_price_93 ?_
            obtain ⟨ht21, h⟩ := h
            refine mx_get (v := vL (mj_l M18 (mj_r M18 l0 4) 8)) hC tf_X11_359 ht21 rfl dX11_price_96 ?_
            refine mx_aload_n (j := 1) hC dX11_price_99 rfl rfl ?_
            refine mx_get (v := vR (mj_r M18 l0 4)) hC tf_X11_40 ht20 rfl dX11_price_100 ?_
            refine mx_get (v := vL (mj_l M18 (mj_r M18 l0 4) 9)) hC tf_X11_363 ht21 rfl dX11_price_103 ?_
            refine mx_ladd hC dX11_price_106 ?_
            exact mx_lret hC hE rfl dX11_price_107 h
          replace h := mj_nn hc19 h
          by_cases hc22 : l2 = 1
          · replace h := mj_yy hc22 h
            refine mx_tsin (v := 1) (off := 42) (tgt := 108) hC dX11_price_66 hc22 (by decide) (by decide) (by decide) (by decide) ?_
            refine mx_aload_n (j := 1) hC dX11_price_108 rfl rfl ?_
            obtain ⟨ht23, h⟩ := h
            refine mx_get (v := vR (mj_r M18 l0 4)) hC tf_X11_40 ht23 rfl dX11_price_109 ?_
            obtain ⟨ht24, h⟩ := h
            refine mx_get (v := vL (mj_l M18 (mj_r M18 l0 4) 6)) hC tf_X11_366 ht24 rfl dX11_price_112 ?_
            exact mx_lret hC hE rfl dX11_price_115 h
          replace h := mj_nn hc22 h
          by_cases hc25 : l2 = 2
          · replace h := mj_yy hc25 h
            refine mx_tsin (v := 2) (off := 50) (tgt := 116) hC dX11_price_66 hc25 (by decide) (by decide) (by decide) (by decide) ?_
            refine mx_aload_n (j := 1) hC dX11_price_116 rfl rfl ?_
            obtain ⟨ht26, h⟩ := h
            refine mx_get (v := vR (mj_r M18 l0 4)) hC tf_X11_40 ht26 rfl dX11_price_117 ?_
            obtain ⟨ht27, h⟩ := h
            refine mx_get (v := vL (mj_l M18 (mj_r M18 l0 4) 9)) hC tf_X11_363 ht27 rfl dX11_price_120 ?_
            exact mx_lret hC hE rfl dX11_price_123 h
          replace h := mj_nn hc25 h
          refine mx_tsout (vs := [0, 1, 2]) (tgt := 124) hC dX11_price_66 (by decide) (by decide) (List.forall_mem_cons.mpr ⟨hc19, (List.forall_mem_cons.mpr ⟨hc22, (List.forall_mem_cons.mpr ⟨hc25, (fun _ q => absurd q List.not_mem_nil)⟩)⟩)⟩) ?_
          refine mx_aload_n (j := 1) hC dX11_price_124 rfl rfl ?_
          obtain ⟨ht28, h⟩ := h
          refine mx_get (v := vR (mj_r M18 l0 4)) hC tf_X11_40 ht28 rfl dX11_price_125 ?_
          obtain ⟨ht29, h⟩ := h
          refine mx_get (v := vL (mj_l M18 (mj_r M18 l0 4) 8)) hC tf_X11_359 ht29 rfl dX11_price_128 ?_
          exact mx_lret hC hE rfl dX11_price_131 h
        · replace h := mj_nn hc14 h
          refine mx_bipush (v := (-3)) hC dX11_price_44 (by decide) ?_
          refine mx_callS (inj := mj_jL) (As := [vI ((-3))]) (st := []) hC (ct_X11_lost ((-3)) M13 _ h) ty_X11_lost tw852 rfl (Nat.le_of_ble_eq_true rfl) ⟨rfl, rfl, ⟨by decide, by decide⟩, by decide, by decide⟩ dX11_price_46 (fun r30 M31 h => ?_)
          show mj_X g 49 [(3, vR r5), (0, vR l0), (1, vI l1), (2, vI l2)] [vL r30] M31 0 0
          exact mx_lret hC hE rfl dX11_price_49 h
      · replace h := mj_nn hc9 h
        refine mx_sub (L' := []) [] rfl ?_
        exact show mj_X g 27 [] [] M6 0 0 from (xb_X11_price_27 hC hE M6 h)
  · replace h := mj_yy hc7 h
    refine mx_iconst (v := (-1)) hC dX11_price_13 (by decide) ?_
    refine mx_callS (inj := mj_jL) (As := [vI ((-1))]) (st := []) hC (ct_X11_lost ((-1)) M6 _ h) ty_X11_lost tw852 rfl (Nat.le_of_ble_eq_true rfl) ⟨rfl, rfl, ⟨by decide, by decide⟩, by decide, by decide⟩ dX11_price_14 (fun r32 M33 h => ?_)
    show mj_X g 17 [(3, vR r5), (0, vR l0), (1, vI l1), (2, vI l2)] [vL r32] M33 0 0
    exact mx_lret hC hE rfl dX11_price_17 h
def rm_X11_isPersons : Room := { frames := 0, cells := 0, slots := 0, locals := 0 }
theorem dX11_isPersons_0 : decode cX11_isPersons 0 = .ok (.iload_n 0, 1) := by decide +kernel
theorem dX11_isPersons_1 : decode cX11_isPersons 1 = .ok (.ifCond .lt 14, 3) := by decide +kernel
theorem dX11_isPersons_4 : decode cX11_isPersons 4 = .ok (.iload_n 0, 1) := by decide +kernel
theorem dX11_isPersons_5 : decode cX11_isPersons 5 = .ok (.sipush 1024, 3) := by decide +kernel
theorem dX11_isPersons_8 : decode cX11_isPersons 8 = .ok (.if_icmp .ge 7, 3) := by decide +kernel
theorem dX11_isPersons_11 : decode cX11_isPersons 11 = .ok (.iconst 1, 1) := by decide +kernel
theorem dX11_isPersons_12 : decode cX11_isPersons 12 = .ok (.goto 4, 3) := by decide +kernel
theorem dX11_isPersons_15 : decode cX11_isPersons 15 = .ok (.iconst 0, 1) := by decide +kernel
theorem dX11_isPersons_16 : decode cX11_isPersons 16 = .ok (.ireturn, 1) := by decide +kernel
def vc_X11_isPersons (l0 : Int32) (M : mj_M) (post : Bool → mj_M → Prop) : Prop := if l0 < 0 then (post false M) else (if 1024 ≤ l0 then (post false M) else (post true M))
set_option maxHeartbeats 4000000 in
set_option maxRecDepth 100000 in
theorem ct_X11_isPersons {l : Launch} {base : Nat} {D : va_G} {A : mj_AT} (l0 : Int32) (M : mj_M) (post : Bool → mj_M → Prop) (h : vc_X11_isPersons l0 M post) : mj_Met l base D A mj_jB yX11_isPersons cX11_isPersons 1 (some .boolean) rm_X11_isPersons 0 0 [vI l0] M post := by
  refine mj_entry (by decide +kernel) (Nat.le_of_ble_eq_true rfl) (fun g hC hE h1 h2 h3 h4 => ?_)
  show mj_X g 0 [(0, vI l0)] [] M 0 0
  simp only [vc_X11_isPersons] at h
  refine mx_iload_n (j := 0) hC dX11_isPersons_0 rfl rfl ?_
  refine mx_iflt (tgt := 15) hC dX11_isPersons_1 (by decide) (fun hc1 => ?_) (fun hc1 => ?_)
  · replace h := mj_yy hc1 h
    refine mx_iconst (v := 0) hC dX11_isPersons_15 (by decide) ?_
    exact mx_zret (b := false) hC hE rfl dX11_isPersons_16 h
  · replace h := mj_nn hc1 h
    refine mx_iload_n (j := 0) hC dX11_isPersons_4 rfl rfl ?_
    refine mx_sipush (v := 1024) hC dX11_isPersons_5 (by decide) ?_
    refine mx_icmpge (tgt := 15) hC dX11_isPersons_8 (by decide) (fun hc2 => ?_) (fun hc2 => ?_)
    · replace h := mj_yy hc2 h
      refine mx_iconst (v := 0) hC dX11_isPersons_15 (by decide) ?_
      exact mx_zret (b := false) hC hE rfl dX11_isPersons_16 h
    · replace h := mj_nn hc2 h
      refine mx_iconst (v := 1) hC dX11_isPersons_11 (by decide) ?_
      refine mx_goto (tgt := 16) hC dX11_isPersons_12 (by decide) ?_
      exact mx_zret (b := true) hC hE rfl dX11_isPersons_16 h

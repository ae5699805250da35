/-! methods 3. By program (wip/gen) out of the bytecode: vc_KEY: what must hold of a call; ct_KEY: then the machine does it. -/
theorem tw753 : (Jvm.Cond.fieldLink "LeaseLand$Notices" (33 : Nat) "LeaseLand$Notice" "giver" "LLeaseLand$Holding;") ∈ mj_tbl := mj_w 759 (by decide +kernel) (by decide +kernel)
theorem tf_X7_33 : mj_F 6 1 (.object "LeaseLand$Holding") true "LeaseLand$Notices" 33 := ⟨_, tk6, by decide, rfl, rfl, rfl, tw753⟩
theorem tw756 : (Jvm.Cond.fieldLink "LeaseLand$Notices" (37 : Nat) "LeaseLand$Notice" "kind" "I") ∈ mj_tbl := mj_w 762 (by decide +kernel) (by decide +kernel)
theorem tf_X7_37 : mj_F 6 2 .int true "LeaseLand$Notices" 37 := ⟨_, tk6, by decide, rfl, rfl, rfl, tw756⟩
theorem tw760 : (Jvm.Cond.fieldLink "LeaseLand$Notices" (44 : Nat) "LeaseLand$Notice" "standing" "I") ∈ mj_tbl := mj_w 766 (by decide +kernel) (by decide +kernel)
theorem tf_X7_44 : mj_F 6 4 .int false "LeaseLand$Notices" 44 := ⟨_, tk6, by decide, rfl, rfl, rfl, tw760⟩
theorem tw762 : (Jvm.Cond.fieldLink "LeaseLand$Notices" (47 : Nat) "LeaseLand$Notice" "withdrawn" "I") ∈ mj_tbl := mj_w 768 (by decide +kernel) (by decide +kernel)
theorem tf_X7_47 : mj_F 6 5 .int false "LeaseLand$Notices" 47 := ⟨_, tk6, by decide, rfl, rfl, rfl, tw762⟩
theorem tw732 : (Jvm.Cond.methodLink "LeaseLand$Notices" (40 : Nat) ({ cls := "LeaseLand$Notice", name := "isAlive", desc := "(I)Z" } : Jvm.MethodName)) ∈ mj_tbl := mj_w 738 (by decide +kernel) (by decide +kernel)
theorem tw735 : (Jvm.Cond.code ({ cls := "LeaseLand$Notice", name := "isAlive", desc := "(I)Z" } : Jvm.MethodName) prog_8_method_3_code (3 : Nat) (Option.some Jvm.ClassFile.FieldType.boolean)) ∈ mj_tbl := mj_w 741 (by decide +kernel) (by decide +kernel)
theorem tw733 : (Jvm.Cond.instanceMethod ({ cls := "LeaseLand$Notice", name := "isAlive", desc := "(I)Z" } : Jvm.MethodName)) ∈ mj_tbl := mj_w 739 (by decide +kernel) (by decide +kernel)
theorem tw734 : (Jvm.Cond.selects "LeaseLand$Notice" ({ cls := "LeaseLand$Notice", name := "isAlive", desc := "(I)Z" } : Jvm.MethodName) ({ cls := "LeaseLand$Notice", name := "isAlive", desc := "(I)Z" } : Jvm.MethodName)) ∈ mj_tbl := mj_w 740 (by decide +kernel) (by decide +kernel)
theorem ty_X6_isAlive : mj_YV 6 yX6_isAlive cX6_isAlive 3 (some .boolean) 1 := ⟨⟨tw735, tw21, by decide +kernel, by decide +kernel, by decide +kernel⟩, tw733, tw734, _, rfl, rfl⟩
def rm_X7_lackOf : Room := { frames := 2, cells := 0, slots := 0, locals := 43 }
theorem dX7_lackOf_0 : decode cX7_lackOf 0 = .ok (.iconst 0, 1) := by decide +kernel
theorem dX7_lackOf_1 : decode cX7_lackOf 1 = .ok (.istore 4, 2) := by decide +kernel
theorem dX7_lackOf_3 : decode cX7_lackOf 3 = .ok (.aload_n 0, 1) := by decide +kernel
theorem dX7_lackOf_4 : decode cX7_lackOf 4 = .ok (.getfield 9, 3) := by decide +kernel
theorem dX7_lackOf_7 : decode cX7_lackOf 7 = .ok (.astore 5, 2) := by decide +kernel
theorem dX7_lackOf_9 : decode cX7_lackOf 9 = .ok (.aload 5, 2) := by decide +kernel
theorem dX7_lackOf_11 : decode cX7_lackOf 11 = .ok (.ifnull 84, 3) := by decide +kernel
theorem dX7_lackOf_14 : decode cX7_lackOf 14 = .ok (.aload 5, 2) := by decide +kernel
theorem dX7_lackOf_16 : decode cX7_lackOf 16 = .ok (.getfield 33, 3) := by decide +kernel
theorem dX7_lackOf_19 : decode cX7_lackOf 19 = .ok (.aload_n 1, 1) := by decide +kernel
theorem dX7_lackOf_20 : decode cX7_lackOf 20 = .ok (.if_acmp .ne 16, 3) := by decide +kernel
theorem dX7_lackOf_23 : decode cX7_lackOf 23 = .ok (.aload 5, 2) := by decide +kernel
theorem dX7_lackOf_25 : decode cX7_lackOf 25 = .ok (.getfield 37, 3) := by decide +kernel
theorem dX7_lackOf_28 : decode cX7_lackOf 28 = .ok (.iload_n 2, 1) := by decide +kernel
theorem dX7_lackOf_29 : decode cX7_lackOf 29 = .ok (.if_icmp .ne 7, 3) := by decide +kernel
theorem dX7_lackOf_32 : decode cX7_lackOf 32 = .ok (.iconst 1, 1) := by decide +kernel
theorem dX7_lackOf_33 : decode cX7_lackOf 33 = .ok (.goto 4, 3) := by decide +kernel
theorem dX7_lackOf_36 : decode cX7_lackOf 36 = .ok (.iconst 0, 1) := by decide +kernel
theorem dX7_lackOf_37 : decode cX7_lackOf 37 = .ok (.istore 6, 2) := by decide +kernel
theorem dX7_lackOf_39 : decode cX7_lackOf 39 = .ok (.iload 6, 2) := by decide +kernel
theorem dX7_lackOf_41 : decode cX7_lackOf 41 = .ok (.ifCond .eq 14, 3) := by decide +kernel
theorem dX7_lackOf_44 : decode cX7_lackOf 44 = .ok (.aload 5, 2) := by decide +kernel
theorem dX7_lackOf_46 : decode cX7_lackOf 46 = .ok (.iload_n 3, 1) := by decide +kernel
theorem dX7_lackOf_47 : decode cX7_lackOf 47 = .ok (.invokevirtual 40, 3) := by decide +kernel
theorem dX7_lackOf_50 : decode cX7_lackOf 50 = .ok (.ifCond .eq 5, 3) := by decide +kernel
theorem dX7_lackOf_53 : decode cX7_lackOf 53 = .ok (.iconst 2, 1) := by decide +kernel
theorem dX7_lackOf_54 : decode cX7_lackOf 54 = .ok (.ireturn, 1) := by decide +kernel
theorem dX7_lackOf_55 : decode cX7_lackOf 55 = .ok (.iload 6, 2) := by decide +kernel
theorem dX7_lackOf_57 : decode cX7_lackOf 57 = .ok (.ifCond .eq 28, 3) := by decide +kernel
theorem dX7_lackOf_60 : decode cX7_lackOf 60 = .ok (.aload 5, 2) := by decide +kernel
theorem dX7_lackOf_62 : decode cX7_lackOf 62 = .ok (.getfield 44, 3) := by decide +kernel
theorem dX7_lackOf_65 : decode cX7_lackOf 65 = .ok (.iconst 3, 1) := by decide +kernel
theorem dX7_lackOf_66 : decode cX7_lackOf 66 = .ok (.if_icmp .ne 19, 3) := by decide +kernel
theorem dX7_lackOf_69 : decode cX7_lackOf 69 = .ok (.iload_n 3, 1) := by decide +kernel
theorem dX7_lackOf_70 : decode cX7_lackOf 70 = .ok (.aload 5, 2) := by decide +kernel
theorem dX7_lackOf_72 : decode cX7_lackOf 72 = .ok (.getfield 47, 3) := by decide +kernel
theorem dX7_lackOf_75 : decode cX7_lackOf 75 = .ok (.isub, 1) := by decide +kernel
theorem dX7_lackOf_76 : decode cX7_lackOf 76 = .ok (.sipush 365, 3) := by decide +kernel
theorem dX7_lackOf_79 : decode cX7_lackOf 79 = .ok (.if_icmp .ge 6, 3) := by decide +kernel
theorem dX7_lackOf_82 : decode cX7_lackOf 82 = .ok (.iconst 3, 1) := by decide +kernel
theorem dX7_lackOf_83 : decode cX7_lackOf 83 = .ok (.istore 4, 2) := by decide +kernel
theorem dX7_lackOf_85 : decode cX7_lackOf 85 = .ok (.aload 5, 2) := by decide +kernel
theorem dX7_lackOf_87 : decode cX7_lackOf 87 = .ok (.getfield 21, 3) := by decide +kernel
theorem dX7_lackOf_90 : decode cX7_lackOf 90 = .ok (.astore 5, 2) := by decide +kernel
theorem dX7_lackOf_92 : decode cX7_lackOf 92 = .ok (.goto (-83), 3) := by decide +kernel
theorem dX7_lackOf_95 : decode cX7_lackOf 95 = .ok (.iload 4, 2) := by decide +kernel
theorem dX7_lackOf_97 : decode cX7_lackOf 97 = .ok (.ireturn, 1) := by decide +kernel
def vb_X7_lackOf_55 (k9 : Nat → Int32 → Int32 → Int32 → Nat → mj_M → Prop) (post : Int32 → mj_M → Prop) (l1 : Nat) (l2 : Int32) (l3 : Int32) (l4 : Int32) (l5 : Nat) (l6 : Bool) (M : mj_M) : Prop := if l6 = true then (mj_tag M l5 = 7 ∧ if (mj_i M l5 4) = 3 then (if 365 ≤ (l3 - (mj_i M l5 5)) then (k9 l1 l2 l3 l4 (mj_r M l5 6) M) else (k9 l1 l2 l3 3 (mj_r M l5 6) M)) else (k9 l1 l2 l3 l4 (mj_r M l5 6) M)) else (mj_tag M l5 = 7 ∧ k9 l1 l2 l3 l4 (mj_r M l5 6) M)
def vb_X7_lackOf_37 (k9 : Nat → Int32 → Int32 → Int32 → Nat → mj_M → Prop) (post : Int32 → mj_M → Prop) (l1 : Nat) (l2 : Int32) (l3 : Int32) (l4 : Int32) (l5 : Nat) (s0 : Bool) (M : mj_M) : Prop := if s0 = true then (mj_tag M l5 = 7 ∧ vc_X6_isAlive l5 l3 M (fun r8 M9 => if r8 = true then (post 2 M9) else (vb_X7_lackOf_55 k9 post l1 l2 l3 l4 l5 s0 M9))) else (vb_X7_lackOf_55 k9 post l1 l2 l3 l4 l5 s0 M)
def vb_X7_lackOf_36 (k9 : Nat → Int32 → Int32 → Int32 → Nat → mj_M → Prop) (post : Int32 → mj_M → Prop) (l1 : Nat) (l2 : Int32) (l3 : Int32) (l4 : Int32) (l5 : Nat) (M : mj_M) : Prop := vb_X7_lackOf_37 k9 post l1 l2 l3 l4 l5 false M
def vb_X7_lackOf_9 (post : Int32 → mj_M → Prop) : Nat → Nat → Int32 → Int32 → Int32 → Nat → mj_M → Prop
  | 0 => fun _ _ _ _ _ _ => False
  | f + 1 => fun l1 l2 l3 l4 l5 M => if l5 = 0 then (post l4 M) else (mj_tag M l5 = 7 ∧ if (mj_r M l5 1) = l1 then (if (mj_i M l5 2) = l2 then (vb_X7_lackOf_37 (vb_X7_lackOf_9 post f) post l1 l2 l3 l4 l5 true M) else (vb_X7_lackOf_36 (vb_X7_lackOf_9 post f) post l1 l2 l3 l4 l5 M)) else (vb_X7_lackOf_36 (vb_X7_lackOf_9 post f) post l1 l2 l3 l4 l5 M))
def vc_X7_lackOf (l0 : Nat) (l1 : Nat) (l2 : Int32) (l3 : Int32) (M : mj_M) (post : Int32 → mj_M → Prop) : Prop := mj_tag M l0 = 8 ∧ vb_X7_lackOf_9 post 60 l1 l2 l3 0 (mj_r M l0 0) M
set_option maxHeartbeats 4000000 in
set_option maxRecDepth 100000 in
theorem xb_X7_lackOf_55 {g : mj_G} {post : Int32 → mj_M → Prop} (hC : mj_C g yX7_lackOf cX7_lackOf 7 (some .int) rm_X7_lackOf) (hE : mj_E g mj_jI post 0 0) {k9 : Nat → Int32 → Int32 → Int32 → Nat → mj_M → Prop} (hk9 : ∀ (l1 : Nat) (l2 : Int32) (l3 : Int32) (l4 : Int32) (l5 : Nat) (M : mj_M), k9 l1 l2 l3 l4 l5 M → mj_X g 9 [(1, vR l1), (2, vI l2), (3, vI l3), (4, vI l4), (5, vR l5)] [] M 0 0) (l1 : Nat) (l2 : Int32) (l3 : Int32) (l4 : Int32) (l5 : Nat) (l6 : Bool) (M : mj_M) (h : vb_X7_lackOf_55 k9 post l1 l2 l3 l4 l5 l6 M) : mj_X g 55 [(1, vR l1), (2, vI l2), (3, vI l3), (4, vI l4), (5, vR l5), (6, vI (mj_b l6))] [] M 0 0 := by
  simp only [vb_X7_lackOf_55] at h
  refine mx_iload (j := 5) hC dX7_lackOf_55 rfl ?_
  refine mx_ifeqB (tgt := 85) hC dX7_lackOf_57 (by decide) (fun hc1 => ?_) (fun hc1 => ?_)
  · replace h := mj_nn hc1 h
    refine mx_aload (j := 4) hC dX7_lackOf_85 rfl ?_
    obtain ⟨ht2, h⟩ := h
    refine mx_get (v := vR (mj_r M l5 6)) hC tf_X7_21 ht2 rfl dX7_lackOf_87 ?_
    refine mx_astore (L' := [(5, vR (mj_r M l5 6)), (1, vR l1), (2, vI l2), (3, vI l3), (4, vI l4), (6, vI (mj_b l6))]) hC dX7_lackOf_90 (by decide) rfl ?_
    refine mx_goto (tgt := 9) hC dX7_lackOf_92 (by decide) ?_
    refine mx_sub (L' := [(1, vR l1), (2, vI l2), (3, vI l3), (4, vI l4), (5, vR (mj_r M l5 6))]) [1, 2, 3, 4, 0] rfl ?_
    exact show mj_X g 9 [(1, vR l1), (2, vI l2), (3, vI l3), (4, vI l4), (5, vR (mj_r M l5 6))] [] M 0 0 from (hk9 l1 l2 l3 l4 (mj_r M l5 6) M h)
  · replace h := mj_yy hc1 h
    refine mx_aload (j := 4) hC dX7_lackOf_60 rfl ?_
    obtain ⟨ht3, h⟩ := h
    refine mx_get (v := vI (mj_i M l5 4)) hC tf_X7_44 ht3 rfl dX7_lackOf_62 ?_
    refine mx_iconst (v := 3) hC dX7_lackOf_65 (by decide) ?_
    refine mx_icmpne (tgt := 85) hC dX7_lackOf_66 (by decide) (fun hc4 => ?_) (fun hc4 => ?_)
    · replace h := mj_nn hc4 h
      refine mx_aload (j := 4) hC dX7_lackOf_85 rfl ?_
      refine mx_get (v := vR (mj_r M l5 6)) hC tf_X7_21 ht3 rfl dX7_lackOf_87 ?_
      refine mx_astore (L' := [(5, vR (mj_r M l5 6)), (1, vR l1), (2, vI l2), (3, vI l3), (4, vI l4), (6, vI (mj_b l6))]) hC dX7_lackOf_90 (by decide) rfl ?_
      refine mx_goto (tgt := 9) hC dX7_lackOf_92 (by decide) ?_
      refine mx_sub (L' := [(1, vR l1), (2, vI l2), (3, vI l3), (4, vI l4), (5, vR (mj_r M l5 6))]) [1, 2, 3, 4, 0] rfl ?_
      exact show mj_X g 9 [(1, vR l1), (2, vI l2), (3, vI l3), (4, vI l4), (5, vR (mj_r M l5 6))] [] M 0 0 from (hk9 l1 l2 l3 l4 (mj_r M l5 6) M h)
    · replace h := mj_yy hc4 h
      refine mx_iload_n (j := 2) hC dX7_lackOf_69 rfl rfl ?_
      refine mx_aload (j := 4) hC dX7_lackOf_70 rfl ?_
      refine mx_get (v := vI (mj_i M l5 5)) hC tf_X7_47 ht3 rfl dX7_lackOf_72 ?_
      refine mx_isub hC dX7_lackOf_75 ?_
      refine mx_sipush (v := 365) hC dX7_lackOf_76 (by decide) ?_
      refine mx_icmpge (tgt := 85) hC dX7_lackOf_79 (by decide) (fun hc5 => ?_) (fun hc5 => ?_)
      · replace h := mj_yy hc5 h
        refine mx_aload (j := 4) hC dX7_lackOf_85 rfl ?_
        refine mx_get (v := vR (mj_r M l5 6)) hC tf_X7_21 ht3 rfl dX7_lackOf_87 ?_
        refine mx_astore (L' := [(5, vR (mj_r M l5 6)), (1, vR l1), (2, vI l2), (3, vI l3), (4, vI l4), (6, vI (mj_b l6))]) hC dX7_lackOf_90 (by decide) rfl ?_
        refine mx_goto (tgt := 9) hC dX7_lackOf_92 (by decide) ?_
        refine mx_sub (L' := [(1, vR l1), (2, vI l2), (3, vI l3), (4, vI l4), (5, vR (mj_r M l5 6))]) [1, 2, 3, 4, 0] rfl ?_
        exact show mj_X g 9 [(1, vR l1), (2, vI l2), (3, vI l3), (4, vI l4), (5, vR (mj_r M l5 6))] [] M 0 0 from (hk9 l1 l2 l3 l4 (mj_r M l5 6) M h)
      · replace h := mj_nn hc5 h
        refine mx_iconst (v := 3) hC dX7_lackOf_82 (by decide) ?_
        refine mx_istore (L' := [(4, vI 3), (1, vR l1), (2, vI l2), (3, vI l3), (5, vR l5), (6, vI (mj_b l6))]) hC dX7_lackOf_83 (by decide) rfl ?_
        refine mx_aload (j := 4) hC dX7_lackOf_85 rfl ?_
        refine mx_get (v := vR (mj_r M l5 6)) hC tf_X7_21 ht3 rfl dX7_lackOf_87 ?_
        refine mx_astore (L' := [(5, vR (mj_r M l5 6)), (4, vI 3), (1, vR l1), (2, vI l2), (3, vI l3), (6, vI (mj_b l6))]) hC dX7_lackOf_90 (by decide) rfl ?_
        refine mx_goto (tgt := 9) hC dX7_lackOf_92 (by decide) ?_
        refine mx_sub (L' := [(1, vR l1), (2, vI l2), (3, vI l3), (4, vI 3), (5, vR (mj_r M l5 6))]) [2, 3, 4, 1, 0] rfl ?_
        exact show mj_X g 9 [(1, vR l1), (2, vI l2), (3, vI l3), (4, vI 3), (5, vR (mj_r M l5 6))] [] M 0 0 from (hk9 l1 l2 l3 3 (mj_r M l5 6) M h)
set_option maxHeartbeats 4000000 in
set_option maxRecDepth 100000 in
theorem xb_X7_lackOf_37 {g : mj_G} {post : Int32 → mj_M → Prop} (hC : mj_C g yX7_lackOf cX7_lackOf 7 (some .int) rm_X7_lackOf) (hE : mj_E g mj_jI post 0 0) {k9 : Nat → Int32 → Int32 → Int32 → Nat → mj_M → Prop} (hk9 : ∀ (l1 : Nat) (l2 : Int32) (l3 : Int32) (l4 : Int32) (l5 : Nat) (M : mj_M), k9 l1 l2 l3 l4 l5 M → mj_X g 9 [(1, vR l1), (2, vI l2), (3, vI l3), (4, vI l4), (5, vR l5)] [] M 0 0) (l1 : Nat) (l2 : Int32) (l3 : Int32) (l4 : Int32) (l5 : Nat) (s0 : Bool) (M : mj_M) (h : vb_X7_lackOf_37 k9 post l1 l2 l3 l4 l5 s0 M) : mj_X g 37 [(1, vR l1), (2, vI l2), (3, vI l3), (4, vI l4), (5, vR l5)] [vI (mj_b s0)] M 0 0 := by
  simp only [vb_X7_lackOf_37] at h
  refine mx_istore (L' := [(6, vI (mj_b s0)), (1, vR l1), (2, vI l2), (3, vI l3), (4, vI l4), (5, vR l5)]) hC dX7_lackOf_37 (by decide) rfl ?_
  refine mx_iload (j := 0) hC dX7_lackOf_39 rfl ?_
  refine mx_ifeqB (tgt := 55) hC dX7_lackOf_41 (by decide) (fun hc6 => ?_) (fun hc6 => ?_)
  · replace h := mj_nn hc6 h
    refine mx_sub (L' := [(1, vR l1), (2, vI l2), (3, vI l3), (4, vI l4), (5, vR l5), (6, vI (mj_b s0))]) [1, 2, 3, 4, 5, 0] rfl ?_
    exact show mj_X g 55 [(1, vR l1), (2, vI l2), (3, vI l3), (4, vI l4), (5, vR l5), (6, vI (mj_b s0))] [] M 0 0 from (xb_X7_lackOf_55 hC hE hk9 l1 l2 l3 l4 l5 s0 M h)
  · replace h := mj_yy hc6 h
    refine mx_aload (j := 5) hC dX7_lackOf_44 rfl ?_
    refine mx_iload_n (j := 3) hC dX7_lackOf_46 rfl rfl ?_
    obtain ⟨ht7, h⟩ := h
    refine mx_callV (inj := mj_jB) (As := [vI l3]) (st := []) hC (ct_X6_isAlive l5 l3 M _ h) ty_X6_isAlive tw732 ht7 rfl (Nat.le_of_ble_eq_true rfl) ⟨rfl, rfl, ⟨by decide, by decide⟩, by decide, by decide⟩ dX7_lackOf_47 (fun r8 M9 h => ?_)
    show mj_X g 50 [(6, vI (mj_b s0)), (1, vR l1), (2, vI l2), (3, vI l3), (4, vI l4), (5, vR l5)] [vI (mj_b r8)] M9 0 0
    refine mx_ifeqB (tgt := 55) hC dX7_lackOf_50 (by decide) (fun hc10 => ?_) (fun hc10 => ?_)
    · replace h := mj_nn hc10 h
      refine mx_sub (L' := [(1, vR l1), (2, vI l2), (3, vI l3), (4, vI l4), (5, vR l5), (6, vI (mj_b s0))]) [1, 2, 3, 4, 5, 0] rfl ?_
      exact show mj_X g 55 [(1, vR l1), (2, vI l2), (3, vI l3), (4, vI l4), (5, vR l5), (6, vI (mj_b s0))] [] M9 0 0 from (xb_X7_lackOf_55 hC hE hk9 l1 l2 l3 l4 l5 s0 M9 h)
    · replace h := mj_yy hc10 h
      refine mx_iconst (v := 2) hC dX7_lackOf_53 (by decide) ?_
      exact mx_iret hC hE rfl dX7_lackOf_54 h
set_option maxHeartbeats 4000000 in
set_option maxRecDepth 100000 in
theorem xb_X7_lackOf_36 {g : mj_G} {post : Int32 → mj_M → Prop} (hC : mj_C g yX7_lackOf cX7_lackOf 7 (some .int) rm_X7_lackOf) (hE : mj_E g mj_jI post 0 0) {k9 : Nat → Int32 → Int32 → Int32 → Nat → mj_M → Prop} (hk9 : ∀ (l1 : Nat) (l2 : Int32) (l3 : Int32) (l4 : Int32) (l5 : Nat) (M : mj_M), k9 l1 l2 l3 l4 l5 M → mj_X g 9 [(1, vR l1), (2, vI l2), (3, vI l3), (4, vI l4), (5, vR l5)] [] M 0 0) (l1 : Nat) (l2 : Int32) (l3 : Int32) (l4 : Int32) (l5 : Nat) (M : mj_M) (h : vb_X7_lackOf_36 k9 post l1 l2 l3 l4 l5 M) : mj_X g 36 [(1, vR l1), (2, vI l2), (3, vI l3), (4, vI l4), (5, vR l5)] [] M 0 0 := by
  simp only [vb_X7_lackOf_36] at h
  refine mx_iconst (v := 0) hC dX7_lackOf_36 (by decide) ?_
  refine mx_sub (L' := [(1, vR l1), (2, vI l2), (3, vI l3), (4, vI l4), (5, vR l5)]) [0, 1, 2, 3, 4] rfl ?_
  exact show mj_X g 37 [(1, vR l1), (2, vI l2), (3, vI l3), (4, vI l4), (5, vR l5)] [vI (mj_b false)] M 0 0 from (xb_X7_lackOf_37 hC hE hk9 l1 l2 l3 l4 l5 false M h)
set_option maxHeartbeats 4000000 in
set_option maxRecDepth 100000 in
theorem xb_X7_lackOf_9 {g : mj_G} {post : Int32 → mj_M → Prop} (hC : mj_C g yX7_lackOf cX7_lackOf 7 (some .int) rm_X7_lackOf) (hE : mj_E g mj_jI post 0 0) : ∀ (f : Nat) (l1 : Nat) (l2 : Int32) (l3 : Int32) (l4 : Int32) (l5 : Nat) (M : mj_M), vb_X7_lackOf_9 post f l1 l2 l3 l4 l5 M → mj_X g 9 [(1, vR l1), (2, vI l2), (3, vI l3), (4, vI l4), (5, vR l5)] [] M 0 0 := by
  intro f
  induction f with
  | zero => exact fun _ _ _ _ _ _ h => absurd h (fun z => z)
  | succ f ih =>
    intro l1 l2 l3 l4 l5 M h
    simp only [vb_X7_lackOf_9] at h
    refine mx_aload (j := 4) hC dX7_lackOf_9 rfl ?_
    refine mx_ifnull (tgt := 95) hC dX7_lackOf_11 (by decide) (fun hc11 => ?_) (fun hc11 => ?_)
    · replace h := mj_yy hc11 h
      refine mx_iload (j := 3) hC dX7_lackOf_95 rfl ?_
      exact mx_iret hC hE rfl dX7_lackOf_97 h
    · replace h := mj_nn hc11 h
      refine mx_aload (j := 4) hC dX7_lackOf_14 rfl ?_
      obtain ⟨ht12, h⟩ := h
      refine mx_get (v := vR (mj_r M l5 1)) hC tf_X7_33 ht12 rfl dX7_lackOf_16 ?_
      refine mx_aload_n (j := 0) hC dX7_lackOf_19 rfl rfl ?_
      refine mx_acmpne (tgt := 36) hC dX7_lackOf_20 (by decide) (fun hc13 => ?_) (fun hc13 => ?_)
      · replace h := mj_nn hc13 h
        refine mx_sub (L' := [(1, vR l1), (2, vI l2), (3, vI l3), (4, vI l4), (5, vR l5)]) [0, 1, 2, 3, 4] rfl ?_
        exact show mj_X g 36 [(1, vR l1), (2, vI l2), (3, vI l3), (4, vI l4), (5, vR l5)] [] M 0 0 from (xb_X7_lackOf_36 hC hE ih l1 l2 l3 l4 l5 M h)
      · replace h := mj_yy hc13 h
        refine mx_aload (j := 4) hC dX7_lackOf_23 rfl ?_
        refine mx_get (v := vI (mj_i M l5 2)) hC tf_X7_37 ht12 rfl dX7_lackOf_25 ?_
        refine mx_iload_n (j := 1) hC dX7_lackOf_28 rfl rfl ?_
        refine mx_icmpne (tgt := 36) hC dX7_lackOf_29 (by decide) (fun hc14 => ?_) (fun hc14 => ?_)
        · replace h := mj_nn hc14 h
          refine mx_sub (L' := [(1, vR l1), (2, vI l2), (3, vI l3), (4, vI l4), (5, vR l5)]) [0, 1, 2, 3, 4] rfl ?_
          exact show mj_X g 36 [(1, vR l1), (2, vI l2), (3, vI l3), (4, vI l4), (5, vR l5)] [] M 0 0 from (xb_X7_lackOf_36 hC hE ih l1 l2 l3 l4 l5 M h)
        · replace h := mj_yy hc14 h
          refine mx_iconst (v := 1) hC dX7_lackOf_32 (by decide) ?_
          refine mx_goto (tgt := 37) hC dX7_lackOf_33 (by decide) ?_
          refine mx_sub (L' := [(1, vR l1), (2, vI l2), (3, vI l3), (4, vI l4), (5, vR l5)]) [0, 1, 2, 3, 4] rfl ?_
          exact show mj_X g 37 [(1, vR l1), (2, vI l2), (3, vI l3), (4, vI l4), (5, vR l5)] [vI (mj_b true)] M 0 0 from (xb_X7_lackOf_37 hC hE ih l1 l2 l3 l4 l5 true M h)
set_option maxHeartbeats 4000000 in
set_option maxRecDepth 100000 in
theorem ct_X7_lackOf {l : Launch} {base : Nat} {D : va_G} {A : mj_AT} (l0 : Nat) (l1 : Nat) (l2 : Int32) (l3 : Int32) (M : mj_M) (post : Int32 → mj_M → Prop) (h : vc_X7_lackOf l0 l1 l2 l3 M post) : mj_Met l base D A mj_jI yX7_lackOf cX7_lackOf 7 (some .int) rm_X7_lackOf 0 0 [vR l0, vR l1, vI l2, vI l3] M post := by
  refine mj_entry (by decide +kernel) (Nat.le_of_ble_eq_true rfl) (fun g hC hE h1 h2 h3 h4 => ?_)
  show mj_X g 0 [(0, vR l0), (1, vR l1), (2, vI l2), (3, vI l3)] [] M 0 0
  simp only [vc_X7_lackOf] at h
  refine mx_iconst (v := 0) hC dX7_lackOf_0 (by decide) ?_
  refine mx_istore (L' := [(4, vI 0), (0, vR l0), (1, vR l1), (2, vI l2), (3, vI l3)]) hC dX7_lackOf_1 (by decide) rfl ?_
  refine mx_aload_n (j := 1) hC dX7_lackOf_3 rfl rfl ?_
  obtain ⟨ht15, h⟩ := h
  refine mx_get (v := vR (mj_r M l0 0)) hC tf_X7_9 ht15 rfl dX7_lackOf_4 ?_
  refine mx_astore (L' := [(5, vR (mj_r M l0 0)), (4, vI 0), (0, vR l0), (1, vR l1), (2, vI l2), (3, vI l3)]) hC dX7_lackOf_7 (by decide) rfl ?_
  refine mx_sub (L' := [(1, vR l1), (2, vI l2), (3, vI l3), (4, vI 0), (5, vR (mj_r M l0 0))]) [3, 4, 5, 1, 0] rfl ?_
  exact show mj_X g 9 [(1, vR l1), (2, vI l2), (3, vI l3), (4, vI 0), (5, vR (mj_r M l0 0))] [] M 0 0 from (xb_X7_lackOf_9 hC hE 60 l1 l2 l3 0 (mj_r M l0 0) M h)
theorem tw83 : (Jvm.Cond.fieldLink "LeaseLand$Acts" (18 : Nat) "LeaseLand$Acts" "grammar" "LLeaseLand$Grammar;") ∈ mj_tbl := mj_w 89 (by decide +kernel) (by decide +kernel)
theorem tk1 : mj_KC 1 (RX1, TX1, 5, tyX1) := ⟨rfl, fun w hw => List.mem_filter.mpr ⟨(goodIn_r (big := lw_tbl) (u_ws RX1 TX1 5) [94, 96, 98, 100, 102] (by decide +kernel) (by decide +kernel) w hw).1, List.all_eq_true.mp (show (u_ws RX1 TX1 5).all goodWord = true by decide +kernel) w hw⟩, tyX1_ok, nmX1, by decide⟩
theorem tf_X1_18 : mj_F 1 1 (.object "LeaseLand$Grammar") true "LeaseLand$Acts" 18 := ⟨_, tk1, by decide, rfl, rfl, rfl, tw83⟩
theorem tw82 : (Jvm.Cond.fieldLink "LeaseLand$Acts" (9 : Nat) "LeaseLand$Acts" "signs" "[I") ∈ mj_tbl := mj_w 88 (by decide +kernel) (by decide +kernel)
theorem tf_X1_9 : mj_F 1 0 (.array .int) true "LeaseLand$Acts" 9 := ⟨_, tk1, by decide, rfl, rfl, rfl, tw82⟩
theorem tn68 : (Jvm.Cond.methodLinkNest "LeaseLand$Acts" (17 : Nat) ({ cls := "LeaseLand$Grammar", name := "<init>", desc := "()V" } : Jvm.MethodName) "LeaseLand") ∈ mj_nest := List.mem_filter.mpr ⟨List.mem_of_getElem? (i := 68) (by decide +kernel), rfl⟩
theorem tw65 : (Jvm.Cond.methodLink "LeaseLand$Acts" (3 : Nat) ({ cls := "java/lang/Object", name := "<init>", desc := "()V" } : Jvm.MethodName)) ∈ mj_tbl := mj_w 71 (by decide +kernel) (by decide +kernel)
theorem tw66 : (Jvm.Cond.classLink "LeaseLand$Acts" (15 : Nat) "LeaseLand$Grammar") ∈ mj_tbl := mj_w 72 (by decide +kernel) (by decide +kernel)
theorem tw67 : (Jvm.Cond.instantiable "LeaseLand$Grammar" (3 : Nat)) ∈ mj_tbl := mj_w 73 (by decide +kernel) (by decide +kernel)
theorem tw70 : (Jvm.Cond.code ({ cls := "LeaseLand$Grammar", name := "<init>", desc := "()V" } : Jvm.MethodName) prog_4_method_1_code (1 : Nat) (Option.none : Option Jvm.ClassFile.FieldType)) ∈ mj_tbl := mj_w 76 (by decide +kernel) (by decide +kernel)
theorem tw69 : (Jvm.Cond.instanceMethod ({ cls := "LeaseLand$Grammar", name := "<init>", desc := "()V" } : Jvm.MethodName)) ∈ mj_tbl := mj_w 75 (by decide +kernel) (by decide +kernel)
theorem ty_X2_init : mj_YI yX2_init cX2_init 1 0 := ⟨⟨tw70, tw5, by decide +kernel, by decide +kernel, by decide +kernel⟩, tw69, rfl⟩
def rm_X1_init : Room := { frames := 2, cells := 2, slots := 51, locals := 40 }
theorem dX1_init_0 : decode cX1_init 0 = .ok (.aload_n 0, 1) := by decide +kernel
theorem dX1_init_1 : decode cX1_init 1 = .ok (.invokespecial 3, 3) := by decide +kernel
theorem dX1_init_4 : decode cX1_init 4 = .ok (.aload_n 0, 1) := by decide +kernel
theorem dX1_init_5 : decode cX1_init 5 = .ok (.bipush 48, 2) := by decide +kernel
theorem dX1_init_7 : decode cX1_init 7 = .ok (.newarray .int, 2) := by decide +kernel
theorem dX1_init_9 : decode cX1_init 9 = .ok (.putfield 9, 3) := by decide +kernel
theorem dX1_init_12 : decode cX1_init 12 = .ok (.aload_n 0, 1) := by decide +kernel
theorem dX1_init_13 : decode cX1_init 13 = .ok (.new 15, 3) := by decide +kernel
theorem dX1_init_16 : decode cX1_init 16 = .ok (.dup, 1) := by decide +kernel
theorem dX1_init_17 : decode cX1_init 17 = .ok (.invokespecial 17, 3) := by decide +kernel
theorem dX1_init_20 : decode cX1_init 20 = .ok (.putfield 18, 3) := by decide +kernel
theorem dX1_init_23 : decode cX1_init 23 = .ok (.return_, 1) := by decide +kernel
def vc_X1_init (l0 : Nat) (M : mj_M) (post : Unit → mj_M → Prop) : Prop := (¬ l0 = 0) ∧ ∀ M2 : mj_M, M2 = mj_newa M 101 48 → mj_tag M2 l0 = 2 ∧ ∀ M5 : mj_M, M5 = mj_new (mj_wr M2 l0 0 (mj_nx M)) 2 → (¬ (mj_nx M2) = 0) ∧ vc_X2_init (mj_nx M2) M5 (fun _ M8 => mj_tag M8 l0 = 2 ∧ post () (mj_wr M8 l0 1 (mj_nx M2)))
set_option maxHeartbeats 4000000 in
set_option maxRecDepth 100000 in
theorem ct_X1_init {l : Launch} {base : Nat} {D : va_G} {A : mj_AT} (l0 : Nat) (M : mj_M) (post : Unit → mj_M → Prop) (h : vc_X1_init l0 M post) : mj_Met l base D A mj_jV yX1_init cX1_init 1 (none) rm_X1_init 2 51 [vR l0] M post := by
  refine mj_entry (by decide +kernel) (Nat.le_of_ble_eq_true rfl) (fun g hC hE h1 h2 h3 h4 => ?_)
  show mj_X g 0 [(0, vR l0)] [] M 0 0
  simp only [vc_X1_init] at h
  refine mx_aload_n (j := 0) hC dX1_init_0 rfl rfl ?_
  obtain ⟨hn1, h⟩ := h
  refine mx_oinit hC tw65 tw_oi tw_oc hn1 (Nat.le_of_ble_eq_true rfl) ⟨by decide, by decide⟩ dX1_init_1 ?_
  refine mx_aload_n (j := 0) hC dX1_init_4 rfl rfl ?_
  refine mx_bipush (v := 48) hC dX1_init_5 (by decide) ?_
  refine mx_newi (N := 48) (k' := 1) (n' := 48) hC tw59 (by decide) (by decide) (by decide) ⟨rfl, by decide, by decide, by decide⟩ dX1_init_7 ?_
  obtain ⟨M2, eM2⟩ : ∃ z : mj_M, z = mj_newa M 101 48 := ⟨_, rfl⟩
  replace h := h M2 eM2
  have ht3 : mj_tag M2 (mj_nx M) = 101 := by rw [eM2]; exact mj_u1_at _
  refine mx_setM eM2.symm ?_
  obtain ⟨ht4, h⟩ := h
  refine mx_put (v := vR (mj_nx M)) (M1 := mj_wr M2 l0 0 (mj_nx M)) hC tf_X1_9 ht4 (Or.inr ⟨rfl, rfl⟩) (mj_fitA (mj_nx M) _) (mj_off_wr _ _ _ _) mj_put_wa dX1_init_9 ?_
  refine mx_aload_n (j := 0) hC dX1_init_12 rfl rfl ?_
  refine mx_new (k' := 2) (n' := 51) hC tk2 tw66 tw67 tw5 ⟨rfl, rfl, by decide, by decide⟩ dX1_init_13 ?_
  obtain ⟨M5, eM5⟩ : ∃ z : mj_M, z = mj_new (mj_wr M2 l0 0 (mj_nx M)) 2 := ⟨_, rfl⟩
  replace h := h M5 eM5
  have ht6 : mj_tag M5 (mj_nx M2) = 3 := by rw [eM5]; exact mj_u1_at _
  refine mx_setM eM5.symm ?_
  refine mx_dup hC dX1_init_16 rfl ?_
  obtain ⟨hn7, h⟩ := h
  refine mx_callIN (As := []) (st := [vR (mj_nx M2), vR l0]) hC (ct_X2_init (mj_nx M2) M5 _ h) ty_X2_init tn68 hn7 rfl (Nat.le_of_ble_eq_true rfl) ⟨rfl, rfl, ⟨by decide, by decide⟩, by decide, by decide⟩ dX1_init_17 (fun _ M8 h => ?_)
  show mj_X g 20 [(0, vR l0)] [vR (mj_nx M2), vR l0] M8 2 51
  obtain ⟨ht9, h⟩ := h
  refine mx_put (v := vR (mj_nx M2)) (M1 := mj_wr M8 l0 1 (mj_nx M2)) hC tf_X1_18 ht9 (Or.inr ⟨rfl, rfl⟩) (mj_fitR (mj_nx M2) _) (mj_off_wr _ _ _ _) mj_put_wr dX1_init_20 ?_
  exact mx_vret hC hE rfl dX1_init_23 h
theorem tw84 : (Jvm.Cond.fieldLink "LeaseLand$Acts" (22 : Nat) "LeaseLand$Acts" "length" "I") ∈ mj_tbl := mj_w 90 (by decide +kernel) (by decide +kernel)
theorem tf_X1_22 : mj_F 1 2 .int false "LeaseLand$Acts" 22 := ⟨_, tk1, by decide, rfl, rfl, rfl, tw84⟩
def rm_X1_addSign : Room := { frames := 0, cells := 0, slots := 0, locals := 0 }
theorem dX1_addSign_0 : decode cX1_addSign 0 = .ok (.aload_n 0, 1) := by decide +kernel
theorem dX1_addSign_1 : decode cX1_addSign 1 = .ok (.getfield 22, 3) := by decide +kernel
theorem dX1_addSign_4 : decode cX1_addSign 4 = .ok (.bipush 48, 2) := by decide +kernel
theorem dX1_addSign_6 : decode cX1_addSign 6 = .ok (.if_icmp .lt 6, 3) := by decide +kernel
theorem dX1_addSign_9 : decode cX1_addSign 9 = .ok (.bipush (-4), 2) := by decide +kernel
theorem dX1_addSign_11 : decode cX1_addSign 11 = .ok (.ireturn, 1) := by decide +kernel
theorem dX1_addSign_12 : decode cX1_addSign 12 = .ok (.aload_n 0, 1) := by decide +kernel
theorem dX1_addSign_13 : decode cX1_addSign 13 = .ok (.getfield 9, 3) := by decide +kernel
theorem dX1_addSign_16 : decode cX1_addSign 16 = .ok (.aload_n 0, 1) := by decide +kernel
theorem dX1_addSign_17 : decode cX1_addSign 17 = .ok (.getfield 22, 3) := by decide +kernel
theorem dX1_addSign_20 : decode cX1_addSign 20 = .ok (.iload_n 1, 1) := by decide +kernel
theorem dX1_addSign_21 : decode cX1_addSign 21 = .ok (.iastore, 1) := by decide +kernel
theorem dX1_addSign_22 : decode cX1_addSign 22 = .ok (.aload_n 0, 1) := by decide +kernel
theorem dX1_addSign_23 : decode cX1_addSign 23 = .ok (.dup, 1) := by decide +kernel
theorem dX1_addSign_24 : decode cX1_addSign 24 = .ok (.getfield 22, 3) := by decide +kernel
theorem dX1_addSign_27 : decode cX1_addSign 27 = .ok (.iconst 1, 1) := by decide +kernel
theorem dX1_addSign_28 : decode cX1_addSign 28 = .ok (.iadd, 1) := by decide +kernel
theorem dX1_addSign_29 : decode cX1_addSign 29 = .ok (.putfield 22, 3) := by decide +kernel
theorem dX1_addSign_32 : decode cX1_addSign 32 = .ok (.aload_n 0, 1) := by decide +kernel
theorem dX1_addSign_33 : decode cX1_addSign 33 = .ok (.getfield 22, 3) := by decide +kernel
theorem dX1_addSign_36 : decode cX1_addSign 36 = .ok (.ireturn, 1) := by decide +kernel
def vc_X1_addSign (l0 : Nat) (l1 : Int32) (M : mj_M) (post : Int32 → mj_M → Prop) : Prop := mj_tag M l0 = 2 ∧ if (mj_i M l0 2) < 48 then (mj_tag M (mj_r M l0 0) = 101 ∧ vp_in (mj_i M l0 2) (mj_len M (mj_r M l0 0)) ∧ post (mj_i (mj_wi (mj_wi M (mj_r M l0 0) (mj_i M l0 2 : Int32).toNatClampNeg l1) l0 2 ((mj_i (mj_wi M (mj_r M l0 0) (mj_i M l0 2 : Int32).toNatClampNeg l1) l0 2) + 1)) l0 2) (mj_wi (mj_wi M (mj_r M l0 0) (mj_i M l0 2 : Int32).toNatClampNeg l1) l0 2 ((mj_i (mj_wi M (mj_r M l0 0) (mj_i M l0 2 : Int32).toNatClampNeg l1) l0 2) + 1))) else (post ((-4)) M)
set_option maxHeartbeats 4000000 in
set_option maxRecDepth 100000 in
theorem ct_X1_addSign {l : Launch} {base : Nat} {D : va_G} {A : mj_AT} (l0 : Nat) (l1 : Int32) (M : mj_M) (post : Int32 → mj_M → Prop) (h : vc_X1_addSign l0 l1 M post) : mj_Met l base D A mj_jI yX1_addSign cX1_addSign 2 (some .int) rm_X1_addSign 0 0 [vR l0, vI l1] M post := by
  refine mj_entry (by decide +kernel) (Nat.le_of_ble_eq_true rfl) (fun g hC hE h1 h2 h3 h4 => ?_)
  show mj_X g 0 [(0, vR l0), (1, vI l1)] [] M 0 0
  simp only [vc_X1_addSign] at h
  refine mx_aload_n (j := 0) hC dX1_addSign_0 rfl rfl ?_
  obtain ⟨ht1, h⟩ := h
  refine mx_get (v := vI (mj_i M l0 2)) hC tf_X1_22 ht1 rfl dX1_addSign_1 ?_
  refine mx_bipush (v := 48) hC dX1_addSign_4 (by decide) ?_
  refine mx_icmplt (tgt := 12) hC dX1_addSign_6 (by decide) (fun hc2 => ?_) (fun hc2 => ?_)
  · replace h := mj_yy hc2 h
    refine mx_aload_n (j := 0) hC dX1_addSign_12 rfl rfl ?_
    refine mx_get (v := vR (mj_r M l0 0)) hC tf_X1_9 ht1 rfl dX1_addSign_13 ?_
    refine mx_aload_n (j := 0) hC dX1_addSign_16 rfl rfl ?_
    refine mx_get (v := vI (mj_i M l0 2)) hC tf_X1_22 ht1 rfl dX1_addSign_17 ?_
    refine mx_iload_n (j := 1) hC dX1_addSign_20 rfl rfl ?_
    obtain ⟨ht3, h⟩ := h
    obtain ⟨hi4, h⟩ := h
    refine mx_iastore hC ht3 hi4 dX1_addSign_21 ?_
    refine mx_aload_n (j := 0) hC dX1_addSign_22 rfl rfl ?_
    refine mx_dup hC dX1_addSign_23 rfl ?_
    refine mx_get (v := vI (mj_i (mj_wi M (mj_r M l0 0) (mj_i M l0 2 : Int32).toNatClampNeg l1) l0 2)) hC tf_X1_22 ht1 rfl dX1_addSign_24 ?_
    refine mx_iconst (v := 1) hC dX1_addSign_27 (by decide) ?_
    refine mx_iadd hC dX1_addSign_28 ?_
    refine mx_put (v := vI ((mj_i (mj_wi M (mj_r M l0 0) (mj_i M l0 2 : Int32).toNatClampNeg l1) l0 2) + 1)) (M1 := mj_wi (mj_wi M (mj_r M l0 0) (mj_i M l0 2 : Int32).toNatClampNeg l1) l0 2 ((mj_i (mj_wi M (mj_r M l0 0) (mj_i M l0 2 : Int32).toNatClampNeg l1) l0 2) + 1)) hC tf_X1_22 ht1 (Or.inl rfl) ⟨rfl, rfl⟩ (mj_off_wi _ _ _ _) mj_put_wi dX1_addSign_29 ?_
    refine mx_aload_n (j := 0) hC dX1_addSign_32 rfl rfl ?_
    refine mx_get (v := vI (mj_i (mj_wi (mj_wi M (mj_r M l0 0) (mj_i M l0 2 : Int32).toNatClampNeg l1) l0 2 ((mj_i (mj_wi M (mj_r M l0 0) (mj_i M l0 2 : Int32).toNatClampNeg l1) l0 2) + 1)) l0 2)) hC tf_X1_22 ht1 rfl dX1_addSign_33 ?_
    exact mx_iret hC hE rfl dX1_addSign_36 h
  · replace h := mj_nn hc2 h
    refine mx_bipush (v := (-4)) hC dX1_addSign_9 (by decide) ?_
    exact mx_iret hC hE rfl dX1_addSign_11 h
theorem tw475 : (Jvm.Cond.methodLink "LeaseLand$Acts" (26 : Nat) ({ cls := "LeaseLand$Grammar", name := "restart", desc := "()V" } : Jvm.MethodName)) ∈ mj_tbl := mj_w 481 (by decide +kernel) (by decide +kernel)
theorem tw479 : (Jvm.Cond.methodLink "LeaseLand$Acts" (29 : Nat) ({ cls := "LeaseLand$Grammar", name := "takes", desc := "(I)Z" } : Jvm.MethodName)) ∈ mj_tbl := mj_w 485 (by decide +kernel) (by decide +kernel)
theorem tw595 : (Jvm.Cond.methodLink "LeaseLand$Acts" (33 : Nat) ({ cls := "LeaseLand$Grammar", name := "isComplete", desc := "()Z" } : Jvm.MethodName)) ∈ mj_tbl := mj_w 601 (by decide +kernel) (by decide +kernel)
theorem tw598 : (Jvm.Cond.code ({ cls := "LeaseLand$Grammar", name := "isComplete", desc := "()Z" } : Jvm.MethodName) prog_4_method_9_code (1 : Nat) (Option.some Jvm.ClassFile.FieldType.boolean)) ∈ mj_tbl := mj_w 604 (by decide +kernel) (by decide +kernel)
theorem tw596 : (Jvm.Cond.instanceMethod ({ cls := "LeaseLand$Grammar", name := "isComplete", desc := "()Z" } : Jvm.MethodName)) ∈ mj_tbl := mj_w 602 (by decide +kernel) (by decide +kernel)
theorem tw597 : (Jvm.Cond.selects "LeaseLand$Grammar" ({ cls := "LeaseLand$Grammar", name := "isComplete", desc := "()Z" } : Jvm.MethodName) ({ cls := "LeaseLand$Grammar", name := "isComplete", desc := "()Z" } : Jvm.MethodName)) ∈ mj_tbl := mj_w 603 (by decide +kernel) (by decide +kernel)
theorem ty_X2_isComplete : mj_YV 2 yX2_isComplete cX2_isComplete 1 (some .boolean) 0 := ⟨⟨tw598, tw5, by decide +kernel, by decide +kernel, by decide +kernel⟩, tw596, tw597, _, rfl, rfl⟩
theorem tw478 : (Jvm.Cond.code ({ cls := "LeaseLand$Grammar", name := "restart", desc := "()V" } : Jvm.MethodName) prog_4_method_2_code (1 : Nat) (Option.none : Option Jvm.ClassFile.FieldType)) ∈ mj_tbl := mj_w 484 (by decide +kernel) (by decide +kernel)
theorem tw476 : (Jvm.Cond.instanceMethod ({ cls := "LeaseLand$Grammar", name := "restart", desc := "()V" } : Jvm.MethodName)) ∈ mj_tbl := mj_w 482 (by decide +kernel) (by decide +kernel)
theorem tw477 : (Jvm.Cond.selects "LeaseLand$Grammar" ({ cls := "LeaseLand$Grammar", name := "restart", desc := "()V" } : Jvm.MethodName) ({ cls := "LeaseLand$Grammar", name := "restart", desc := "()V" } : Jvm.MethodName)) ∈ mj_tbl := mj_w 483 (by decide +kernel) (by decide +kernel)
theorem ty_X2_restart : mj_YV 2 yX2_restart cX2_restart 1 (none) 0 := ⟨⟨tw478, tw5, by decide +kernel, by decide +kernel, by decide +kernel⟩, tw476, tw477, _, rfl, rfl⟩
theorem tw482 : (Jvm.Cond.code ({ cls := "LeaseLand$Grammar", name := "takes", desc := "(I)Z" } : Jvm.MethodName) prog_4_method_3_code (2 : Nat) (Option.some Jvm.ClassFile.FieldType.boolean)) ∈ mj_tbl := mj_w 488 (by decide +kernel) (by decide +kernel)
theorem tw480 : (Jvm.Cond.instanceMethod ({ cls := "LeaseLand$Grammar", name := "takes", desc := "(I)Z" } : Jvm.MethodName)) ∈ mj_tbl := mj_w 486 (by decide +kernel) (by decide +kernel)
theorem tw481 : (Jvm.Cond.selects "LeaseLand$Grammar" ({ cls := "LeaseLand$Grammar", name := "takes", desc := "(I)Z" } : Jvm.MethodName) ({ cls := "LeaseLand$Grammar", name := "takes", desc := "(I)Z" } : Jvm.MethodName)) ∈ mj_tbl := mj_w 487 (by decide +kernel) (by decide +kernel)
theorem ty_X2_takes : mj_YV 2 yX2_takes cX2_takes 2 (some .boolean) 1 := ⟨⟨tw482, tw5, by decide +kernel, by decide +kernel, by decide +kernel⟩, tw480, tw481, _, rfl, rfl⟩
def rm_X1_faultPlace : Room := { frames := 11, cells := 0, slots := 0, locals := 312 }
theorem dX1_faultPlace_0 : decode cX1_faultPlace 0 = .ok (.aload_n 0, 1) := by decide +kernel
theorem dX1_faultPlace_1 : decode cX1_faultPlace 1 = .ok (.getfield 18, 3) := by decide +kernel
theorem dX1_faultPlace_4 : decode cX1_faultPlace 4 = .ok (.invokevirtual 26, 3) := by decide +kernel
theorem dX1_faultPlace_7 : decode cX1_faultPlace 7 = .ok (.iconst 0, 1) := by decide +kernel
theorem dX1_faultPlace_8 : decode cX1_faultPlace 8 = .ok (.istore_n 1, 1) := by decide +kernel
theorem dX1_faultPlace_9 : decode cX1_faultPlace 9 = .ok (.iload_n 1, 1) := by decide +kernel
theorem dX1_faultPlace_10 : decode cX1_faultPlace 10 = .ok (.aload_n 0, 1) := by decide +kernel
theorem dX1_faultPlace_11 : decode cX1_faultPlace 11 = .ok (.getfield 22, 3) := by decide +kernel
theorem dX1_faultPlace_14 : decode cX1_faultPlace 14 = .ok (.if_icmp .ge 27, 3) := by decide +kernel
theorem dX1_faultPlace_17 : decode cX1_faultPlace 17 = .ok (.aload_n 0, 1) := by decide +kernel
theorem dX1_faultPlace_18 : decode cX1_faultPlace 18 = .ok (.getfield 18, 3) := by decide +kernel
theorem dX1_faultPlace_21 : decode cX1_faultPlace 21 = .ok (.aload_n 0, 1) := by decide +kernel
theorem dX1_faultPlace_22 : decode cX1_faultPlace 22 = .ok (.getfield 9, 3) := by decide +kernel
theorem dX1_faultPlace_25 : decode cX1_faultPlace 25 = .ok (.iload_n 1, 1) := by decide +kernel
theorem dX1_faultPlace_26 : decode cX1_faultPlace 26 = .ok (.iaload, 1) := by decide +kernel
theorem dX1_faultPlace_27 : decode cX1_faultPlace 27 = .ok (.invokevirtual 29, 3) := by decide +kernel
theorem dX1_faultPlace_30 : decode cX1_faultPlace 30 = .ok (.ifCond .ne 5, 3) := by decide +kernel
theorem dX1_faultPlace_33 : decode cX1_faultPlace 33 = .ok (.iload_n 1, 1) := by decide +kernel
theorem dX1_faultPlace_34 : decode cX1_faultPlace 34 = .ok (.ireturn, 1) := by decide +kernel
theorem dX1_faultPlace_35 : decode cX1_faultPlace 35 = .ok (.iinc 1 1, 3) := by decide +kernel
theorem dX1_faultPlace_38 : decode cX1_faultPlace 38 = .ok (.goto (-29), 3) := by decide +kernel
theorem dX1_faultPlace_41 : decode cX1_faultPlace 41 = .ok (.aload_n 0, 1) := by decide +kernel
theorem dX1_faultPlace_42 : decode cX1_faultPlace 42 = .ok (.getfield 18, 3) := by decide +kernel
theorem dX1_faultPlace_45 : decode cX1_faultPlace 45 = .ok (.invokevirtual 33, 3) := by decide +kernel
theorem dX1_faultPlace_48 : decode cX1_faultPlace 48 = .ok (.ifCond .eq 8, 3) := by decide +kernel
theorem dX1_faultPlace_51 : decode cX1_faultPlace 51 = .ok (.bipush (-6), 2) := by decide +kernel
theorem dX1_faultPlace_53 : decode cX1_faultPlace 53 = .ok (.goto 7, 3) := by decide +kernel
theorem dX1_faultPlace_56 : decode cX1_faultPlace 56 = .ok (.aload_n 0, 1) := by decide +kernel
theorem dX1_faultPlace_57 : decode cX1_faultPlace 57 = .ok (.getfield 22, 3) := by decide +kernel
theorem dX1_faultPlace_60 : decode cX1_faultPlace 60 = .ok (.ireturn, 1) := by decide +kernel
def vb_X1_faultPlace_9 (post : Int32 → mj_M → Prop) : Nat → Nat → Int32 → mj_M → Prop
  | 0 => fun _ _ _ => False
  | f + 1 => fun l0 l1 M => mj_tag M l0 = 2 ∧ if (mj_i M l0 2) ≤ l1 then (mj_tag M (mj_r M l0 1) = 3 ∧ vc_X2_isComplete (mj_r M l0 1) M (fun r4 M5 => if r4 = true then (post ((-6)) M5) else (mj_tag M5 l0 = 2 ∧ post (mj_i M5 l0 2) M5))) else (mj_tag M (mj_r M l0 0) = 101 ∧ vp_in l1 (mj_len M (mj_r M l0 0)) ∧ mj_tag M (mj_r M l0 1) = 3 ∧ vc_X2_takes (mj_r M l0 1) (mj_i M (mj_r M l0 0) (l1 : Int32).toNatClampNeg) M (fun r11 M12 => if r11 = true then (vb_X1_faultPlace_9 post f l0 (l1 + 1) M12) else (post l1 M12)))
def vc_X1_faultPlace (l0 : Nat) (M : mj_M) (post : Int32 → mj_M → Prop) : Prop := mj_tag M l0 = 2 ∧ mj_tag M (mj_r M l0 1) = 3 ∧ vc_X2_restart (mj_r M l0 1) M (fun _ M16 => vb_X1_faultPlace_9 post 60 l0 0 M16)
set_option maxHeartbeats 4000000 in
set_option maxRecDepth 100000 in
theorem xb_X1_faultPlace_9 {g : mj_G} {post : Int32 → mj_M → Prop} (hC : mj_C g yX1_faultPlace cX1_faultPlace 2 (some .int) rm_X1_faultPlace) (hE : mj_E g mj_jI post 0 0) : ∀ (f : Nat) (l0 : Nat) (l1 : Int32) (M : mj_M), vb_X1_faultPlace_9 post f l0 l1 M → mj_X g 9 [(0, vR l0), (1, vI l1)] [] M 0 0 := by
  intro f
  induction f with
  | zero => exact fun _ _ _ h => absurd h (fun z => z)
  | succ f ih =>
    intro l0 l1 M h
    simp only [vb_X1_faultPlace_9] at h
    refine mx_iload_n (j := 1) hC dX1_faultPlace_9 rfl rfl ?_
    refine mx_aload_n (j := 0) hC dX1_faultPlace_10 rfl rfl ?_
    obtain ⟨ht1, h⟩ := h
    refine mx_get (v := vI (mj_i M l0 2)) hC tf_X1_22 ht1 rfl dX1_faultPlace_11 ?_
    refine mx_icmpge (tgt := 41) hC dX1_faultPlace_14 (by decide) (fun hc2 => ?_) (fun hc2 => ?_)
    · replace h := mj_yy hc2 h
      refine mx_aload_n (j := 0) hC dX1_faultPlace_41 rfl rfl ?_
      refine mx_get (v := vR (mj_r M l0 1)) hC tf_X1_18 ht1 rfl dX1_faultPlace_42 ?_
      obtain ⟨ht3, h⟩ := h
      refine mx_callV (inj := mj_jB) (As := []) (st := []) hC (ct_X2_isComplete (mj_r M l0 1) M _ h) ty_X2_isComplete tw595 ht3 rfl (Nat.le_of_ble_eq_true rfl) ⟨rfl, rfl, ⟨by decide, by decide⟩, by decide, by decide⟩ dX1_faultPlace_45 (fun r4 M5 h => ?_)
      show mj_X g 48 [(0, vR l0), (1, vI l1)] [vI (mj_b r4)] M5 0 0
      refine mx_ifeqB (tgt := 56) hC dX1_faultPlace_48 (by decide) (fun hc6 => ?_) (fun hc6 => ?_)
      · replace h := mj_nn hc6 h
        refine mx_aload_n (j := 0) hC dX1_faultPlace_56 rfl rfl ?_
        obtain ⟨ht7, h⟩ := h
        refine mx_get (v := vI (mj_i M5 l0 2)) hC tf_X1_22 ht7 rfl dX1_faultPlace_57 ?_
        exact mx_iret hC hE rfl dX1_faultPlace_60 h
      · replace h := mj_yy hc6 h
        refine mx_bipush (v := (-6)) hC dX1_faultPlace_51 (by decide) ?_
        refine mx_goto (tgt := 60) hC dX1_faultPlace_53 (by decide) ?_
        exact mx_iret hC hE rfl dX1_faultPlace_60 h
    · replace h := mj_nn hc2 h
      refine mx_aload_n (j := 0) hC dX1_faultPlace_17 rfl rfl ?_
      refine mx_get (v := vR (mj_r M l0 1)) hC tf_X1_18 ht1 rfl dX1_faultPlace_18 ?_
      refine mx_aload_n (j := 0) hC dX1_faultPlace_21 rfl rfl ?_
      refine mx_get (v := vR (mj_r M l0 0)) hC tf_X1_9 ht1 rfl dX1_faultPlace_22 ?_
      refine mx_iload_n (j := 1) hC dX1_faultPlace_25 rfl rfl ?_
      obtain ⟨ht8, h⟩ := h
      obtain ⟨hi9, h⟩ := h
      refine mx_iaload hC ht8 hi9 dX1_faultPlace_26 ?_
      obtain ⟨ht10, h⟩ := h
      refine mx_callV (inj := mj_jB) (As := [vI (mj_i M (mj_r M l0 0) (l1 : Int32).toNatClampNeg)]) (st := []) hC (ct_X2_takes (mj_r M l0 1) (mj_i M (mj_r M l0 0) (l1 : Int32).toNatClampNeg) M _ h) ty_X2_takes tw479 ht10 rfl (Nat.le_of_ble_eq_true rfl) ⟨rfl, rfl, ⟨by decide, by decide⟩, by decide, by decide⟩ dX1_faultPlace_27 (fun r11 M12 h => ?_)
      show mj_X g 30 [(0, vR l0), (1, vI l1)] [vI (mj_b r11)] M12 0 0
      refine mx_ifneB (tgt := 35) hC dX1_faultPlace_30 (by decide) (fun hc13 => ?_) (fun hc13 => ?_)
      · replace h := mj_yy hc13 h
        refine mx_iinc (j := 1) (v := l1 + 1) (L' := [(1, vI (l1 + 1)), (0, vR l0)]) hC dX1_faultPlace_35 rfl rfl (by decide) rfl ?_
        refine mx_goto (tgt := 9) hC dX1_faultPlace_38 (by decide) ?_
        refine mx_sub (L' := [(0, vR l0), (1, vI (l1 + 1))]) [1, 0] rfl ?_
        exact show mj_X g 9 [(0, vR l0), (1, vI (l1 + 1))] [] M12 0 0 from (ih l0 (l1 + 1) M12 h)
      · replace h := mj_nn hc13 h
        refine mx_iload_n (j := 1) hC dX1_faultPlace_33 rfl rfl ?_
        exact mx_iret hC hE rfl dX1_faultPlace_34 h
set_option maxHeartbeats 4000000 in
set_option maxRecDepth 100000 in
theorem ct_X1_faultPlace {l : Launch} {base : Nat} {D : va_G} {A : mj_AT} (l0 : Nat) (M : mj_M) (post : Int32 → mj_M → Prop) (h : vc_X1_faultPlace l0 M post) : mj_Met l base D A mj_jI yX1_faultPlace cX1_faultPlace 2 (some .int) rm_X1_faultPlace 0 0 [vR l0] M post := by
  refine mj_entry (by decide +kernel) (Nat.le_of_ble_eq_true rfl) (fun g hC hE h1 h2 h3 h4 => ?_)
  show mj_X g 0 [(0, vR l0)] [] M 0 0
  simp only [vc_X1_faultPlace] at h
  refine mx_aload_n (j := 0) hC dX1_faultPlace_0 rfl rfl ?_
  obtain ⟨ht14, h⟩ := h
  refine mx_get (v := vR (mj_r M l0 1)) hC tf_X1_18 ht14 rfl dX1_faultPlace_1 ?_
  obtain ⟨ht15, h⟩ := h
  refine mx_callV (inj := mj_jV) (As := []) (st := []) hC (ct_X2_restart (mj_r M l0 1) M _ h) ty_X2_restart tw475 ht15 rfl (Nat.le_of_ble_eq_true rfl) ⟨rfl, rfl, ⟨by decide, by decide⟩, by decide, by decide⟩ dX1_faultPlace_4 (fun _ M16 h => ?_)
  show mj_X g 7 [(0, vR l0)] [] M16 0 0
  refine mx_iconst (v := 0) hC dX1_faultPlace_7 (by decide) ?_
  refine mx_istore_n (L' := [(1, vI 0), (0, vR l0)]) hC dX1_faultPlace_8 rfl (by decide) rfl ?_
  refine mx_sub (L' := [(0, vR l0), (1, vI 0)]) [1, 0] rfl ?_
  exact show mj_X g 9 [(0, vR l0), (1, vI 0)] [] M16 0 0 from (xb_X1_faultPlace_9 hC hE 60 l0 0 M16 h)
theorem tw87 : (Jvm.Cond.fieldLink "LeaseLand$Acts" (45 : Nat) "LeaseLand$Acts" "last" "LLeaseLand$Act;") ∈ mj_tbl := mj_w 93 (by decide +kernel) (by decide +kernel)
theorem tf_X1_45 : mj_F 1 4 (.object "LeaseLand$Act") false "LeaseLand$Acts" 45 := ⟨_, tk1, by decide, rfl, rfl, rfl, tw87⟩
theorem tw85 : (Jvm.Cond.fieldLink "LeaseLand$Acts" (52 : Nat) "LeaseLand$Acts" "count" "I") ∈ mj_tbl := mj_w 91 (by decide +kernel) (by decide +kernel)
theorem tf_X1_52 : mj_F 1 3 .int false "LeaseLand$Acts" 52 := ⟨_, tk1, by decide, rfl, rfl, rfl, tw85⟩
theorem tw18 : (Jvm.Cond.initialized "LeaseLand$Act") ∈ mj_tbl := mj_w 24 (by decide +kernel) (by decide +kernel)
theorem tw603 : (Jvm.Cond.classLink "LeaseLand$Acts" (37 : Nat) "LeaseLand$Act") ∈ mj_tbl := mj_w 609 (by decide +kernel) (by decide +kernel)
theorem tw604 : (Jvm.Cond.instantiable "LeaseLand$Act" (4 : Nat)) ∈ mj_tbl := mj_w 610 (by decide +kernel) (by decide +kernel)
theorem tw605 : (Jvm.Cond.methodLink "LeaseLand$Acts" (39 : Nat) ({ cls := "java/util/Arrays", name := "copyOf", desc := "([II)[I" } : Jvm.MethodName)) ∈ mj_tbl := mj_w 611 (by decide +kernel) (by decide +kernel)
theorem tw619 : (Jvm.Cond.methodLink "LeaseLand$Acts" (49 : Nat) ({ cls := "LeaseLand$Act", name := "<init>", desc := "(II[ILLeaseLand$Act;)V" } : Jvm.MethodName)) ∈ mj_tbl := mj_w 625 (by decide +kernel) (by decide +kernel)
theorem tw607 : (Jvm.Cond.code ({ cls := "java/util/Arrays", name := "copyOf", desc := "([II)[I" } : Jvm.MethodName) prog_23_method_123_code (3 : Nat) (Option.some (Jvm.ClassFile.FieldType.array Jvm.ClassFile.FieldType.int))) ∈ mj_tbl := mj_w 613 (by decide +kernel) (by decide +kernel)
theorem tw606 : (Jvm.Cond.static ({ cls := "java/util/Arrays", name := "copyOf", desc := "([II)[I" } : Jvm.MethodName)) ∈ mj_tbl := mj_w 612 (by decide +kernel) (by decide +kernel)
theorem ty_J7_copyOf_59c91 : mj_YS yJ7_copyOf_59c91 cJ7_copyOf_59c91 3 (some (.array .int)) 2 := ⟨⟨tw607, tw3, by decide +kernel, by decide +kernel, by decide +kernel⟩, tw606⟩
theorem tw621 : (Jvm.Cond.code ({ cls := "LeaseLand$Act", name := "<init>", desc := "(II[ILLeaseLand$Act;)V" } : Jvm.MethodName) prog_2_method_1_code (5 : Nat) (Option.none : Option Jvm.ClassFile.FieldType)) ∈ mj_tbl := mj_w 627 (by decide +kernel) (by decide +kernel)
theorem tw620 : (Jvm.Cond.instanceMethod ({ cls := "LeaseLand$Act", name := "<init>", desc := "(II[ILLeaseLand$Act;)V" } : Jvm.MethodName)) ∈ mj_tbl := mj_w 626 (by decide +kernel) (by decide +kernel)
theorem ty_X0_init : mj_YI yX0_init cX0_init 5 4 := ⟨⟨tw621, tw18, by decide +kernel, by decide +kernel, by decide +kernel⟩, tw620, rfl⟩
def rm_X1_pass : Room := { frames := 3, cells := 2, slots := 52, locals := 82 }
theorem dX1_pass_0 : decode cX1_pass 0 = .ok (.aload_n 0, 1) := by decide +kernel
theorem dX1_pass_1 : decode cX1_pass 1 = .ok (.new 37, 3) := by decide +kernel
theorem dX1_pass_4 : decode cX1_pass 4 = .ok (.dup, 1) := by decide +kernel
theorem dX1_pass_5 : decode cX1_pass 5 = .ok (.iload_n 1, 1) := by decide +kernel
theorem dX1_pass_6 : decode cX1_pass 6 = .ok (.iload_n 2, 1) := by decide +kernel
theorem dX1_pass_7 : decode cX1_pass 7 = .ok (.aload_n 0, 1) := by decide +kernel
theorem dX1_pass_8 : decode cX1_pass 8 = .ok (.getfield 9, 3) := by decide +kernel
theorem dX1_pass_11 : decode cX1_pass 11 = .ok (.aload_n 0, 1) := by decide +kernel
theorem dX1_pass_12 : decode cX1_pass 12 = .ok (.getfield 22, 3) := by decide +kernel
theorem dX1_pass_15 : decode cX1_pass 15 = .ok (.invokestatic 39, 3) := by decide +kernel
theorem dX1_pass_18 : decode cX1_pass 18 = .ok (.aload_n 0, 1) := by decide +kernel
theorem dX1_pass_19 : decode cX1_pass 19 = .ok (.getfield 45, 3) := by decide +kernel
theorem dX1_pass_22 : decode cX1_pass 22 = .ok (.invokespecial 49, 3) := by decide +kernel
theorem dX1_pass_25 : decode cX1_pass 25 = .ok (.putfield 45, 3) := by decide +kernel
theorem dX1_pass_28 : decode cX1_pass 28 = .ok (.aload_n 0, 1) := by decide +kernel
theorem dX1_pass_29 : decode cX1_pass 29 = .ok (.iconst 0, 1) := by decide +kernel
theorem dX1_pass_30 : decode cX1_pass 30 = .ok (.putfield 22, 3) := by decide +kernel
theorem dX1_pass_33 : decode cX1_pass 33 = .ok (.aload_n 0, 1) := by decide +kernel
theorem dX1_pass_34 : decode cX1_pass 34 = .ok (.dup, 1) := by decide +kernel
theorem dX1_pass_35 : decode cX1_pass 35 = .ok (.getfield 52, 3) := by decide +kernel
theorem dX1_pass_38 : decode cX1_pass 38 = .ok (.iconst 1, 1) := by decide +kernel
theorem dX1_pass_39 : decode cX1_pass 39 = .ok (.iadd, 1) := by decide +kernel
theorem dX1_pass_40 : decode cX1_pass 40 = .ok (.putfield 52, 3) := by decide +kernel
theorem dX1_pass_43 : decode cX1_pass 43 = .ok (.aload_n 0, 1) := by decide +kernel
theorem dX1_pass_44 : decode cX1_pass 44 = .ok (.getfield 52, 3) := by decide +kernel
theorem dX1_pass_47 : decode cX1_pass 47 = .ok (.ireturn, 1) := by decide +kernel
def vc_X1_pass (l0 : Nat) (l1 : Int32) (l2 : Int32) (M : mj_M) (post : Int32 → mj_M → Prop) : Prop := ∀ M1 : mj_M, M1 = mj_new M 0 → mj_tag M1 l0 = 2 ∧ vc_J7_copyOf_59c91 (mj_r M1 l0 0) (mj_i M1 l0 2) M1 (fun r4 M5 => mj_tag M5 l0 = 2 ∧ (¬ (mj_nx M) = 0) ∧ vc_X0_init (mj_nx M) l1 l2 r4 (mj_r M5 l0 4) M5 (fun _ M8 => mj_tag M8 l0 = 2 ∧ post (mj_i (mj_wi (mj_wi (mj_wr M8 l0 4 (mj_nx M)) l0 2 0) l0 3 ((mj_i (mj_wi (mj_wr M8 l0 4 (mj_nx M)) l0 2 0) l0 3) + 1)) l0 3) (mj_wi (mj_wi (mj_wr M8 l0 4 (mj_nx M)) l0 2 0) l0 3 ((mj_i (mj_wi (mj_wr M8 l0 4 (mj_nx M)) l0 2 0) l0 3) + 1))))
set_option maxHeartbeats 4000000 in
set_option maxRecDepth 100000 in
theorem ct_X1_pass {l : Launch} {base : Nat} {D : va_G} {A : mj_AT} (l0 : Nat) (l1 : Int32) (l2 : Int32) (M : mj_M) (post : Int32 → mj_M → Prop) (h : vc_X1_pass l0 l1 l2 M post) : mj_Met l base D A mj_jI yX1_pass cX1_pass 3 (some .int) rm_X1_pass 2 52 [vR l0, vI l1, vI l2] M post := by
  refine mj_entry (by decide +kernel) (Nat.le_of_ble_eq_true rfl) (fun g hC hE h1 h2 h3 h4 => ?_)
  show mj_X g 0 [(0, vR l0), (1, vI l1), (2, vI l2)] [] M 0 0
  simp only [vc_X1_pass] at h
  refine mx_aload_n (j := 0) hC dX1_pass_0 rfl rfl ?_
  refine mx_new (k' := 1) (n' := 4) hC tk0 tw603 tw604 tw18 ⟨rfl, rfl, by decide, by decide⟩ dX1_pass_1 ?_
  obtain ⟨M1, eM1⟩ : ∃ z : mj_M, z = mj_new M 0 := ⟨_, rfl⟩
  replace h := h M1 eM1
  have ht2 : mj_tag M1 (mj_nx M) = 1 := by rw [eM1]; exact mj_u1_at _
  refine mx_setM eM1.symm ?_
  refine mx_dup hC dX1_pass_4 rfl ?_
  refine mx_iload_n (j := 1) hC dX1_pass_5 rfl rfl ?_
  refine mx_iload_n (j := 2) hC dX1_pass_6 rfl rfl ?_
  refine mx_aload_n (j := 0) hC dX1_pass_7 rfl rfl ?_
  obtain ⟨ht3, h⟩ := h
  refine mx_get (v := vR (mj_r M1 l0 0)) hC tf_X1_9 ht3 rfl dX1_pass_8 ?_
  refine mx_aload_n (j := 0) hC dX1_pass_11 rfl rfl ?_
  refine mx_get (v := vI (mj_i M1 l0 2)) hC tf_X1_22 ht3 rfl dX1_pass_12 ?_
  refine mx_callS (inj := mj_jR) (As := [vR (mj_r M1 l0 0), vI (mj_i M1 l0 2)]) (st := [vI l2, vI l1, vR (mj_nx M), vR (mj_nx M), vR l0]) hC (ct_J7_copyOf_59c91 (mj_r M1 l0 0) (mj_i M1 l0 2) M1 _ h) ty_J7_copyOf_59c91 tw605 rfl (Nat.le_of_ble_eq_true rfl) ⟨rfl, rfl, ⟨by decide, by decide⟩, by decide, by decide⟩ dX1_pass_15 (fun r4 M5 h => ?_)
  show mj_X g 18 [(0, vR l0), (1, vI l1), (2, vI l2)] [vR r4, vI l2, vI l1, vR (mj_nx M), vR (mj_nx M), vR l0] M5 2 52
  refine mx_aload_n (j := 0) hC dX1_pass_18 rfl rfl ?_
  obtain ⟨ht6, h⟩ := h
  refine mx_get (v := vR (mj_r M5 l0 4)) hC tf_X1_45 ht6 rfl dX1_pass_19 ?_
  obtain ⟨hn7, h⟩ := h
  refine mx_callI (As := [vI l1, vI l2, vR r4, vR (mj_r M5 l0 4)]) (st := [vR (mj_nx M), vR l0]) hC (ct_X0_init (mj_nx M) l1 l2 r4 (mj_r M5 l0 4) M5 _ h) ty_X0_init tw619 hn7 rfl (Nat.le_of_ble_eq_true rfl) ⟨rfl, rfl, ⟨by decide, by decide⟩, by decide, by decide⟩ dX1_pass_22 (fun _ M8 h => ?_)
  show mj_X g 25 [(0, vR l0), (1, vI l1), (2, vI l2)] [vR (mj_nx M), vR l0] M8 2 52
  obtain ⟨ht9, h⟩ := h
  refine mx_put (v := vR (mj_nx M)) (M1 := mj_wr M8 l0 4 (mj_nx M)) hC tf_X1_45 ht9 (Or.inl rfl) (mj_fitR (mj_nx M) _) (mj_off_wr _ _ _ _) mj_put_wr dX1_pass_25 ?_
  refine mx_aload_n (j := 0) hC dX1_pass_28 rfl rfl ?_
  refine mx_iconst (v := 0) hC dX1_pass_29 (by decide) ?_
  refine mx_put (v := vI 0) (M1 := mj_wi (mj_wr M8 l0 4 (mj_nx M)) l0 2 0) hC tf_X1_22 ht9 (Or.inl rfl) ⟨rfl, rfl⟩ (mj_off_wi _ _ _ _) mj_put_wi dX1_pass_30 ?_
  refine mx_aload_n (j := 0) hC dX1_pass_33 rfl rfl ?_
  refine mx_dup hC dX1_pass_34 rfl ?_
  refine mx_get (v := vI (mj_i (mj_wi (mj_wr M8 l0 4 (mj_nx M)) l0 2 0) l0 3)) hC tf_X1_52 ht9 rfl dX1_pass_35 ?_
  refine mx_iconst (v := 1) hC dX1_pass_38 (by decide) ?_
  refine mx_iadd hC dX1_pass_39 ?_
  refine mx_put (v := vI ((mj_i (mj_wi (mj_wr M8 l0 4 (mj_nx M)) l0 2 0) l0 3) + 1)) (M1 := mj_wi (mj_wi (mj_wr M8 l0 4 (mj_nx M)) l0 2 0) l0 3 ((mj_i (mj_wi (mj_wr M8 l0 4 (mj_nx M)) l0 2 0) l0 3) + 1)) hC tf_X1_52 ht9 (Or.inl rfl) ⟨rfl, rfl⟩ (mj_off_wi _ _ _ _) mj_put_wi dX1_pass_40 ?_
  refine mx_aload_n (j := 0) hC dX1_pass_43 rfl rfl ?_
  refine mx_get (v := vI (mj_i (mj_wi (mj_wi (mj_wr M8 l0 4 (mj_nx M)) l0 2 0) l0 3 ((mj_i (mj_wi (mj_wr M8 l0 4 (mj_nx M)) l0 2 0) l0 3) + 1)) l0 3)) hC tf_X1_52 ht9 rfl dX1_pass_44 ?_
  exact mx_iret hC hE rfl dX1_pass_47 h
theorem tw624 : (Jvm.Cond.fieldLink "LeaseLand$Acts" (55 : Nat) "LeaseLand$Act" "kind" "I") ∈ mj_tbl := mj_w 630 (by decide +kernel) (by decide +kernel)
theorem tf_X1_55 : mj_F 0 0 .int true "LeaseLand$Acts" 55 := ⟨_, tk0, by decide, rfl, rfl, rfl, tw624⟩
theorem tw626 : (Jvm.Cond.fieldLink "LeaseLand$Acts" (58 : Nat) "LeaseLand$Act" "day" "I") ∈ mj_tbl := mj_w 632 (by decide +kernel) (by decide +kernel)
theorem tf_X1_58 : mj_F 0 1 .int true "LeaseLand$Acts" 58 := ⟨_, tk0, by decide, rfl, rfl, rfl, tw626⟩
theorem tw630 : (Jvm.Cond.fieldLink "LeaseLand$Acts" (61 : Nat) "LeaseLand$Act" "earlier" "LLeaseLand$Act;") ∈ mj_tbl := mj_w 636 (by decide +kernel) (by decide +kernel)
theorem tf_X1_61 : mj_F 0 3 (.object "LeaseLand$Act") true "LeaseLand$Acts" 61 := ⟨_, tk0, by decide, rfl, rfl, rfl, tw630⟩
def rm_X1_inForce : Room := { frames := 0, cells := 0, slots := 0, locals := 0 }
theorem dX1_inForce_0 : decode cX1_inForce 0 = .ok (.aconst_null, 1) := by decide +kernel
theorem dX1_inForce_1 : decode cX1_inForce 1 = .ok (.astore_n 3, 1) := by decide +kernel
theorem dX1_inForce_2 : decode cX1_inForce 2 = .ok (.aload_n 0, 1) := by decide +kernel
theorem dX1_inForce_3 : decode cX1_inForce 3 = .ok (.getfield 45, 3) := by decide +kernel
theorem dX1_inForce_6 : decode cX1_inForce 6 = .ok (.astore 4, 2) := by decide +kernel
theorem dX1_inForce_8 : decode cX1_inForce 8 = .ok (.aload 4, 2) := by decide +kernel
theorem dX1_inForce_10 : decode cX1_inForce 10 = .ok (.ifnull 50, 3) := by decide +kernel
theorem dX1_inForce_13 : decode cX1_inForce 13 = .ok (.aload 4, 2) := by decide +kernel
theorem dX1_inForce_15 : decode cX1_inForce 15 = .ok (.getfield 55, 3) := by decide +kernel
theorem dX1_inForce_18 : decode cX1_inForce 18 = .ok (.iload_n 1, 1) := by decide +kernel
theorem dX1_inForce_19 : decode cX1_inForce 19 = .ok (.if_icmp .ne 31, 3) := by decide +kernel
theorem dX1_inForce_22 : decode cX1_inForce 22 = .ok (.aload 4, 2) := by decide +kernel
theorem dX1_inForce_24 : decode cX1_inForce 24 = .ok (.getfield 58, 3) := by decide +kernel
theorem dX1_inForce_27 : decode cX1_inForce 27 = .ok (.iload_n 2, 1) := by decide +kernel
theorem dX1_inForce_28 : decode cX1_inForce 28 = .ok (.if_icmp .gt 22, 3) := by decide +kernel
theorem dX1_inForce_31 : decode cX1_inForce 31 = .ok (.aload_n 3, 1) := by decide +kernel
theorem dX1_inForce_32 : decode cX1_inForce 32 = .ok (.ifnull 15, 3) := by decide +kernel
theorem dX1_inForce_35 : decode cX1_inForce 35 = .ok (.aload 4, 2) := by decide +kernel
theorem dX1_inForce_37 : decode cX1_inForce 37 = .ok (.getfield 58, 3) := by decide +kernel
theorem dX1_inForce_40 : decode cX1_inForce 40 = .ok (.aload_n 3, 1) := by decide +kernel
theorem dX1_inForce_41 : decode cX1_inForce 41 = .ok (.getfield 58, 3) := by decide +kernel
theorem dX1_inForce_44 : decode cX1_inForce 44 = .ok (.if_icmp .le 6, 3) := by decide +kernel
theorem dX1_inForce_47 : decode cX1_inForce 47 = .ok (.aload 4, 2) := by decide +kernel
theorem dX1_inForce_49 : decode cX1_inForce 49 = .ok (.astore_n 3, 1) := by decide +kernel
theorem dX1_inForce_50 : decode cX1_inForce 50 = .ok (.aload 4, 2) := by decide +kernel
theorem dX1_inForce_52 : decode cX1_inForce 52 = .ok (.getfield 61, 3) := by decide +kernel
theorem dX1_inForce_55 : decode cX1_inForce 55 = .ok (.astore 4, 2) := by decide +kernel
theorem dX1_inForce_57 : decode cX1_inForce 57 = .ok (.goto (-49), 3) := by decide +kernel
theorem dX1_inForce_60 : decode cX1_inForce 60 = .ok (.aload_n 3, 1) := by decide +kernel
theorem dX1_inForce_61 : decode cX1_inForce 61 = .ok (.areturn, 1) := by decide +kernel
def vb_X1_inForce_47 (k8 : Int32 → Int32 → Nat → Nat → mj_M → Prop) (post : Nat → mj_M → Prop) (l1 : Int32) (l2 : Int32) (l4 : Nat) (M : mj_M) : Prop := mj_tag M l4 = 1 ∧ k8 l1 l2 l4 (mj_r M l4 3) M
def vb_X1_inForce_8 (post : Nat → mj_M → Prop) : Nat → Int32 → Int32 → Nat → Nat → mj_M → Prop
  | 0 => fun _ _ _ _ _ => False
  | f + 1 => fun l1 l2 l3 l4 M => if l4 = 0 then (post l3 M) else (mj_tag M l4 = 1 ∧ if (mj_i M l4 0) = l1 then (if l2 < (mj_i M l4 1) then (vb_X1_inForce_8 post f l1 l2 l3 (mj_r M l4 3) M) else (if l3 = 0 then (vb_X1_inForce_47 (vb_X1_inForce_8 post f) post l1 l2 l4 M) else (mj_tag M l3 = 1 ∧ if (mj_i M l4 1) ≤ (mj_i M l3 1) then (vb_X1_inForce_8 post f l1 l2 l3 (mj_r M l4 3) M) else (vb_X1_inForce_47 (vb_X1_inForce_8 post f) post l1 l2 l4 M)))) else (vb_X1_inForce_8 post f l1 l2 l3 (mj_r M l4 3) M))
def vc_X1_inForce (l0 : Nat) (l1 : Int32) (l2 : Int32) (M : mj_M) (post : Nat → mj_M → Prop) : Prop := mj_tag M l0 = 2 ∧ vb_X1_inForce_8 post 60 l1 l2 0 (mj_r M l0 4) M
set_option maxHeartbeats 4000000 in
set_option maxRecDepth 100000 in
theorem xb_X1_inForce_47 {g : mj_G} {post : Nat → mj_M → Prop} (hC : mj_C g yX1_inForce cX1_inForce 5 (some (.object "LeaseLand$Act")) rm_X1_inForce) (hE : mj_E g mj_jR post 0 0) {k8 : Int32 → Int32 → Nat → Nat → mj_M → Prop} (hk8 : ∀ (l1 : Int32) (l2 : Int32) (l3 : Nat) (l4 : Nat) (M : mj_M), k8 l1 l2 l3 l4 M → mj_X g 8 [(1, vI l1), (2, vI l2), (3, vR l3), (4, vR l4)] [] M 0 0) (l1 : Int32) (l2 : Int32) (l4 : Nat) (M : mj_M) (h : vb_X1_inForce_47 k8 post l1 l2 l4 M) : mj_X g 47 [(1, vI l1), (2, vI l2), (4, vR l4)] [] M 0 0 := by
  simp only [vb_X1_inForce_47] at h
  refine mx_aload (j := 2) hC dX1_inForce_47 rfl ?_
  refine mx_astore_n (L' := [(3, vR l4), (1, vI l1), (2, vI l2), (4, vR l4)]) hC dX1_inForce_49 rfl (by decide) rfl ?_
  refine mx_aload (j := 3) hC dX1_inForce_50 rfl ?_
  obtain ⟨ht1, h⟩ := h
  refine mx_get (v := vR (mj_r M l4 3)) hC tf_X1_61 ht1 rfl dX1_inForce_52 ?_
  refine mx_astore (L' := [(4, vR (mj_r M l4 3)), (3, vR l4), (1, vI l1), (2, vI l2)]) hC dX1_inForce_55 (by decide) rfl ?_
  refine mx_goto (tgt := 8) hC dX1_inForce_57 (by decide) ?_
  refine mx_sub (L' := [(1, vI l1), (2, vI l2), (3, vR l4), (4, vR (mj_r M l4 3))]) [2, 3, 1, 0] rfl ?_
  exact show mj_X g 8 [(1, vI l1), (2, vI l2), (3, vR l4), (4, vR (mj_r M l4 3))] [] M 0 0 from (hk8 l1 l2 l4 (mj_r M l4 3) M h)
set_option maxHeartbeats 4000000 in
set_option maxRecDepth 100000 in
theorem xb_X1_inForce_8 {g : mj_G} {post : Nat → mj_M → Prop} (hC : mj_C g yX1_inForce cX1_inForce 5 (some (.object "LeaseLand$Act")) rm_X1_inForce) (hE : mj_E g mj_jR post 0 0) : ∀ (f : Nat) (l1 : Int32) (l2 : Int32) (l3 : Nat) (l4 : Nat) (M : mj_M), vb_X1_inForce_8 post f l1 l2 l3 l4 M → mj_X g 8 [(1, vI l1), (2, vI l2), (3, vR l3), (4, vR l4)] [] M 0 0 := by
  intro f
  induction f with
  | zero => exact fun _ _ _ _ _ h => absurd h (fun z => z)
  | succ f ih =>
    intro l1 l2 l3 l4 M h
    simp only [vb_X1_inForce_8] at h
    refine mx_aload (j := 3) hC dX1_inForce_8 rfl ?_
    refine mx_ifnull (tgt := 60) hC dX1_inForce_10 (by decide) (fun hc2 => ?_) (fun hc2 => ?_)
    · replace h := mj_yy hc2 h
      refine mx_aload_n (j := 2) hC dX1_inForce_60 rfl rfl ?_
      exact mx_aret hC hE rfl (Or.inl ⟨_, rfl⟩) dX1_inForce_61 h
    · replace h := mj_nn hc2 h
      refine mx_aload (j := 3) hC dX1_inForce_13 rfl ?_
      obtain ⟨ht3, h⟩ := h
      refine mx_get (v := vI (mj_i M l4 0)) hC tf_X1_55 ht3 rfl dX1_inForce_15 ?_
      refine mx_iload_n (j := 0) hC dX1_inForce_18 rfl rfl ?_
      refine mx_icmpne (tgt := 50) hC dX1_inForce_19 (by decide) (fun hc4 => ?_) (fun hc4 => ?_)
      · replace h := mj_nn hc4 h
        refine mx_aload (j := 3) hC dX1_inForce_50 rfl ?_
        refine mx_get (v := vR (mj_r M l4 3)) hC tf_X1_61 ht3 rfl dX1_inForce_52 ?_
        refine mx_astore (L' := [(4, vR (mj_r M l4 3)), (1, vI l1), (2, vI l2), (3, vR l3)]) hC dX1_inForce_55 (by decide) rfl ?_
        refine mx_goto (tgt := 8) hC dX1_inForce_57 (by decide) ?_
        refine mx_sub (L' := [(1, vI l1), (2, vI l2), (3, vR l3), (4, vR (mj_r M l4 3))]) [1, 2, 3, 0] rfl ?_
        exact show mj_X g 8 [(1, vI l1), (2, vI l2), (3, vR l3), (4, vR (mj_r M l4 3))] [] M 0 0 from (ih l1 l2 l3 (mj_r M l4 3) M h)
      · replace h := mj_yy hc4 h
        refine mx_aload (j := 3) hC dX1_inForce_22 rfl ?_
        refine mx_get (v := vI (mj_i M l4 1)) hC tf_X1_58 ht3 rfl dX1_inForce_24 ?_
        refine mx_iload_n (j := 1) hC dX1_inForce_27 rfl rfl ?_
        refine mx_icmpgt (tgt := 50) hC dX1_inForce_28 (by decide) (fun hc5 => ?_) (fun hc5 => ?_)
        · replace h := mj_yy hc5 h
          refine mx_aload (j := 3) hC dX1_inForce_50 rfl ?_
          refine mx_get (v := vR (mj_r M l4 3)) hC tf_X1_61 ht3 rfl dX1_inForce_52 ?_
          refine mx_astore (L' := [(4, vR (mj_r M l4 3)), (1, vI l1), (2, vI l2), (3, vR l3)]) hC dX1_inForce_55 (by decide) rfl ?_
          refine mx_goto (tgt := 8) hC dX1_inForce_57 (by decide) ?_
          refine mx_sub (L' := [(1, vI l1), (2, vI l2), (3, vR l3), (4, vR (mj_r M l4 3))]) [1, 2, 3, 0] rfl ?_
          exact show mj_X g 8 [(1, vI l1), (2, vI l2), (3, vR l3), (4, vR (mj_r M l4 3))] [] M 0 0 from (ih l1 l2 l3 (mj_r M l4 3) M h)
        · replace h := mj_nn hc5 h
          refine mx_aload_n (j := 2) hC dX1_inForce_31 rfl rfl ?_
          refine mx_ifnull (tgt := 47) hC dX1_inForce_32 (by decide) (fun hc6 => ?_) (fun hc6 => ?_)
          · replace h := mj_yy hc6 h
            refine mx_sub (L' := [(1, vI l1), (2, vI l2), (4, vR l4)]) [0, 1, 3] rfl ?_
            exact show mj_X g 47 [(1, vI l1), (2, vI l2), (4, vR l4)] [] M 0 0 from (xb_X1_inForce_47 hC hE ih l1 l2 l4 M h)
          · replace h := mj_nn hc6 h
            refine mx_aload (j := 3) hC dX1_inForce_35 rfl ?_
            refine mx_get (v := vI (mj_i M l4 1)) hC tf_X1_58 ht3 rfl dX1_inForce_37 ?_
            refine mx_aload_n (j := 2) hC dX1_inForce_40 rfl rfl ?_
            obtain ⟨ht7, h⟩ := h
            refine mx_get (v := vI (mj_i M l3 1)) hC tf_X1_58 ht7 rfl dX1_inForce_41 ?_
            refine mx_icmple (tgt := 50) hC dX1_inForce_44 (by decide) (fun hc8 => ?_) (fun hc8 => ?_)
            · replace h := mj_yy hc8 h
              refine mx_aload (j := 3) hC dX1_inForce_50 rfl ?_
              refine mx_get (v := vR (mj_r M l4 3)) hC tf_X1_61 ht3 rfl dX1_inForce_52 ?_
              refine mx_astore (L' := [(4, vR (mj_r M l4 3)), (1, vI l1), (2, vI l2), (3, vR l3)]) hC dX1_inForce_55 (by decide) rfl ?_
              refine mx_goto (tgt := 8) hC dX1_inForce_57 (by decide) ?_
              refine mx_sub (L' := [(1, vI l1), (2, vI l2), (3, vR l3), (4, vR (mj_r M l4 3))]) [1, 2, 3, 0] rfl ?_
              exact show mj_X g 8 [(1, vI l1), (2, vI l2), (3, vR l3), (4, vR (mj_r M l4 3))] [] M 0 0 from (ih l1 l2 l3 (mj_r M l4 3) M h)
            · replace h := mj_nn hc8 h
              refine mx_sub (L' := [(1, vI l1), (2, vI l2), (4, vR l4)]) [0, 1, 3] rfl ?_
              exact show mj_X g 47 [(1, vI l1), (2, vI l2), (4, vR l4)] [] M 0 0 from (xb_X1_inForce_47 hC hE ih l1 l2 l4 M h)
set_option maxHeartbeats 4000000 in
set_option maxRecDepth 100000 in
theorem ct_X1_inForce {l : Launch} {base : Nat} {D : va_G} {A : mj_AT} (l0 : Nat) (l1 : Int32) (l2 : Int32) (M : mj_M) (post : Nat → mj_M → Prop) (h : vc_X1_inForce l0 l1 l2 M post) : mj_Met l base D A mj_jR yX1_inForce cX1_inForce 5 (some (.object "LeaseLand$Act")) rm_X1_inForce 0 0 [vR l0, vI l1, vI l2] M post := by
  refine mj_entry (by decide +kernel) (Nat.le_of_ble_eq_true rfl) (fun g hC hE h1 h2 h3 h4 => ?_)
  show mj_X g 0 [(0, vR l0), (1, vI l1), (2, vI l2)] [] M 0 0
  simp only [vc_X1_inForce] at h
  refine mx_null hC dX1_inForce_0 ?_
  refine mx_astore_n (L' := [(3, vR 0), (0, vR l0), (1, vI l1), (2, vI l2)]) hC dX1_inForce_1 rfl (by decide) rfl ?_
  refine mx_aload_n (j := 1) hC dX1_inForce_2 rfl rfl ?_
  obtain ⟨ht9, h⟩ := h
  refine mx_get (v := vR (mj_r M l0 4)) hC tf_X1_45 ht9 rfl dX1_inForce_3 ?_
  refine mx_astore (L' := [(4, vR (mj_r M l0 4)), (3, vR 0), (0, vR l0), (1, vI l1), (2, vI l2)]) hC dX1_inForce_6 (by decide) rfl ?_
  refine mx_sub (L' := [(1, vI l1), (2, vI l2), (3, vR 0), (4, vR (mj_r M l0 4))]) [3, 4, 1, 0] rfl ?_
  exact show mj_X g 8 [(1, vI l1), (2, vI l2), (3, vR 0), (4, vR (mj_r M l0 4))] [] M 0 0 from (xb_X1_inForce_8 hC hE 60 l1 l2 0 (mj_r M l0 4) M h)
theorem tw104 : (Jvm.Cond.methodLink "LeaseLand$Reading" (1 : Nat) ({ cls := "java/lang/Object", name := "<init>", desc := "()V" } : Jvm.MethodName)) ∈ mj_tbl := mj_w 110 (by decide +kernel) (by decide +kernel)
def rm_X8_init : Room := { frames := 1, cells := 0, slots := 0, locals := 20 }
theorem dX8_init_0 : decode cX8_init 0 = .ok (.aload_n 0, 1) := by decide +kernel
theorem dX8_init_1 : decode cX8_init 1 = .ok (.invokespecial 1, 3) := by decide +kernel
theorem dX8_init_4 : decode cX8_init 4 = .ok (.return_, 1) := by decide +kernel
def vc_X8_init (l0 : Nat) (M : mj_M) (post : Unit → mj_M → Prop) : Prop := (¬ l0 = 0) ∧ post () M
set_option maxHeartbeats 4000000 in
set_option maxRecDepth 100000 in
theorem ct_X8_init {l : Launch} {base : Nat} {D : va_G} {A : mj_AT} (l0 : Nat) (M : mj_M) (post : Unit → mj_M → Prop) (h : vc_X8_init l0 M post) : mj_Met l base D A mj_jV yX8_init cX8_init 1 (none) rm_X8_init 0 0 [vR l0] M post := by
  refine mj_entry (by decide +kernel) (Nat.le_of_ble_eq_true rfl) (fun g hC hE h1 h2 h3 h4 => ?_)
  show mj_X g 0 [(0, vR l0)] [] M 0 0
  simp only [vc_X8_init] at h
  refine mx_aload_n (j := 0) hC dX8_init_0 rfl rfl ?_
  obtain ⟨hn1, h⟩ := h
  refine mx_oinit hC tw104 tw_oi tw_oc hn1 (Nat.le_of_ble_eq_true rfl) ⟨by decide, by decide⟩ dX8_init_1 ?_
  exact mx_vret hC hE rfl dX8_init_4 h
theorem tw108 : (Jvm.Cond.fieldLink "LeaseLand$Reading" (52 : Nat) "LeaseLand$Reading" "depth" "I") ∈ mj_tbl := mj_w 114 (by decide +kernel) (by decide +kernel)
theorem tk8 : mj_KC 8 (RX8, TX8, 8, tyX8) := ⟨rfl, fun w hw => List.mem_filter.mpr ⟨(goodIn_r (big := lw_tbl) (u_ws RX8 TX8 8) [119, 121, 123, 125, 127, 129, 131, 133] (by decide +kernel) (by decide +kernel) w hw).1, List.all_eq_true.mp (show (u_ws RX8 TX8 8).all goodWord = true by decide +kernel) w hw⟩, tyX8_ok, nmX8, by decide⟩
theorem tf_X8_52 : mj_F 8 3 .int false "LeaseLand$Reading" 52 := ⟨_, tk8, by decide, rfl, rfl, rfl, tw108⟩
theorem tw105 : (Jvm.Cond.fieldLink "LeaseLand$Reading" (58 : Nat) "LeaseLand$Reading" "any" "J") ∈ mj_tbl := mj_w 111 (by decide +kernel) (by decide +kernel)
theorem tf_X8_58 : mj_F 8 0 .long false "LeaseLand$Reading" 58 := ⟨_, tk8, by decide, rfl, rfl, rfl, tw105⟩
theorem tw106 : (Jvm.Cond.fieldLink "LeaseLand$Reading" (64 : Nat) "LeaseLand$Reading" "all" "J") ∈ mj_tbl := mj_w 112 (by decide +kernel) (by decide +kernel)
theorem tf_X8_64 : mj_F 8 1 .long false "LeaseLand$Reading" 64 := ⟨_, tk8, by decide, rfl, rfl, rfl, tw106⟩
theorem tw107 : (Jvm.Cond.fieldLink "LeaseLand$Reading" (67 : Nat) "LeaseLand$Reading" "not" "J") ∈ mj_tbl := mj_w 113 (by decide +kernel) (by decide +kernel)
theorem tf_X8_67 : mj_F 8 2 .long false "LeaseLand$Reading" 67 := ⟨_, tk8, by decide, rfl, rfl, rfl, tw107⟩
theorem tw669 : (Jvm.Cond.constantLong "LeaseLand$Reading" (62 : Nat) (-1 : Int64)) ∈ mj_tbl := mj_w 675 (by decide +kernel) (by decide +kernel)
def rm_X8_openText : Room := { frames := 0, cells := 0, slots := 0, locals := 0 }
theorem dX8_openText_0 : decode cX8_openText 0 = .ok (.lconst 1, 1) := by decide +kernel
theorem dX8_openText_1 : decode cX8_openText 1 = .ok (.aload_n 0, 1) := by decide +kernel
theorem dX8_openText_2 : decode cX8_openText 2 = .ok (.getfield 52, 3) := by decide +kernel
theorem dX8_openText_5 : decode cX8_openText 5 = .ok (.lshl, 1) := by decide +kernel
theorem dX8_openText_6 : decode cX8_openText 6 = .ok (.lstore_n 1, 1) := by decide +kernel
theorem dX8_openText_7 : decode cX8_openText 7 = .ok (.aload_n 0, 1) := by decide +kernel
theorem dX8_openText_8 : decode cX8_openText 8 = .ok (.dup, 1) := by decide +kernel
theorem dX8_openText_9 : decode cX8_openText 9 = .ok (.getfield 58, 3) := by decide +kernel
theorem dX8_openText_12 : decode cX8_openText 12 = .ok (.lload_n 1, 1) := by decide +kernel
theorem dX8_openText_13 : decode cX8_openText 13 = .ok (.ldc2_w 62, 3) := by decide +kernel
theorem dX8_openText_16 : decode cX8_openText 16 = .ok (.lxor, 1) := by decide +kernel
theorem dX8_openText_17 : decode cX8_openText 17 = .ok (.land, 1) := by decide +kernel
theorem dX8_openText_18 : decode cX8_openText 18 = .ok (.putfield 58, 3) := by decide +kernel
theorem dX8_openText_21 : decode cX8_openText 21 = .ok (.aload_n 0, 1) := by decide +kernel
theorem dX8_openText_22 : decode cX8_openText 22 = .ok (.dup, 1) := by decide +kernel
theorem dX8_openText_23 : decode cX8_openText 23 = .ok (.getfield 64, 3) := by decide +kernel
theorem dX8_openText_26 : decode cX8_openText 26 = .ok (.lload_n 1, 1) := by decide +kernel
theorem dX8_openText_27 : decode cX8_openText 27 = .ok (.lor, 1) := by decide +kernel
theorem dX8_openText_28 : decode cX8_openText 28 = .ok (.putfield 64, 3) := by decide +kernel
theorem dX8_openText_31 : decode cX8_openText 31 = .ok (.aload_n 0, 1) := by decide +kernel
theorem dX8_openText_32 : decode cX8_openText 32 = .ok (.dup, 1) := by decide +kernel
theorem dX8_openText_33 : decode cX8_openText 33 = .ok (.getfield 67, 3) := by decide +kernel
theorem dX8_openText_36 : decode cX8_openText 36 = .ok (.lload_n 1, 1) := by decide +kernel
theorem dX8_openText_37 : decode cX8_openText 37 = .ok (.ldc2_w 62, 3) := by decide +kernel
theorem dX8_openText_40 : decode cX8_openText 40 = .ok (.lxor, 1) := by decide +kernel
theorem dX8_openText_41 : decode cX8_openText 41 = .ok (.land, 1) := by decide +kernel
theorem dX8_openText_42 : decode cX8_openText 42 = .ok (.putfield 67, 3) := by decide +kernel
theorem dX8_openText_45 : decode cX8_openText 45 = .ok (.return_, 1) := by decide +kernel
def vc_X8_openText (l0 : Nat) (M : mj_M) (post : Unit → mj_M → Prop) : Prop := mj_tag M l0 = 9 ∧ post () (mj_wl (mj_wl (mj_wl M l0 0 ((mj_l M l0 0) &&& ((1 <<< (((mj_i M l0 3) : Int32).toInt64 &&& 63)) ^^^ ((-1))))) l0 1 ((mj_l (mj_wl M l0 0 ((mj_l M l0 0) &&& ((1 <<< (((mj_i M l0 3) : Int32).toInt64 &&& 63)) ^^^ ((-1))))) l0 1) ||| (1 <<< (((mj_i M l0 3) : Int32).toInt64 &&& 63)))) l0 2 ((mj_l (mj_wl (mj_wl M l0 0 ((mj_l M l0 0) &&& ((1 <<< (((mj_i M l0 3) : Int32).toInt64 &&& 63)) ^^^ ((-1))))) l0 1 ((mj_l (mj_wl M l0 0 ((mj_l M l0 0) &&& ((1 <<< (((mj_i M l0 3) : Int32).toInt64 &&& 63)) ^^^ ((-1))))) l0 1) ||| (1 <<< (((mj_i M l0 3) : Int32).toInt64 &&& 63)))) l0 2) &&& ((1 <<< (((mj_i M l0 3) : Int32).toInt64 &&& 63)) ^^^ ((-1)))))
set_option maxHeartbeats 4000000 in
set_option maxRecDepth 100000 in
theorem ct_X8_openText {l : Launch} {base : Nat} {D : va_G} {A : mj_AT} (l0 : Nat) (M : mj_M) (post : Unit → mj_M → Prop) (h : vc_X8_openText l0 M post) : mj_Met l base D A mj_jV yX8_openText cX8_openText 3 (none) rm_X8_openText 0 0 [vR l0] M post := by
  refine mj_entry (by decide +kernel) (Nat.le_of_ble_eq_true rfl) (fun g hC hE h1 h2 h3 h4 => ?_)
  show mj_X g 0 [(0, vR l0)] [] M 0 0
  simp only [vc_X8_openText] at h
  refine mx_lconst (v := 1) hC dX8_openText_0 (by decide) ?_
  refine mx_aload_n (j := 0) hC dX8_openText_1 rfl rfl ?_
  obtain ⟨ht1, h⟩ := h
  refine mx_get (v := vI (mj_i M l0 3)) hC tf_X8_52 ht1 rfl dX8_openText_2 ?_
  refine mx_lshl hC dX8_openText_5 ?_
  refine mx_lstore_n (L' := [(1, vL (1 <<< (((mj_i M l0 3) : Int32).toInt64 &&& 63))), (0, vR l0)]) hC dX8_openText_6 rfl (by decide) rfl ?_
  refine mx_aload_n (j := 1) hC dX8_openText_7 rfl rfl ?_
  refine mx_dup hC dX8_openText_8 rfl ?_
  refine mx_get (v := vL (mj_l M l0 0)) hC tf_X8_58 ht1 rfl dX8_openText_9 ?_
  refine mx_lload_n (j := 0) hC dX8_openText_12 rfl rfl ?_
  refine mx_ldc2 (v := (-1)) hC dX8_openText_13 tw669 ?_
  refine mx_lxor hC dX8_openText_16 ?_
  refine mx_land hC dX8_openText_17 ?_
  refine mx_put (v := vL ((mj_l M l0 0) &&& ((1 <<< (((mj_i M l0 3) : Int32).toInt64 &&& 63)) ^^^ ((-1))))) (M1 := mj_wl M l0 0 ((mj_l M l0 0) &&& ((1 <<< (((mj_i M l0 3) : Int32).toInt64 &&& 63)) ^^^ ((-1))))) hC tf_X8_58 ht1 (Or.inl rfl) ⟨rfl, rfl⟩ (mj_off_wl _ _ _ _) mj_put_wl dX8_openText_18 ?_
  refine mx_aload_n (j := 1) hC dX8_openText_21 rfl rfl ?_
  refine mx_dup hC dX8_openText_22 rfl ?_
  refine mx_get (v := vL (mj_l (mj_wl M l0 0 ((mj_l M l0 0) &&& ((1 <<< (((mj_i M l0 3) : Int32).toInt64 &&& 63)) ^^^ ((-1))))) l0 1)) hC tf_X8_64 ht1 rfl dX8_openText_23 ?_
  refine mx_lload_n (j := 0) hC dX8_openText_26 rfl rfl ?_
  refine mx_lor hC dX8_openText_27 ?_
  refine mx_put (v := vL ((mj_l (mj_wl M l0 0 ((mj_l M l0 0) &&& ((1 <<< (((mj_i M l0 3) : Int32).toInt64 &&& 63)) ^^^ ((-1))))) l0 1) ||| (1 <<< (((mj_i M l0 3) : Int32).toInt64 &&& 63)))) (M1 := mj_wl (mj_wl M l0 0 ((mj_l M l0 0) &&& ((1 <<< (((mj_i M l0 3) : Int32).toInt64 &&& 63)) ^^^ ((-1))))) l0 1 ((mj_l (mj_wl M l0 0 ((mj_l M l0 0) &&& ((1 <<< (((mj_i M l0 3) : Int32).toInt64 &&& 63)) ^^^ ((-1))))) l0 1) ||| (1 <<< (((mj_i M l0 3) : Int32).toInt64 &&& 63)))) hC tf_X8_64 ht1 (Or.inl rfl) ⟨rfl, rfl⟩ (mj_off_wl _ _ _ _) mj_put_wl dX8_openText_28 ?_
  refine mx_aload_n (j := 1) hC dX8_openText_31 rfl rfl ?_
  refine mx_dup hC dX8_openText_32 rfl ?_
  refine mx_get (v := vL (mj_l (mj_wl (mj_wl M l0 0 ((mj_l M l0 0) &&& ((1 <<< (((mj_i M l0 3) : Int32).toInt64 &&& 63)) ^^^ ((-1))))) l0 1 ((mj_l (mj_wl M l0 0 ((mj_l M l0 0) &&& ((1 <<< (((mj_i M l0 3) : Int32).toInt64 &&& 63)) ^^^ ((-1))))) l0 1) ||| (1 <<< (((mj_i M l0 3) : Int32).toInt64 &&& 63)))) l0 2)) hC tf_X8_67 ht1 rfl dX8_openText_33 ?_
  refine mx_lload_n (j := 0) hC dX8_openText_36 rfl rfl ?_
  refine mx_ldc2 (v := (-1)) hC dX8_openText_37 tw669 ?_
  refine mx_lxor hC dX8_openText_40 ?_
  refine mx_land hC dX8_openText_41 ?_
  refine mx_put (v := vL ((mj_l (mj_wl (mj_wl M l0 0 ((mj_l M l0 0) &&& ((1 <<< (((mj_i M l0 3) : Int32).toInt64 &&& 63)) ^^^ ((-1))))) l0 1 ((mj_l (mj_wl M l0 0 ((mj_l M l0 0) &&& ((1 <<< (((mj_i M l0 3) : Int32).toInt64 &&& 63)) ^^^ ((-1))))) l0 1) ||| (1 <<< (((mj_i M l0 3) : Int32).toInt64 &&& 63)))) l0 2) &&& ((1 <<< (((mj_i M l0 3) : Int32).toInt64 &&& 63)) ^^^ ((-1))))) (M1 := mj_wl (mj_wl (mj_wl M l0 0 ((mj_l M l0 0) &&& ((1 <<< (((mj_i M l0 3) : Int32).toInt64 &&& 63)) ^^^ ((-1))))) l0 1 ((mj_l (mj_wl M l0 0 ((mj_l M l0 0) &&& ((1 <<< (((mj_i M l0 3) : Int32).toInt64 &&& 63)) ^^^ ((-1))))) l0 1) ||| (1 <<< (((mj_i M l0 3) : Int32).toInt64 &&& 63)))) l0 2 ((mj_l (mj_wl (mj_wl M l0 0 ((mj_l M l0 0) &&& ((1 <<< (((mj_i M l0 3) : Int32).toInt64 &&& 63)) ^^^ ((-1))))) l0 1 ((mj_l (mj_wl M l0 0 ((mj_l M l0 0) &&& ((1 <<< (((mj_i M l0 3) : Int32).toInt64 &&& 63)) ^^^ ((-1))))) l0 1) ||| (1 <<< (((mj_i M l0 3) : Int32).toInt64 &&& 63)))) l0 2) &&& ((1 <<< (((mj_i M l0 3) : Int32).toInt64 &&& 63)) ^^^ ((-1))))) hC tf_X8_67 ht1 (Or.inl rfl) ⟨rfl, rfl⟩ (mj_off_wl _ _ _ _) mj_put_wl dX8_openText_42 ?_
  exact mx_vret hC hE rfl dX8_openText_45 h
theorem tw109 : (Jvm.Cond.fieldLink "LeaseLand$Reading" (38 : Nat) "LeaseLand$Reading" "comparisons" "I") ∈ mj_tbl := mj_w 115 (by decide +kernel) (by decide +kernel)
theorem tf_X8_38 : mj_F 8 4 .int false "LeaseLand$Reading" 38 := ⟨_, tk8, by decide, rfl, rfl, rfl, tw109⟩
theorem tw665 : (Jvm.Cond.methodLink "LeaseLand$Reading" (55 : Nat) ({ cls := "LeaseLand$Reading", name := "openText", desc := "()V" } : Jvm.MethodName)) ∈ mj_tbl := mj_w 671 (by decide +kernel) (by decide +kernel)
theorem tw668 : (Jvm.Cond.code ({ cls := "LeaseLand$Reading", name := "openText", desc := "()V" } : Jvm.MethodName) prog_10_method_4_code (3 : Nat) (Option.none : Option Jvm.ClassFile.FieldType)) ∈ mj_tbl := mj_w 674 (by decide +kernel) (by decide +kernel)
theorem tw6 : (Jvm.Cond.initialized "LeaseLand$Reading") ∈ mj_tbl := mj_w 12 (by decide +kernel) (by decide +kernel)
theorem tw666 : (Jvm.Cond.instanceMethod ({ cls := "LeaseLand$Reading", name := "openText", desc := "()V" } : Jvm.MethodName)) ∈ mj_tbl := mj_w 672 (by decide +kernel) (by decide +kernel)
theorem tw667 : (Jvm.Cond.selects "LeaseLand$Reading" ({ cls := "LeaseLand$Reading", name := "openText", desc := "()V" } : Jvm.MethodName) ({ cls := "LeaseLand$Reading", name := "openText", desc := "()V" } : Jvm.MethodName)) ∈ mj_tbl := mj_w 673 (by decide +kernel) (by decide +kernel)
theorem ty_X8_openText : mj_YV 8 yX8_openText cX8_openText 3 (none) 0 := ⟨⟨tw668, tw6, by decide +kernel, by decide +kernel, by decide +kernel⟩, tw666, tw667, _, rfl, rfl⟩
def rm_X8_restart : Room := { frames := 1, cells := 0, slots := 0, locals := 22 }
theorem dX8_restart_0 : decode cX8_restart 0 = .ok (.aload_n 0, 1) := by decide +kernel
theorem dX8_restart_1 : decode cX8_restart 1 = .ok (.iconst 0, 1) := by decide +kernel
theorem dX8_restart_2 : decode cX8_restart 2 = .ok (.putfield 52, 3) := by decide +kernel
theorem dX8_restart_5 : decode cX8_restart 5 = .ok (.aload_n 0, 1) := by decide +kernel
theorem dX8_restart_6 : decode cX8_restart 6 = .ok (.iconst 0, 1) := by decide +kernel
theorem dX8_restart_7 : decode cX8_restart 7 = .ok (.putfield 38, 3) := by decide +kernel
theorem dX8_restart_10 : decode cX8_restart 10 = .ok (.aload_n 0, 1) := by decide +kernel
theorem dX8_restart_11 : decode cX8_restart 11 = .ok (.invokevirtual 55, 3) := by decide +kernel
theorem dX8_restart_14 : decode cX8_restart 14 = .ok (.return_, 1) := by decide +kernel
def vc_X8_restart (l0 : Nat) (M : mj_M) (post : Unit → mj_M → Prop) : Prop := mj_tag M l0 = 9 ∧ vc_X8_openText l0 (mj_wi (mj_wi M l0 3 0) l0 4 0) (fun _ M2 => post () M2)
set_option maxHeartbeats 4000000 in
set_option maxRecDepth 100000 in
theorem ct_X8_restart {l : Launch} {base : Nat} {D : va_G} {A : mj_AT} (l0 : Nat) (M : mj_M) (post : Unit → mj_M → Prop) (h : vc_X8_restart l0 M post) : mj_Met l base D A mj_jV yX8_restart cX8_restart 1 (none) rm_X8_restart 0 0 [vR l0] M post := by
  refine mj_entry (by decide +kernel) (Nat.le_of_ble_eq_true rfl) (fun g hC hE h1 h2 h3 h4 => ?_)
  show mj_X g 0 [(0, vR l0)] [] M 0 0
  simp only [vc_X8_restart] at h
  refine mx_aload_n (j := 0) hC dX8_restart_0 rfl rfl ?_
  refine mx_iconst (v := 0) hC dX8_restart_1 (by decide) ?_
  obtain ⟨ht1, h⟩ := h
  refine mx_put (v := vI 0) (M1 := mj_wi M l0 3 0) hC tf_X8_52 ht1 (Or.inl rfl) ⟨rfl, rfl⟩ (mj_off_wi _ _ _ _) mj_put_wi dX8_restart_2 ?_
  refine mx_aload_n (j := 0) hC dX8_restart_5 rfl rfl ?_
  refine mx_iconst (v := 0) hC dX8_restart_6 (by decide) ?_
  refine mx_put (v := vI 0) (M1 := mj_wi (mj_wi M l0 3 0) l0 4 0) hC tf_X8_38 ht1 (Or.inl rfl) ⟨rfl, rfl⟩ (mj_off_wi _ _ _ _) mj_put_wi dX8_restart_7 ?_
  refine mx_aload_n (j := 0) hC dX8_restart_10 rfl rfl ?_
  refine mx_callV (inj := mj_jV) (As := []) (st := []) hC (ct_X8_openText l0 (mj_wi (mj_wi M l0 3 0) l0 4 0) _ h) ty_X8_openText tw665 ht1 rfl (Nat.le_of_ble_eq_true rfl) ⟨rfl, rfl, ⟨by decide, by decide⟩, by decide, by decide⟩ dX8_restart_11 (fun _ M2 h => ?_)
  show mj_X g 14 [(0, vR l0)] [] M2 0 0
  exact mx_vret hC hE rfl dX8_restart_14 h
theorem tw110 : (Jvm.Cond.fieldLink "LeaseLand$Reading" (24 : Nat) "LeaseLand$Reading" "left" "I") ∈ mj_tbl := mj_w 116 (by decide +kernel) (by decide +kernel)
theorem tf_X8_24 : mj_F 8 5 .int false "LeaseLand$Reading" 24 := ⟨_, tk8, by decide, rfl, rfl, rfl, tw110⟩
theorem tw112 : (Jvm.Cond.fieldLink "LeaseLand$Reading" (31 : Nat) "LeaseLand$Reading" "number" "I") ∈ mj_tbl := mj_w 118 (by decide +kernel) (by decide +kernel)
theorem tf_X8_31 : mj_F 8 7 .int false "LeaseLand$Reading" 31 := ⟨_, tk8, by decide, rfl, rfl, rfl, tw112⟩
theorem tw111 : (Jvm.Cond.fieldLink "LeaseLand$Reading" (73 : Nat) "LeaseLand$Reading" "comparing" "I") ∈ mj_tbl := mj_w 117 (by decide +kernel) (by decide +kernel)
theorem tf_X8_73 : mj_F 8 6 .int false "LeaseLand$Reading" 73 := ⟨_, tk8, by decide, rfl, rfl, rfl, tw111⟩
def rm_X8_compares : Room := { frames := 0, cells := 0, slots := 0, locals := 0 }
theorem dX8_compares_0 : decode cX8_compares 0 = .ok (.aload_n 0, 1) := by decide +kernel
theorem dX8_compares_1 : decode cX8_compares 1 = .ok (.getfield 73, 3) := by decide +kernel
theorem dX8_compares_4 : decode cX8_compares 4 = .ok (.lookupswitch 62 #[(60, 28), (62, 45)], 28) := by decide +kernel
theorem dX8_compares_32 : decode cX8_compares 32 = .ok (.aload_n 0, 1) := by decide +kernel
theorem dX8_compares_33 : decode cX8_compares 33 = .ok (.getfield 24, 3) := by decide +kernel
theorem dX8_compares_36 : decode cX8_compares 36 = .ok (.aload_n 0, 1) := by decide +kernel
theorem dX8_compares_37 : decode cX8_compares 37 = .ok (.getfield 31, 3) := by decide +kernel
theorem dX8_compares_40 : decode cX8_compares 40 = .ok (.if_icmp .ge 7, 3) := by decide +kernel
theorem dX8_compares_43 : decode cX8_compares 43 = .ok (.iconst 1, 1) := by decide +kernel
theorem dX8_compares_44 : decode cX8_compares 44 = .ok (.goto 4, 3) := by decide +kernel
theorem dX8_compares_47 : decode cX8_compares 47 = .ok (.iconst 0, 1) := by decide +kernel
theorem dX8_compares_48 : decode cX8_compares 48 = .ok (.ireturn, 1) := by decide +kernel
theorem dX8_compares_49 : decode cX8_compares 49 = .ok (.aload_n 0, 1) := by decide +kernel
theorem dX8_compares_50 : decode cX8_compares 50 = .ok (.getfield 24, 3) := by decide +kernel
theorem dX8_compares_53 : decode cX8_compares 53 = .ok (.aload_n 0, 1) := by decide +kernel
theorem dX8_compares_54 : decode cX8_compares 54 = .ok (.getfield 31, 3) := by decide +kernel
theorem dX8_compares_57 : decode cX8_compares 57 = .ok (.if_icmp .le 7, 3) := by decide +kernel
theorem dX8_compares_60 : decode cX8_compares 60 = .ok (.iconst 1, 1) := by decide +kernel
theorem dX8_compares_61 : decode cX8_compares 61 = .ok (.goto 4, 3) := by decide +kernel
theorem dX8_compares_64 : decode cX8_compares 64 = .ok (.iconst 0, 1) := by decide +kernel
theorem dX8_compares_65 : decode cX8_compares 65 = .ok (.ireturn, 1) := by decide +kernel
theorem dX8_compares_66 : decode cX8_compares 66 = .ok (.aload_n 0, 1) := by decide +kernel
theorem dX8_compares_67 : decode cX8_compares 67 = .ok (.getfield 24, 3) := by decide +kernel
theorem dX8_compares_70 : decode cX8_compares 70 = .ok (.aload_n 0, 1) := by decide +kernel
theorem dX8_compares_71 : decode cX8_compares 71 = .ok (.getfield 31, 3) := by decide +kernel
theorem dX8_compares_74 : decode cX8_compares 74 = .ok (.if_icmp .ne 7, 3) := by decide +kernel
theorem dX8_compares_77 : decode cX8_compares 77 = .ok (.iconst 1, 1) := by decide +kernel
theorem dX8_compares_78 : decode cX8_compares 78 = .ok (.goto 4, 3) := by decide +kernel
theorem dX8_compares_81 : decode cX8_compares 81 = .ok (.iconst 0, 1) := by decide +kernel
theorem dX8_compares_82 : decode cX8_compares 82 = .ok (.ireturn, 1) := by decide +kernel
def vc_X8_compares (l0 : Nat) (M : mj_M) (post : Bool → mj_M → Prop) : Prop := mj_tag M l0 = 9 ∧ if (mj_i M l0 6) = 60 then (if (mj_i M l0 7) ≤ (mj_i M l0 5) then (post false M) else (post true M)) else (if (mj_i M l0 6) = 62 then (if (mj_i M l0 5) ≤ (mj_i M l0 7) then (post false M) else (post true M)) else (if (mj_i M l0 5) = (mj_i M l0 7) then (post true M) else (post false M)))
set_option maxHeartbeats 4000000 in
set_option maxRecDepth 100000 in
theorem ct_X8_compares {l : Launch} {base : Nat} {D : va_G} {A : mj_AT} (l0 : Nat) (M : mj_M) (post : Bool → mj_M → Prop) (h : vc_X8_compares l0 M post) : mj_Met l base D A mj_jB yX8_compares cX8_compares 1 (some .boolean) rm_X8_compares 0 0 [vR l0] M post := by
  refine mj_entry (by decide +kernel) (Nat.le_of_ble_eq_true rfl) (fun g hC hE h1 h2 h3 h4 => ?_)
  show mj_X g 0 [(0, vR l0)] [] M 0 0
  simp only [vc_X8_compares] at h
  refine mx_aload_n (j := 0) hC dX8_compares_0 rfl rfl ?_
  obtain ⟨ht1, h⟩ := h
  refine mx_get (v := vI (mj_i M l0 6)) hC tf_X8_73 ht1 rfl dX8_compares_1 ?_
  by_cases hc2 : (mj_i M l0 6) = 60
  · replace h := mj_yy hc2 h
    refine mx_lsin (v := 60) (off := 28) (tgt := 32) hC dX8_compares_4 hc2 (by decide) (by decide) (by decide) ?_
    refine mx_aload_n (j := 0) hC dX8_compares_32 rfl rfl ?_
    refine mx_get (v := vI (mj_i M l0 5)) hC tf_X8_24 ht1 rfl dX8_compares_33 ?_
    refine mx_aload_n (j := 0) hC dX8_compares_36 rfl rfl ?_
    refine mx_get (v := vI (mj_i M l0 7)) hC tf_X8_31 ht1 rfl dX8_compares_37 ?_
    refine mx_icmpge (tgt := 47) hC dX8_compares_40 (by decide) (fun hc3 => ?_) (fun hc3 => ?_)
    · replace h := mj_yy hc3 h
      refine mx_iconst (v := 0) hC dX8_compares_47 (by decide) ?_
      exact mx_zret (b := false) hC hE rfl dX8_compares_48 h
    · replace h := mj_nn hc3 h
      refine mx_iconst (v := 1) hC dX8_compares_43 (by decide) ?_
      refine mx_goto (tgt := 48) hC dX8_compares_44 (by decide) ?_
      exact mx_zret (b := true) hC hE rfl dX8_compares_48 h
  replace h := mj_nn hc2 h
  by_cases hc4 : (mj_i M l0 6) = 62
  · replace h := mj_yy hc4 h
    refine mx_lsin (v := 62) (off := 45) (tgt := 49) hC dX8_compares_4 hc4 (by decide) (by decide) (by decide) ?_
    refine mx_aload_n (j := 0) hC dX8_compares_49 rfl rfl ?_
    refine mx_get (v := vI (mj_i M l0 5)) hC tf_X8_24 ht1 rfl dX8_compares_50 ?_
    refine mx_aload_n (j := 0) hC dX8_compares_53 rfl rfl ?_
    refine mx_get (v := vI (mj_i M l0 7)) hC tf_X8_31 ht1 rfl dX8_compares_54 ?_
    refine mx_icmple (tgt := 64) hC dX8_compares_57 (by decide) (fun hc5 => ?_) (fun hc5 => ?_)
    · replace h := mj_yy hc5 h
      refine mx_iconst (v := 0) hC dX8_compares_64 (by decide) ?_
      exact mx_zret (b := false) hC hE rfl dX8_compares_65 h
    · replace h := mj_nn hc5 h
      refine mx_iconst (v := 1) hC dX8_compares_60 (by decide) ?_
      refine mx_goto (tgt := 65) hC dX8_compares_61 (by decide) ?_
      exact mx_zret (b := true) hC hE rfl dX8_compares_65 h
  replace h := mj_nn hc4 h
  refine mx_lsout (vs := [60, 62]) (tgt := 66) hC dX8_compares_4 (by decide) (by decide) (by decide) (List.forall_mem_cons.mpr ⟨hc2, (List.forall_mem_cons.mpr ⟨hc4, (fun _ q => absurd q List.not_mem_nil)⟩)⟩) ?_
  refine mx_aload_n (j := 0) hC dX8_compares_66 rfl rfl ?_
  refine mx_get (v := vI (mj_i M l0 5)) hC tf_X8_24 ht1 rfl dX8_compares_67 ?_
  refine mx_aload_n (j := 0) hC dX8_compares_70 rfl rfl ?_
  refine mx_get (v := vI (mj_i M l0 7)) hC tf_X8_31 ht1 rfl dX8_compares_71 ?_
  refine mx_icmpne (tgt := 81) hC dX8_compares_74 (by decide) (fun hc6 => ?_) (fun hc6 => ?_)
  · replace h := mj_nn hc6 h
    refine mx_iconst (v := 0) hC dX8_compares_81 (by decide) ?_
    exact mx_zret (b := false) hC hE rfl dX8_compares_82 h
  · replace h := mj_yy hc6 h
    refine mx_iconst (v := 1) hC dX8_compares_77 (by decide) ?_
    refine mx_goto (tgt := 82) hC dX8_compares_78 (by decide) ?_
    exact mx_zret (b := true) hC hE rfl dX8_compares_82 h
def rm_X8_takeFactor : Room := { frames := 0, cells := 0, slots := 0, locals := 0 }
theorem dX8_takeFactor_0 : decode cX8_takeFactor 0 = .ok (.lconst 1, 1) := by decide +kernel
theorem dX8_takeFactor_1 : decode cX8_takeFactor 1 = .ok (.aload_n 0, 1) := by decide +kernel
theorem dX8_takeFactor_2 : decode cX8_takeFactor 2 = .ok (.getfield 52, 3) := by decide +kernel
theorem dX8_takeFactor_5 : decode cX8_takeFactor 5 = .ok (.lshl, 1) := by decide +kernel
theorem dX8_takeFactor_6 : decode cX8_takeFactor 6 = .ok (.lstore_n 2, 1) := by decide +kernel
theorem dX8_takeFactor_7 : decode cX8_takeFactor 7 = .ok (.iload_n 1, 1) := by decide +kernel
theorem dX8_takeFactor_8 : decode cX8_takeFactor 8 = .ok (.aload_n 0, 1) := by decide +kernel
theorem dX8_takeFactor_9 : decode cX8_takeFactor 9 = .ok (.getfield 67, 3) := by decide +kernel
theorem dX8_takeFactor_12 : decode cX8_takeFactor 12 = .ok (.lload_n 2, 1) := by decide +kernel
theorem dX8_takeFactor_13 : decode cX8_takeFactor 13 = .ok (.land, 1) := by decide +kernel
theorem dX8_takeFactor_14 : decode cX8_takeFactor 14 = .ok (.lconst 0, 1) := by decide +kernel
theorem dX8_takeFactor_15 : decode cX8_takeFactor 15 = .ok (.lcmp, 1) := by decide +kernel
theorem dX8_takeFactor_16 : decode cX8_takeFactor 16 = .ok (.ifCond .eq 7, 3) := by decide +kernel
theorem dX8_takeFactor_19 : decode cX8_takeFactor 19 = .ok (.iconst 1, 1) := by decide +kernel
theorem dX8_takeFactor_20 : decode cX8_takeFactor 20 = .ok (.goto 4, 3) := by decide +kernel
theorem dX8_takeFactor_23 : decode cX8_takeFactor 23 = .ok (.iconst 0, 1) := by decide +kernel
theorem dX8_takeFactor_24 : decode cX8_takeFactor 24 = .ok (.if_icmp .ne 17, 3) := by decide +kernel
theorem dX8_takeFactor_27 : decode cX8_takeFactor 27 = .ok (.aload_n 0, 1) := by decide +kernel
theorem dX8_takeFactor_28 : decode cX8_takeFactor 28 = .ok (.dup, 1) := by decide +kernel
theorem dX8_takeFactor_29 : decode cX8_takeFactor 29 = .ok (.getfield 64, 3) := by decide +kernel
theorem dX8_takeFactor_32 : decode cX8_takeFactor 32 = .ok (.lload_n 2, 1) := by decide +kernel
theorem dX8_takeFactor_33 : decode cX8_takeFactor 33 = .ok (.ldc2_w 62, 3) := by decide +kernel
theorem dX8_takeFactor_36 : decode cX8_takeFactor 36 = .ok (.lxor, 1) := by decide +kernel
theorem dX8_takeFactor_37 : decode cX8_takeFactor 37 = .ok (.land, 1) := by decide +kernel
theorem dX8_takeFactor_38 : decode cX8_takeFactor 38 = .ok (.putfield 64, 3) := by decide +kernel
theorem dX8_takeFactor_41 : decode cX8_takeFactor 41 = .ok (.aload_n 0, 1) := by decide +kernel
theorem dX8_takeFactor_42 : decode cX8_takeFactor 42 = .ok (.dup, 1) := by decide +kernel
theorem dX8_takeFactor_43 : decode cX8_takeFactor 43 = .ok (.getfield 67, 3) := by decide +kernel
theorem dX8_takeFactor_46 : decode cX8_takeFactor 46 = .ok (.lload_n 2, 1) := by decide +kernel
theorem dX8_takeFactor_47 : decode cX8_takeFactor 47 = .ok (.ldc2_w 62, 3) := by decide +kernel
theorem dX8_takeFactor_50 : decode cX8_takeFactor 50 = .ok (.lxor, 1) := by decide +kernel
theorem dX8_takeFactor_51 : decode cX8_takeFactor 51 = .ok (.land, 1) := by decide +kernel
theorem dX8_takeFactor_52 : decode cX8_takeFactor 52 = .ok (.putfield 67, 3) := by decide +kernel
theorem dX8_takeFactor_55 : decode cX8_takeFactor 55 = .ok (.return_, 1) := by decide +kernel
def vb_X8_takeFactor_41 (post : Unit → mj_M → Prop) (l0 : Nat) (l2 : Int64) (M : mj_M) : Prop := mj_tag M l0 = 9 ∧ post () (mj_wl M l0 2 ((mj_l M l0 2) &&& (l2 ^^^ ((-1)))))
def vb_X8_takeFactor_24 (post : Unit → mj_M → Prop) (l0 : Nat) (l2 : Int64) (s0 : Bool) (s1 : Bool) (M : mj_M) : Prop := if (mj_b s0) = (mj_b s1) then (mj_tag M l0 = 9 ∧ vb_X8_takeFactor_41 post l0 l2 (mj_wl M l0 1 ((mj_l M l0 1) &&& (l2 ^^^ ((-1)))))) else (vb_X8_takeFactor_41 post l0 l2 M)
def vc_X8_takeFactor (l0 : Nat) (l1 : Bool) (M : mj_M) (post : Unit → mj_M → Prop) : Prop := mj_tag M l0 = 9 ∧ if (lg_cmp ((mj_l M l0 2) &&& (1 <<< (((mj_i M l0 3) : Int32).toInt64 &&& 63))) 0) = 0 then (vb_X8_takeFactor_24 post l0 (1 <<< (((mj_i M l0 3) : Int32).toInt64 &&& 63)) l1 false M) else (vb_X8_takeFactor_24 post l0 (1 <<< (((mj_i M l0 3) : Int32).toInt64 &&& 63)) l1 true M)
set_option maxHeartbeats 4000000 in
set_option maxRecDepth 100000 in
theorem xb_X8_takeFactor_41 {g : mj_G} {post : Unit → mj_M → Prop} (hC : mj_C g yX8_takeFactor cX8_takeFactor 4 (none) rm_X8_takeFactor) (hE : mj_E g mj_jV post 0 0) (l0 : Nat) (l2 : Int64) (M : mj_M) (h : vb_X8_takeFactor_41 post l0 l2 M) : mj_X g 41 [(0, vR l0), (2, vL l2)] [] M 0 0 := by
  simp only [vb_X8_takeFactor_41] at h
  refine mx_aload_n (j := 0) hC dX8_takeFactor_41 rfl rfl ?_
  refine mx_dup hC dX8_takeFactor_42 rfl ?_
  obtain ⟨ht1, h⟩ := h
  refine mx_get (v := vL (mj_l M l0 2)) hC tf_X8_67 ht1 rfl dX8_takeFactor_43 ?_
  refine mx_lload_n (j := 1) hC dX8_takeFactor_46 rfl rfl ?_
  refine mx_ldc2 (v := (-1)) hC dX8_takeFactor_47 tw669 ?_
  refine mx_lxor hC dX8_takeFactor_50 ?_
  refine mx_land hC dX8_takeFactor_51 ?_
  refine mx_put (v := vL ((mj_l M l0 2) &&& (l2 ^^^ ((-1))))) (M1 := mj_wl M l0 2 ((mj_l M l0 2) &&& (l2 ^^^ ((-1))))) hC tf_X8_67 ht1 (Or.inl rfl) ⟨rfl, rfl⟩ (mj_off_wl _ _ _ _) mj_put_wl dX8_takeFactor_52 ?_
  exact mx_vret hC hE rfl dX8_takeFactor_55 h
set_option maxHeartbeats 4000000 in
set_option maxRecDepth 100000 in
theorem xb_X8_takeFactor_24 {g : mj_G} {post : Unit → mj_M → Prop} (hC : mj_C g yX8_takeFactor cX8_takeFactor 4 (none) rm_X8_takeFactor) (hE : mj_E g mj_jV post 0 0) (l0 : Nat) (l2 : Int64) (s0 : Bool) (s1 : Bool) (M : mj_M) (h : vb_X8_takeFactor_24 post l0 l2 s0 s1 M) : mj_X g 24 [(0, vR l0), (2, vL l2)] [vI (mj_b s1), vI (mj_b s0)] M 0 0 := by
  simp only [vb_X8_takeFactor_24] at h
  refine mx_icmpne (tgt := 41) hC dX8_takeFactor_24 (by decide) (fun hc2 => ?_) (fun hc2 => ?_)
  · replace h := mj_nn hc2 h
    refine mx_sub (L' := [(0, vR l0), (2, vL l2)]) [0, 1] rfl ?_
    exact show mj_X g 41 [(0, vR l0), (2, vL l2)] [] M 0 0 from (xb_X8_takeFactor_41 hC hE l0 l2 M h)
  · replace h := mj_yy hc2 h
    refine mx_aload_n (j := 0) hC dX8_takeFactor_27 rfl rfl ?_
    refine mx_dup hC dX8_takeFactor_28 rfl ?_
    obtain ⟨ht3, h⟩ := h
    refine mx_get (v := vL (mj_l M l0 1)) hC tf_X8_64 ht3 rfl dX8_takeFactor_29 ?_
    refine mx_lload_n (j := 1) hC dX8_takeFactor_32 rfl rfl ?_
    refine mx_ldc2 (v := (-1)) hC dX8_takeFactor_33 tw669 ?_
    refine mx_lxor hC dX8_takeFactor_36 ?_
    refine mx_land hC dX8_takeFactor_37 ?_
    refine mx_put (v := vL ((mj_l M l0 1) &&& (l2 ^^^ ((-1))))) (M1 := mj_wl M l0 1 ((mj_l M l0 1) &&& (l2 ^^^ ((-1))))) hC tf_X8_64 ht3 (Or.inl rfl) ⟨rfl, rfl⟩ (mj_off_wl _ _ _ _) mj_put_wl dX8_takeFactor_38 ?_
    refine mx_sub (L' := [(0, vR l0), (2, vL l2)]) [0, 1] rfl ?_
    exact show mj_X g 41 [(0, vR l0), (2, vL l2)] [] (mj_wl M l0 1 ((mj_l M l0 1) &&& (l2 ^^^ ((-1))))) 0 0 from (xb_X8_takeFactor_41 hC hE l0 l2 (mj_wl M l0 1 ((mj_l M l0 1) &&& (l2 ^^^ ((-1))))) h)
set_option maxHeartbeats 4000000 in
set_option maxRecDepth 100000 in
theorem ct_X8_takeFactor {l : Launch} {base : Nat} {D : va_G} {A : mj_AT} (l0 : Nat) (l1 : Bool) (M : mj_M) (post : Unit → mj_M → Prop) (h : vc_X8_takeFactor l0 l1 M post) : mj_Met l base D A mj_jV yX8_takeFactor cX8_takeFactor 4 (none) rm_X8_takeFactor 0 0 [vR l0, vI (mj_b l1)] M post := by
  refine mj_entry (by decide +kernel) (Nat.le_of_ble_eq_true rfl) (fun g hC hE h1 h2 h3 h4 => ?_)
  show mj_X g 0 [(0, vR l0), (1, vI (mj_b l1))] [] M 0 0
  simp only [vc_X8_takeFactor] at h
  refine mx_lconst (v := 1) hC dX8_takeFactor_0 (by decide) ?_
  refine mx_aload_n (j := 0) hC dX8_takeFactor_1 rfl rfl ?_
  obtain ⟨ht4, h⟩ := h
  refine mx_get (v := vI (mj_i M l0 3)) hC tf_X8_52 ht4 rfl dX8_takeFactor_2 ?_
  refine mx_lshl hC dX8_takeFactor_5 ?_
  refine mx_lstore_n (L' := [(2, vL (1 <<< (((mj_i M l0 3) : Int32).toInt64 &&& 63))), (0, vR l0), (1, vI (mj_b l1))]) hC dX8_takeFactor_6 rfl (by decide) rfl ?_
  refine mx_iload_n (j := 2) hC dX8_takeFactor_7 rfl rfl ?_
  refine mx_aload_n (j := 1) hC dX8_takeFactor_8 rfl rfl ?_
  refine mx_get (v := vL (mj_l M l0 2)) hC tf_X8_67 ht4 rfl dX8_takeFactor_9 ?_
  refine mx_lload_n (j := 0) hC dX8_takeFactor_12 rfl rfl ?_
  refine mx_land hC dX8_takeFactor_13 ?_
  refine mx_lconst (v := 0) hC dX8_takeFactor_14 (by decide) ?_
  refine mx_lcmp hC dX8_takeFactor_15 ?_
  refine mx_ifeq (tgt := 23) hC dX8_takeFactor_16 (by decide) (fun hc5 => ?_) (fun hc5 => ?_)
  · replace h := mj_yy hc5 h
    refine mx_iconst (v := 0) hC dX8_takeFactor_23 (by decide) ?_
    refine mx_sub (L' := [(0, vR l0), (2, vL (1 <<< (((mj_i M l0 3) : Int32).toInt64 &&& 63)))]) [1, 0] rfl ?_
    exact show mj_X g 24 [(0, vR l0), (2, vL (1 <<< (((mj_i M l0 3) : Int32).toInt64 &&& 63)))] [vI (mj_b false), vI (mj_b l1)] M 0 0 from (xb_X8_takeFactor_24 hC hE l0 (1 <<< (((mj_i M l0 3) : Int32).toInt64 &&& 63)) l1 false M h)
  · replace h := mj_nn hc5 h
    refine mx_iconst (v := 1) hC dX8_takeFactor_19 (by decide) ?_
    refine mx_goto (tgt := 24) hC dX8_takeFactor_20 (by decide) ?_
    refine mx_sub (L' := [(0, vR l0), (2, vL (1 <<< (((mj_i M l0 3) : Int32).toInt64 &&& 63)))]) [1, 0] rfl ?_
    exact show mj_X g 24 [(0, vR l0), (2, vL (1 <<< (((mj_i M l0 3) : Int32).toInt64 &&& 63)))] [vI (mj_b true), vI (mj_b l1)] M 0 0 from (xb_X8_takeFactor_24 hC hE l0 (1 <<< (((mj_i M l0 3) : Int32).toInt64 &&& 63)) l1 true M h)
def rm_X8_isSoHere : Room := { frames := 0, cells := 0, slots := 0, locals := 0 }
theorem dX8_isSoHere_0 : decode cX8_isSoHere 0 = .ok (.aload_n 0, 1) := by decide +kernel
theorem dX8_isSoHere_1 : decode cX8_isSoHere 1 = .ok (.getfield 58, 3) := by decide +kernel
theorem dX8_isSoHere_4 : decode cX8_isSoHere 4 = .ok (.aload_n 0, 1) := by decide +kernel
theorem dX8_isSoHere_5 : decode cX8_isSoHere 5 = .ok (.getfield 64, 3) := by decide +kernel
theorem dX8_isSoHere_8 : decode cX8_isSoHere 8 = .ok (.lor, 1) := by decide +kernel
theorem dX8_isSoHere_9 : decode cX8_isSoHere 9 = .ok (.aload_n 0, 1) := by decide +kernel
theorem dX8_isSoHere_10 : decode cX8_isSoHere 10 = .ok (.getfield 52, 3) := by decide +kernel
theorem dX8_isSoHere_13 : decode cX8_isSoHere 13 = .ok (.lshr, 1) := by decide +kernel
theorem dX8_isSoHere_14 : decode cX8_isSoHere 14 = .ok (.lconst 1, 1) := by decide +kernel
theorem dX8_isSoHere_15 : decode cX8_isSoHere 15 = .ok (.land, 1) := by decide +kernel
theorem dX8_isSoHere_16 : decode cX8_isSoHere 16 = .ok (.lconst 1, 1) := by decide +kernel
theorem dX8_isSoHere_17 : decode cX8_isSoHere 17 = .ok (.lcmp, 1) := by decide +kernel
theorem dX8_isSoHere_18 : decode cX8_isSoHere 18 = .ok (.ifCond .ne 7, 3) := by decide +kernel
theorem dX8_isSoHere_21 : decode cX8_isSoHere 21 = .ok (.iconst 1, 1) := by decide +kernel
theorem dX8_isSoHere_22 : decode cX8_isSoHere 22 = .ok (.goto 4, 3) := by decide +kernel
theorem dX8_isSoHere_25 : decode cX8_isSoHere 25 = .ok (.iconst 0, 1) := by decide +kernel
theorem dX8_isSoHere_26 : decode cX8_isSoHere 26 = .ok (.ireturn, 1) := by decide +kernel
def vc_X8_isSoHere (l0 : Nat) (M : mj_M) (post : Bool → mj_M → Prop) : Prop := mj_tag M l0 = 9 ∧ if (lg_cmp ((((mj_l M l0 0) ||| (mj_l M l0 1)) >>> (((mj_i M l0 3) : Int32).toInt64 &&& 63)) &&& 1) 1) = 0 then (post true M) else (post false M)
set_option maxHeartbeats 4000000 in
set_option maxRecDepth 100000 in
theorem ct_X8_isSoHere {l : Launch} {base : Nat} {D : va_G} {A : mj_AT} (l0 : Nat) (M : mj_M) (post : Bool → mj_M → Prop) (h : vc_X8_isSoHere l0 M post) : mj_Met l base D A mj_jB yX8_isSoHere cX8_isSoHere 1 (some .boolean) rm_X8_isSoHere 0 0 [vR l0] M post := by
  refine mj_entry (by decide +kernel) (Nat.le_of_ble_eq_true rfl) (fun g hC hE h1 h2 h3 h4 => ?_)
  show mj_X g 0 [(0, vR l0)] [] M 0 0
  simp only [vc_X8_isSoHere] at h
  refine mx_aload_n (j := 0) hC dX8_isSoHere_0 rfl rfl ?_
  obtain ⟨ht1, h⟩ := h
  refine mx_get (v := vL (mj_l M l0 0)) hC tf_X8_58 ht1 rfl dX8_isSoHere_1 ?_
  refine mx_aload_n (j := 0) hC dX8_isSoHere_4 rfl rfl ?_
  refine mx_get (v := vL (mj_l M l0 1)) hC tf_X8_64 ht1 rfl dX8_isSoHere_5 ?_
  refine mx_lor hC dX8_isSoHere_8 ?_
  refine mx_aload_n (j := 0) hC dX8_isSoHere_9 rfl rfl ?_
  refine mx_get (v := vI (mj_i M l0 3)) hC tf_X8_52 ht1 rfl dX8_isSoHere_10 ?_
  refine mx_lshr hC dX8_isSoHere_13 ?_
  refine mx_lconst (v := 1) hC dX8_isSoHere_14 (by decide) ?_
  refine mx_land hC dX8_isSoHere_15 ?_
  refine mx_lconst (v := 1) hC dX8_isSoHere_16 (by decide) ?_
  refine mx_lcmp hC dX8_isSoHere_17 ?_
  refine mx_ifne (tgt := 25) hC dX8_isSoHere_18 (by decide) (fun hc2 => ?_) (fun hc2 => ?_)
  · replace h := mj_nn hc2 h
    refine mx_iconst (v := 0) hC dX8_isSoHere_25 (by decide) ?_
    exact mx_zret (b := false) hC hE rfl dX8_isSoHere_26 h
  · replace h := mj_yy hc2 h
    refine mx_iconst (v := 1) hC dX8_isSoHere_21 (by decide) ?_
    refine mx_goto (tgt := 26) hC dX8_isSoHere_22 (by decide) ?_
    exact mx_zret (b := true) hC hE rfl dX8_isSoHere_26 h
theorem tn709 : (Jvm.Cond.methodLinkNest "LeaseLand$Reading" (70 : Nat) ({ cls := "LeaseLand", name := "isComparing", desc := "(I)Z" } : Jvm.MethodName) "LeaseLand") ∈ mj_nest := List.mem_filter.mpr ⟨List.mem_of_getElem? (i := 709) (by decide +kernel), rfl⟩
theorem tw701 : (Jvm.Cond.methodLink "LeaseLand$Reading" (41 : Nat) ({ cls := "LeaseLand$Reading", name := "takeFactor", desc := "(Z)V" } : Jvm.MethodName)) ∈ mj_tbl := mj_w 707 (by decide +kernel) (by decide +kernel)
theorem tw710 : (Jvm.Cond.methodLink "LeaseLand$Reading" (49 : Nat) ({ cls := "LeaseLand$Reading", name := "isSoHere", desc := "()Z" } : Jvm.MethodName)) ∈ mj_tbl := mj_w 716 (by decide +kernel) (by decide +kernel)
theorem tw713 : (Jvm.Cond.code ({ cls := "LeaseLand$Reading", name := "isSoHere", desc := "()Z" } : Jvm.MethodName) prog_10_method_7_code (1 : Nat) (Option.some Jvm.ClassFile.FieldType.boolean)) ∈ mj_tbl := mj_w 719 (by decide +kernel) (by decide +kernel)
theorem tw711 : (Jvm.Cond.instanceMethod ({ cls := "LeaseLand$Reading", name := "isSoHere", desc := "()Z" } : Jvm.MethodName)) ∈ mj_tbl := mj_w 717 (by decide +kernel) (by decide +kernel)
theorem tw712 : (Jvm.Cond.selects "LeaseLand$Reading" ({ cls := "LeaseLand$Reading", name := "isSoHere", desc := "()Z" } : Jvm.MethodName) ({ cls := "LeaseLand$Reading", name := "isSoHere", desc := "()Z" } : Jvm.MethodName)) ∈ mj_tbl := mj_w 718 (by decide +kernel) (by decide +kernel)
theorem ty_X8_isSoHere : mj_YV 8 yX8_isSoHere cX8_isSoHere 1 (some .boolean) 0 := ⟨⟨tw713, tw6, by decide +kernel, by decide +kernel, by decide +kernel⟩, tw711, tw712, _, rfl, rfl⟩
theorem tw704 : (Jvm.Cond.code ({ cls := "LeaseLand$Reading", name := "takeFactor", desc := "(Z)V" } : Jvm.MethodName) prog_10_method_6_code (4 : Nat) (Option.none : Option Jvm.ClassFile.FieldType)) ∈ mj_tbl := mj_w 710 (by decide +kernel) (by decide +kernel)
theorem tw702 : (Jvm.Cond.instanceMethod ({ cls := "LeaseLand$Reading", name := "takeFactor", desc := "(Z)V" } : Jvm.MethodName)) ∈ mj_tbl := mj_w 708 (by decide +kernel) (by decide +kernel)
theorem tw703 : (Jvm.Cond.selects "LeaseLand$Reading" ({ cls := "LeaseLand$Reading", name := "takeFactor", desc := "(Z)V" } : Jvm.MethodName) ({ cls := "LeaseLand$Reading", name := "takeFactor", desc := "(Z)V" } : Jvm.MethodName)) ∈ mj_tbl := mj_w 709 (by decide +kernel) (by decide +kernel)
theorem ty_X8_takeFactor : mj_YV 8 yX8_takeFactor cX8_takeFactor 4 (none) 1 := ⟨⟨tw704, tw6, by decide +kernel, by decide +kernel, by decide +kernel⟩, tw702, tw703, _, rfl, rfl⟩
def rm_X8_takeSign : Room := { frames := 1, cells := 0, slots := 0, locals := 23 }
theorem dX8_takeSign_0 : decode cX8_takeSign 0 = .ok (.lconst 1, 1) := by decide +kernel
theorem dX8_takeSign_1 : decode cX8_takeSign 1 = .ok (.aload_n 0, 1) := by decide +kernel
theorem dX8_takeSign_2 : decode cX8_takeSign 2 = .ok (.getfield 52, 3) := by decide +kernel
theorem dX8_takeSign_5 : decode cX8_takeSign 5 = .ok (.lshl, 1) := by decide +kernel
theorem dX8_takeSign_6 : decode cX8_takeSign 6 = .ok (.lstore_n 2, 1) := by decide +kernel
theorem dX8_takeSign_7 : decode cX8_takeSign 7 = .ok (.iload_n 1, 1) := by decide +kernel
theorem dX8_takeSign_8 : decode cX8_takeSign 8 = .ok (.invokestatic 70, 3) := by decide +kernel
theorem dX8_takeSign_11 : decode cX8_takeSign 11 = .ok (.ifCond .eq 16, 3) := by decide +kernel
theorem dX8_takeSign_14 : decode cX8_takeSign 14 = .ok (.aload_n 0, 1) := by decide +kernel
theorem dX8_takeSign_15 : decode cX8_takeSign 15 = .ok (.iload_n 1, 1) := by decide +kernel
theorem dX8_takeSign_16 : decode cX8_takeSign 16 = .ok (.putfield 73, 3) := by decide +kernel
theorem dX8_takeSign_19 : decode cX8_takeSign 19 = .ok (.aload_n 0, 1) := by decide +kernel
theorem dX8_takeSign_20 : decode cX8_takeSign 20 = .ok (.iconst 0, 1) := by decide +kernel
theorem dX8_takeSign_21 : decode cX8_takeSign 21 = .ok (.putfield 31, 3) := by decide +kernel
theorem dX8_takeSign_24 : decode cX8_takeSign 24 = .ok (.goto 107, 3) := by decide +kernel
theorem dX8_takeSign_27 : decode cX8_takeSign 27 = .ok (.iload_n 1, 1) := by decide +kernel
theorem dX8_takeSign_28 : decode cX8_takeSign 28 = .ok (.bipush 33, 2) := by decide +kernel
theorem dX8_takeSign_30 : decode cX8_takeSign 30 = .ok (.if_icmp .ne 16, 3) := by decide +kernel
theorem dX8_takeSign_33 : decode cX8_takeSign 33 = .ok (.aload_n 0, 1) := by decide +kernel
theorem dX8_takeSign_34 : decode cX8_takeSign 34 = .ok (.dup, 1) := by decide +kernel
theorem dX8_takeSign_35 : decode cX8_takeSign 35 = .ok (.getfield 67, 3) := by decide +kernel
theorem dX8_takeSign_38 : decode cX8_takeSign 38 = .ok (.lload_n 2, 1) := by decide +kernel
theorem dX8_takeSign_39 : decode cX8_takeSign 39 = .ok (.lxor, 1) := by decide +kernel
theorem dX8_takeSign_40 : decode cX8_takeSign 40 = .ok (.putfield 67, 3) := by decide +kernel
theorem dX8_takeSign_43 : decode cX8_takeSign 43 = .ok (.goto 88, 3) := by decide +kernel
theorem dX8_takeSign_46 : decode cX8_takeSign 46 = .ok (.iload_n 1, 1) := by decide +kernel
theorem dX8_takeSign_47 : decode cX8_takeSign 47 = .ok (.bipush 124, 2) := by decide +kernel
theorem dX8_takeSign_49 : decode cX8_takeSign 49 = .ok (.if_icmp .ne 31, 3) := by decide +kernel
theorem dX8_takeSign_52 : decode cX8_takeSign 52 = .ok (.aload_n 0, 1) := by decide +kernel
theorem dX8_takeSign_53 : decode cX8_takeSign 53 = .ok (.dup, 1) := by decide +kernel
theorem dX8_takeSign_54 : decode cX8_takeSign 54 = .ok (.getfield 58, 3) := by decide +kernel
theorem dX8_takeSign_57 : decode cX8_takeSign 57 = .ok (.aload_n 0, 1) := by decide +kernel
theorem dX8_takeSign_58 : decode cX8_takeSign 58 = .ok (.getfield 64, 3) := by decide +kernel
theorem dX8_takeSign_61 : decode cX8_takeSign 61 = .ok (.lload_n 2, 1) := by decide +kernel
theorem dX8_takeSign_62 : decode cX8_takeSign 62 = .ok (.land, 1) := by decide +kernel
theorem dX8_takeSign_63 : decode cX8_takeSign 63 = .ok (.lor, 1) := by decide +kernel
theorem dX8_takeSign_64 : decode cX8_takeSign 64 = .ok (.putfield 58, 3) := by decide +kernel
theorem dX8_takeSign_67 : decode cX8_takeSign 67 = .ok (.aload_n 0, 1) := by decide +kernel
theorem dX8_takeSign_68 : decode cX8_takeSign 68 = .ok (.dup, 1) := by decide +kernel
theorem dX8_takeSign_69 : decode cX8_takeSign 69 = .ok (.getfield 64, 3) := by decide +kernel
theorem dX8_takeSign_72 : decode cX8_takeSign 72 = .ok (.lload_n 2, 1) := by decide +kernel
theorem dX8_takeSign_73 : decode cX8_takeSign 73 = .ok (.lor, 1) := by decide +kernel
theorem dX8_takeSign_74 : decode cX8_takeSign 74 = .ok (.putfield 64, 3) := by decide +kernel
theorem dX8_takeSign_77 : decode cX8_takeSign 77 = .ok (.goto 54, 3) := by decide +kernel
theorem dX8_takeSign_80 : decode cX8_takeSign 80 = .ok (.iload_n 1, 1) := by decide +kernel
theorem dX8_takeSign_81 : decode cX8_takeSign 81 = .ok (.bipush 40, 2) := by decide +kernel
theorem dX8_takeSign_83 : decode cX8_takeSign 83 = .ok (.if_icmp .ne 20, 3) := by decide +kernel
theorem dX8_takeSign_86 : decode cX8_takeSign 86 = .ok (.aload_n 0, 1) := by decide +kernel
theorem dX8_takeSign_87 : decode cX8_takeSign 87 = .ok (.dup, 1) := by decide +kernel
theorem dX8_takeSign_88 : decode cX8_takeSign 88 = .ok (.getfield 52, 3) := by decide +kernel
theorem dX8_takeSign_91 : decode cX8_takeSign 91 = .ok (.iconst 1, 1) := by decide +kernel
theorem dX8_takeSign_92 : decode cX8_takeSign 92 = .ok (.iadd, 1) := by decide +kernel
theorem dX8_takeSign_93 : decode cX8_takeSign 93 = .ok (.putfield 52, 3) := by decide +kernel
theorem dX8_takeSign_96 : decode cX8_takeSign 96 = .ok (.aload_n 0, 1) := by decide +kernel
theorem dX8_takeSign_97 : decode cX8_takeSign 97 = .ok (.invokevirtual 55, 3) := by decide +kernel
theorem dX8_takeSign_100 : decode cX8_takeSign 100 = .ok (.goto 31, 3) := by decide +kernel
theorem dX8_takeSign_103 : decode cX8_takeSign 103 = .ok (.iload_n 1, 1) := by decide +kernel
theorem dX8_takeSign_104 : decode cX8_takeSign 104 = .ok (.bipush 41, 2) := by decide +kernel
theorem dX8_takeSign_106 : decode cX8_takeSign 106 = .ok (.if_icmp .ne 25, 3) := by decide +kernel
theorem dX8_takeSign_109 : decode cX8_takeSign 109 = .ok (.aload_n 0, 1) := by decide +kernel
theorem dX8_takeSign_110 : decode cX8_takeSign 110 = .ok (.invokevirtual 49, 3) := by decide +kernel
theorem dX8_takeSign_113 : decode cX8_takeSign 113 = .ok (.istore 4, 2) := by decide +kernel
theorem dX8_takeSign_115 : decode cX8_takeSign 115 = .ok (.aload_n 0, 1) := by decide +kernel
theorem dX8_takeSign_116 : decode cX8_takeSign 116 = .ok (.dup, 1) := by decide +kernel
theorem dX8_takeSign_117 : decode cX8_takeSign 117 = .ok (.getfield 52, 3) := by decide +kernel
theorem dX8_takeSign_120 : decode cX8_takeSign 120 = .ok (.iconst 1, 1) := by decide +kernel
theorem dX8_takeSign_121 : decode cX8_takeSign 121 = .ok (.isub, 1) := by decide +kernel
theorem dX8_takeSign_122 : decode cX8_takeSign 122 = .ok (.putfield 52, 3) := by decide +kernel
theorem dX8_takeSign_125 : decode cX8_takeSign 125 = .ok (.aload_n 0, 1) := by decide +kernel
theorem dX8_takeSign_126 : decode cX8_takeSign 126 = .ok (.iload 4, 2) := by decide +kernel
theorem dX8_takeSign_128 : decode cX8_takeSign 128 = .ok (.invokevirtual 41, 3) := by decide +kernel
theorem dX8_takeSign_131 : decode cX8_takeSign 131 = .ok (.return_, 1) := by decide +kernel
def vc_X8_takeSign (l0 : Nat) (l1 : Int32) (M : mj_M) (post : Unit → mj_M → Prop) : Prop := mj_tag M l0 = 9 ∧ vc_X11_isComparing l1 M (fun r2 M3 => if r2 = true then (mj_tag M3 l0 = 9 ∧ post () (mj_wi (mj_wi M3 l0 6 l1) l0 7 0)) else (if l1 = 33 then (mj_tag M3 l0 = 9 ∧ post () (mj_wl M3 l0 2 ((mj_l M3 l0 2) ^^^ (1 <<< (((mj_i M l0 3) : Int32).toInt64 &&& 63))))) else (if l1 = 124 then (mj_tag M3 l0 = 9 ∧ post () (mj_wl (mj_wl M3 l0 0 ((mj_l M3 l0 0) ||| ((mj_l M3 l0 1) &&& (1 <<< (((mj_i M l0 3) : Int32).toInt64 &&& 63))))) l0 1 ((mj_l (mj_wl M3 l0 0 ((mj_l M3 l0 0) ||| ((mj_l M3 l0 1) &&& (1 <<< (((mj_i M l0 3) : Int32).toInt64 &&& 63))))) l0 1) ||| (1 <<< (((mj_i M l0 3) : Int32).toInt64 &&& 63))))) else (if l1 = 40 then (mj_tag M3 l0 = 9 ∧ vc_X8_openText l0 (mj_wi M3 l0 3 ((mj_i M3 l0 3) + 1)) (fun _ M15 => post () M15)) else (if l1 = 41 then (mj_tag M3 l0 = 9 ∧ vc_X8_isSoHere l0 M3 (fun r10 M11 => mj_tag M11 l0 = 9 ∧ vc_X8_takeFactor l0 r10 (mj_wi M11 l0 3 ((mj_i M11 l0 3) - 1)) (fun _ M13 => post () M13))) else (post () M3))))))
set_option maxHeartbeats 4000000 in
set_option maxRecDepth 100000 in
theorem ct_X8_takeSign {l : Launch} {base : Nat} {D : va_G} {A : mj_AT} (l0 : Nat) (l1 : Int32) (M : mj_M) (post : Unit → mj_M → Prop) (h : vc_X8_takeSign l0 l1 M post) : mj_Met l base D A mj_jV yX8_takeSign cX8_takeSign 5 (none) rm_X8_takeSign 0 0 [vR l0, vI l1] M post := by
  refine mj_entry (by decide +kernel) (Nat.le_of_ble_eq_true rfl) (fun g hC hE h1 h2 h3 h4 => ?_)
  show mj_X g 0 [(0, vR l0), (1, vI l1)] [] M 0 0
  simp only [vc_X8_takeSign] at h
  refine mx_lconst (v := 1) hC dX8_takeSign_0 (by decide) ?_
  refine mx_aload_n (j := 0) hC dX8_takeSign_1 rfl rfl ?_
  obtain ⟨ht1, h⟩ := h
  refine mx_get (v := vI (mj_i M l0 3)) hC tf_X8_52 ht1 rfl dX8_takeSign_2 ?_
  refine mx_lshl hC dX8_takeSign_5 ?_
  refine mx_lstore_n (L' := [(2, vL (1 <<< (((mj_i M l0 3) : Int32).toInt64 &&& 63))), (0, vR l0), (1, vI l1)]) hC dX8_takeSign_6 rfl (by decide) rfl ?_
  refine mx_iload_n (j := 2) hC dX8_takeSign_7 rfl rfl ?_
  refine mx_callSN (inj := mj_jB) (As := [vI l1]) (st := []) hC (ct_X11_isComparing l1 M _ h) ty_X11_isComparing tn709 rfl (Nat.le_of_ble_eq_true rfl) ⟨rfl, rfl, ⟨by decide, by decide⟩, by decide, by decide⟩ dX8_takeSign_8 (fun r2 M3 h => ?_)
  show mj_X g 11 [(2, vL (1 <<< (((mj_i M l0 3) : Int32).toInt64 &&& 63))), (0, vR l0), (1, vI l1)] [vI (mj_b r2)] M3 0 0
  refine mx_ifeqB (tgt := 27) hC dX8_takeSign_11 (by decide) (fun hc4 => ?_) (fun hc4 => ?_)
  · replace h := mj_nn hc4 h
    refine mx_iload_n (j := 2) hC dX8_takeSign_27 rfl rfl ?_
    refine mx_bipush (v := 33) hC dX8_takeSign_28 (by decide) ?_
    refine mx_icmpne (tgt := 46) hC dX8_takeSign_30 (by decide) (fun hc5 => ?_) (fun hc5 => ?_)
    · replace h := mj_nn hc5 h
      refine mx_iload_n (j := 2) hC dX8_takeSign_46 rfl rfl ?_
      refine mx_bipush (v := 124) hC dX8_takeSign_47 (by decide) ?_
      refine mx_icmpne (tgt := 80) hC dX8_takeSign_49 (by decide) (fun hc6 => ?_) (fun hc6 => ?_)
      · replace h := mj_nn hc6 h
        refine mx_iload_n (j := 2) hC dX8_takeSign_80 rfl rfl ?_
        refine mx_bipush (v := 40) hC dX8_takeSign_81 (by decide) ?_
        refine mx_icmpne (tgt := 103) hC dX8_takeSign_83 (by decide) (fun hc7 => ?_) (fun hc7 => ?_)
        · replace h := mj_nn hc7 h
          refine mx_iload_n (j := 2) hC dX8_takeSign_103 rfl rfl ?_
          refine mx_bipush (v := 41) hC dX8_takeSign_104 (by decide) ?_
          refine mx_icmpne (tgt := 131) hC dX8_takeSign_106 (by decide) (fun hc8 => ?_) (fun hc8 => ?_)
          · replace h := mj_nn hc8 h
            exact mx_vret hC hE rfl dX8_takeSign_131 h
          · replace h := mj_yy hc8 h
            refine mx_aload_n (j := 1) hC dX8_takeSign_109 rfl rfl ?_
            obtain ⟨ht9, h⟩ := h
            refine mx_callV (inj := mj_jB) (As := []) (st := []) hC (ct_X8_isSoHere l0 M3 _ h) ty_X8_isSoHere tw710 ht9 rfl (Nat.le_of_ble_eq_true rfl) ⟨rfl, rfl, ⟨by decide, by decide⟩, by decide, by decide⟩ dX8_takeSign_110 (fun r10 M11 h => ?_)
            show mj_X g 113 [(2, vL (1 <<< (((mj_i M l0 3) : Int32).toInt64 &&& 63))), (0, vR l0), (1, vI l1)] [vI (mj_b r10)] M11 0 0
            refine mx_istore (L' := [(4, vI (mj_b r10)), (2, vL (1 <<< (((mj_i M l0 3) : Int32).toInt64 &&& 63))), (0, vR l0), (1, vI l1)]) hC dX8_takeSign_113 (by decide) rfl ?_
            refine mx_aload_n (j := 2) hC dX8_takeSign_115 rfl rfl ?_
            refine mx_dup hC dX8_takeSign_116 rfl ?_
            obtain ⟨ht12, h⟩ := h
            refine mx_get (v := vI (mj_i M11 l0 3)) hC tf_X8_52 ht12 rfl dX8_takeSign_117 ?_
            refine mx_iconst (v := 1) hC dX8_takeSign_120 (by decide) ?_
            refine mx_isub hC dX8_takeSign_121 ?_
            refine mx_put (v := vI ((mj_i M11 l0 3) - 1)) (M1 := mj_wi M11 l0 3 ((mj_i M11 l0 3) - 1)) hC tf_X8_52 ht12 (Or.inl rfl) ⟨rfl, rfl⟩ (mj_off_wi _ _ _ _) mj_put_wi dX8_takeSign_122 ?_
            refine mx_aload_n (j := 2) hC dX8_takeSign_125 rfl rfl ?_
            refine mx_iload (j := 0) hC dX8_takeSign_126 rfl ?_
            refine mx_callV (inj := mj_jV) (As := [vI (mj_b r10)]) (st := []) hC (ct_X8_takeFactor l0 r10 (mj_wi M11 l0 3 ((mj_i M11 l0 3) - 1)) _ h) ty_X8_takeFactor tw701 ht12 rfl (Nat.le_of_ble_eq_true rfl) ⟨rfl, rfl, ⟨by decide, by decide⟩, by decide, by decide⟩ dX8_takeSign_128 (fun _ M13 h => ?_)
            show mj_X g 131 [(4, vI (mj_b r10)), (2, vL (1 <<< (((mj_i M l0 3) : Int32).toInt64 &&& 63))), (0, vR l0), (1, vI l1)] [] M13 0 0
            exact mx_vret hC hE rfl dX8_takeSign_131 h
        · replace h := mj_yy hc7 h
          refine mx_aload_n (j := 1) hC dX8_takeSign_86 rfl rfl ?_
          refine mx_dup hC dX8_takeSign_87 rfl ?_
          obtain ⟨ht14, h⟩ := h
          refine mx_get (v := vI (mj_i M3 l0 3)) hC tf_X8_52 ht14 rfl dX8_takeSign_88 ?_
          refine mx_iconst (v := 1) hC dX8_takeSign_91 (by decide) ?_
          refine mx_iadd hC dX8_takeSign_92 ?_
          refine mx_put (v := vI ((mj_i M3 l0 3) + 1)) (M1 := mj_wi M3 l0 3 ((mj_i M3 l0 3) + 1)) hC tf_X8_52 ht14 (Or.inl rfl) ⟨rfl, rfl⟩ (mj_off_wi _ _ _ _) mj_put_wi dX8_takeSign_93 ?_
          refine mx_aload_n (j := 1) hC dX8_takeSign_96 rfl rfl ?_
          refine mx_callV (inj := mj_jV) (As := []) (st := []) hC (ct_X8_openText l0 (mj_wi M3 l0 3 ((mj_i M3 l0 3) + 1)) _ h) ty_X8_openText tw665 ht14 rfl (Nat.le_of_ble_eq_true rfl) ⟨rfl, rfl, ⟨by decide, by decide⟩, by decide, by decide⟩ dX8_takeSign_97 (fun _ M15 h => ?_)
          show mj_X g 100 [(2, vL (1 <<< (((mj_i M l0 3) : Int32).toInt64 &&& 63))), (0, vR l0), (1, vI l1)] [] M15 0 0
          refine mx_goto (tgt := 131) hC dX8_takeSign_100 (by decide) ?_
          exact mx_vret hC hE rfl dX8_takeSign_131 h
      · replace h := mj_yy hc6 h
        refine mx_aload_n (j := 1) hC dX8_takeSign_52 rfl rfl ?_
        refine mx_dup hC dX8_takeSign_53 rfl ?_
        obtain ⟨ht16, h⟩ := h
        refine mx_get (v := vL (mj_l M3 l0 0)) hC tf_X8_58 ht16 rfl dX8_takeSign_54 ?_
        refine mx_aload_n (j := 1) hC dX8_takeSign_57 rfl rfl ?_
        refine mx_get (v := vL (mj_l M3 l0 1)) hC tf_X8_64 ht16 rfl dX8_takeSign_58 ?_
        refine mx_lload_n (j := 0) hC dX8_takeSign_61 rfl rfl ?_
        refine mx_land hC dX8_takeSign_62 ?_
        refine mx_lor hC dX8_takeSign_63 ?_
        refine mx_put (v := vL ((mj_l M3 l0 0) ||| ((mj_l M3 l0 1) &&& (1 <<< (((mj_i M l0 3) : Int32).toInt64 &&& 63))))) (M1 := mj_wl M3 l0 0 ((mj_l M3 l0 0) ||| ((mj_l M3 l0 1) &&& (1 <<< (((mj_i M l0 3) : Int32).toInt64 &&& 63))))) hC tf_X8_58 ht16 (Or.inl rfl) ⟨rfl, rfl⟩ (mj_off_wl _ _ _ _) mj_put_wl dX8_takeSign_64 ?_
        refine mx_aload_n (j := 1) hC dX8_takeSign_67 rfl rfl ?_
        refine mx_dup hC dX8_takeSign_68 rfl ?_
        refine mx_get (v := vL (mj_l (mj_wl M3 l0 0 ((mj_l M3 l0 0) ||| ((mj_l M3 l0 1) &&& (1 <<< (((mj_i M l0 3) : Int32).toInt64 &&& 63))))) l0 1)) hC tf_X8_64 ht16 rfl dX8_takeSign_69 ?_
        refine mx_lload_n (j := 0) hC dX8_takeSign_72 rfl rfl ?_
        refine mx_lor hC dX8_takeSign_73 ?_
        refine mx_put (v := vL ((mj_l (mj_wl M3 l0 0 ((mj_l M3 l0 0) ||| ((mj_l M3 l0 1) &&& (1 <<< (((mj_i M l0 3) : Int32).toInt64 &&& 63))))) l0 1) ||| (1 <<< (((mj_i M l0 3) : Int32).toInt64 &&& 63)))) (M1 := mj_wl (mj_wl M3 l0 0 ((mj_l M3 l0 0) ||| ((mj_l M3 l0 1) &&& (1 <<< (((mj_i M l0 3) : Int32).toInt64 &&& 63))))) l0 1 ((mj_l (mj_wl M3 l0 0 ((mj_l M3 l0 0) ||| ((mj_l M3 l0 1) &&& (1 <<< (((mj_i M l0 3) : Int32).toInt64 &&& 63))))) l0 1) ||| (1 <<< (((mj_i M l0 3) : Int32).toInt64 &&& 63)))) hC tf_X8_64 ht16 (Or.inl rfl) ⟨rfl, rfl⟩ (mj_off_wl _ _ _ _) mj_put_wl dX8_takeSign_74 ?_
        refine mx_goto (tgt := 131) hC dX8_takeSign_77 (by decide) ?_
        exact mx_vret hC hE rfl dX8_takeSign_131 h
    · replace h := mj_yy hc5 h
      refine mx_aload_n (j := 1) hC dX8_takeSign_33 rfl rfl ?_
      refine mx_dup hC dX8_takeSign_34 rfl ?_
      obtain ⟨ht17, h⟩ := h
      refine mx_get (v := vL (mj_l M3 l0 2)) hC tf_X8_67 ht17 rfl dX8_takeSign_35 ?_
      refine mx_lload_n (j := 0) hC dX8_takeSign_38 rfl rfl ?_
      refine mx_lxor hC dX8_takeSign_39 ?_
      refine mx_put (v := vL ((mj_l M3 l0 2) ^^^ (1 <<< (((mj_i M l0 3) : Int32).toInt64 &&& 63)))) (M1 := mj_wl M3 l0 2 ((mj_l M3 l0 2) ^^^ (1 <<< (((mj_i M l0 3) : Int32).toInt64 &&& 63)))) hC tf_X8_67 ht17 (Or.inl rfl) ⟨rfl, rfl⟩ (mj_off_wl _ _ _ _) mj_put_wl dX8_takeSign_40 ?_
      refine mx_goto (tgt := 131) hC dX8_takeSign_43 (by decide) ?_
      exact mx_vret hC hE rfl dX8_takeSign_131 h
  · replace h := mj_yy hc4 h
    refine mx_aload_n (j := 1) hC dX8_takeSign_14 rfl rfl ?_
    refine mx_iload_n (j := 2) hC dX8_takeSign_15 rfl rfl ?_
    obtain ⟨ht18, h⟩ := h
    refine mx_put (v := vI l1) (M1 := mj_wi M3 l0 6 l1) hC tf_X8_73 ht18 (Or.inl rfl) ⟨rfl, rfl⟩ (mj_off_wi _ _ _ _) mj_put_wi dX8_takeSign_16 ?_
    refine mx_aload_n (j := 1) hC dX8_takeSign_19 rfl rfl ?_
    refine mx_iconst (v := 0) hC dX8_takeSign_20 (by decide) ?_
    refine mx_put (v := vI 0) (M1 := mj_wi (mj_wi M3 l0 6 l1) l0 7 0) hC tf_X8_31 ht18 (Or.inl rfl) ⟨rfl, rfl⟩ (mj_off_wi _ _ _ _) mj_put_wi dX8_takeSign_21 ?_
    refine mx_goto (tgt := 131) hC dX8_takeSign_24 (by decide) ?_
    exact mx_vret hC hE rfl dX8_takeSign_131 h
theorem tn670 : (Jvm.Cond.methodLinkNest "LeaseLand$Reading" (12 : Nat) ({ cls := "LeaseLand", name := "isFact", desc := "(I)Z" } : Jvm.MethodName) "LeaseLand") ∈ mj_nest := List.mem_filter.mpr ⟨List.mem_of_getElem? (i := 670) (by decide +kernel), rfl⟩
theorem tn696 : (Jvm.Cond.methodLinkNest "LeaseLand$Reading" (28 : Nat) ({ cls := "LeaseLand", name := "isDigit", desc := "(I)Z" } : Jvm.MethodName) "LeaseLand") ∈ mj_nest := List.mem_filter.mpr ⟨List.mem_of_getElem? (i := 696) (by decide +kernel), rfl⟩
theorem tw661 : (Jvm.Cond.methodLink "LeaseLand$Reading" (7 : Nat) ({ cls := "LeaseLand$Reading", name := "restart", desc := "()V" } : Jvm.MethodName)) ∈ mj_tbl := mj_w 667 (by decide +kernel) (by decide +kernel)
theorem tw671 : (Jvm.Cond.methodLink "LeaseLand$Reading" (18 : Nat) ({ cls := "LeaseLand$Land", name := "measure", desc := "(LLeaseLand$Holding;II)I" } : Jvm.MethodName)) ∈ mj_tbl := mj_w 677 (by decide +kernel) (by decide +kernel)
theorem tw697 : (Jvm.Cond.methodLink "LeaseLand$Reading" (34 : Nat) ({ cls := "LeaseLand$Reading", name := "compares", desc := "()Z" } : Jvm.MethodName)) ∈ mj_tbl := mj_w 703 (by decide +kernel) (by decide +kernel)
theorem tw705 : (Jvm.Cond.methodLink "LeaseLand$Reading" (45 : Nat) ({ cls := "LeaseLand$Reading", name := "takeSign", desc := "(I)V" } : Jvm.MethodName)) ∈ mj_tbl := mj_w 711 (by decide +kernel) (by decide +kernel)
theorem tw674 : (Jvm.Cond.code ({ cls := "LeaseLand$Land", name := "measure", desc := "(LLeaseLand$Holding;II)I" } : Jvm.MethodName) prog_6_method_32_code (4 : Nat) (Option.some Jvm.ClassFile.FieldType.int)) ∈ mj_tbl := mj_w 680 (by decide +kernel) (by decide +kernel)
theorem tw672 : (Jvm.Cond.instanceMethod ({ cls := "LeaseLand$Land", name := "measure", desc := "(LLeaseLand$Holding;II)I" } : Jvm.MethodName)) ∈ mj_tbl := mj_w 678 (by decide +kernel) (by decide +kernel)
theorem tw673 : (Jvm.Cond.selects "LeaseLand$Land" ({ cls := "LeaseLand$Land", name := "measure", desc := "(LLeaseLand$Holding;II)I" } : Jvm.MethodName) ({ cls := "LeaseLand$Land", name := "measure", desc := "(LLeaseLand$Holding;II)I" } : Jvm.MethodName)) ∈ mj_tbl := mj_w 679 (by decide +kernel) (by decide +kernel)
theorem ty_X4_measure : mj_YV 4 yX4_measure cX4_measure 4 (some .int) 3 := ⟨⟨tw674, tw2, by decide +kernel, by decide +kernel, by decide +kernel⟩, tw672, tw673, _, rfl, rfl⟩
theorem tw700 : (Jvm.Cond.code ({ cls := "LeaseLand$Reading", name := "compares", desc := "()Z" } : Jvm.MethodName) prog_10_method_8_code (1 : Nat) (Option.some Jvm.ClassFile.FieldType.boolean)) ∈ mj_tbl := mj_w 706 (by decide +kernel) (by decide +kernel)
theorem tw698 : (Jvm.Cond.instanceMethod ({ cls := "LeaseLand$Reading", name := "compares", desc := "()Z" } : Jvm.MethodName)) ∈ mj_tbl := mj_w 704 (by decide +kernel) (by decide +kernel)
theorem tw699 : (Jvm.Cond.selects "LeaseLand$Reading" ({ cls := "LeaseLand$Reading", name := "compares", desc := "()Z" } : Jvm.MethodName) ({ cls := "LeaseLand$Reading", name := "compares", desc := "()Z" } : Jvm.MethodName)) ∈ mj_tbl := mj_w 705 (by decide +kernel) (by decide +kernel)
theorem ty_X8_compares : mj_YV 8 yX8_compares cX8_compares 1 (some .boolean) 0 := ⟨⟨tw700, tw6, by decide +kernel, by decide +kernel, by decide +kernel⟩, tw698, tw699, _, rfl, rfl⟩
theorem tw664 : (Jvm.Cond.code ({ cls := "LeaseLand$Reading", name := "restart", desc := "()V" } : Jvm.MethodName) prog_10_method_3_code (1 : Nat) (Option.none : Option Jvm.ClassFile.FieldType)) ∈ mj_tbl := mj_w 670 (by decide +kernel) (by decide +kernel)
theorem tw662 : (Jvm.Cond.instanceMethod ({ cls := "LeaseLand$Reading", name := "restart", desc := "()V" } : Jvm.MethodName)) ∈ mj_tbl := mj_w 668 (by decide +kernel) (by decide +kernel)
theorem tw663 : (Jvm.Cond.selects "LeaseLand$Reading" ({ cls := "LeaseLand$Reading", name := "restart", desc := "()V" } : Jvm.MethodName) ({ cls := "LeaseLand$Reading", name := "restart", desc := "()V" } : Jvm.MethodName)) ∈ mj_tbl := mj_w 669 (by decide +kernel) (by decide +kernel)
theorem ty_X8_restart : mj_YV 8 yX8_restart cX8_restart 1 (none) 0 := ⟨⟨tw664, tw6, by decide +kernel, by decide +kernel, by decide +kernel⟩, tw662, tw663, _, rfl, rfl⟩
theorem tw708 : (Jvm.Cond.code ({ cls := "LeaseLand$Reading", name := "takeSign", desc := "(I)V" } : Jvm.MethodName) prog_10_method_5_code (5 : Nat) (Option.none : Option Jvm.ClassFile.FieldType)) ∈ mj_tbl := mj_w 714 (by decide +kernel) (by decide +kernel)
theorem tw706 : (Jvm.Cond.instanceMethod ({ cls := "LeaseLand$Reading", name := "takeSign", desc := "(I)V" } : Jvm.MethodName)) ∈ mj_tbl := mj_w 712 (by decide +kernel) (by decide +kernel)
theorem tw707 : (Jvm.Cond.selects "LeaseLand$Reading" ({ cls := "LeaseLand$Reading", name := "takeSign", desc := "(I)V" } : Jvm.MethodName) ({ cls := "LeaseLand$Reading", name := "takeSign", desc := "(I)V" } : Jvm.MethodName)) ∈ mj_tbl := mj_w 713 (by decide +kernel) (by decide +kernel)
theorem ty_X8_takeSign : mj_YV 8 yX8_takeSign cX8_takeSign 5 (none) 1 := ⟨⟨tw708, tw6, by decide +kernel, by decide +kernel, by decide +kernel⟩, tw706, tw707, _, rfl, rfl⟩
def rm_X8_isSo : Room := { frames := 9, cells := 0, slots := 0, locals := 270 }
theorem dX8_isSo_0 : decode cX8_isSo 0 = .ok (.aload_n 0, 1) := by decide +kernel
theorem dX8_isSo_1 : decode cX8_isSo 1 = .ok (.invokevirtual 7, 3) := by decide +kernel
theorem dX8_isSo_4 : decode cX8_isSo 4 = .ok (.iconst 0, 1) := by decide +kernel
theorem dX8_isSo_5 : decode cX8_isSo 5 = .ok (.istore 6, 2) := by decide +kernel
theorem dX8_isSo_7 : decode cX8_isSo 7 = .ok (.iload 6, 2) := by decide +kernel
theorem dX8_isSo_9 : decode cX8_isSo 9 = .ok (.aload_n 1, 1) := by decide +kernel
theorem dX8_isSo_10 : decode cX8_isSo 10 = .ok (.arraylength, 1) := by decide +kernel
theorem dX8_isSo_11 : decode cX8_isSo 11 = .ok (.if_icmp .ge 134, 3) := by decide +kernel
theorem dX8_isSo_14 : decode cX8_isSo 14 = .ok (.aload_n 1, 1) := by decide +kernel
theorem dX8_isSo_15 : decode cX8_isSo 15 = .ok (.iload 6, 2) := by decide +kernel
theorem dX8_isSo_17 : decode cX8_isSo 17 = .ok (.iaload, 1) := by decide +kernel
theorem dX8_isSo_18 : decode cX8_isSo 18 = .ok (.istore 7, 2) := by decide +kernel
theorem dX8_isSo_20 : decode cX8_isSo 20 = .ok (.iload 7, 2) := by decide +kernel
theorem dX8_isSo_22 : decode cX8_isSo 22 = .ok (.invokestatic 12, 3) := by decide +kernel
theorem dX8_isSo_25 : decode cX8_isSo 25 = .ok (.ifCond .eq 19, 3) := by decide +kernel
theorem dX8_isSo_28 : decode cX8_isSo 28 = .ok (.aload_n 0, 1) := by decide +kernel
theorem dX8_isSo_29 : decode cX8_isSo 29 = .ok (.aload_n 2, 1) := by decide +kernel
theorem dX8_isSo_30 : decode cX8_isSo 30 = .ok (.aload_n 3, 1) := by decide +kernel
theorem dX8_isSo_31 : decode cX8_isSo 31 = .ok (.iload 7, 2) := by decide +kernel
theorem dX8_isSo_33 : decode cX8_isSo 33 = .ok (.iload 4, 2) := by decide +kernel
theorem dX8_isSo_35 : decode cX8_isSo 35 = .ok (.invokevirtual 18, 3) := by decide +kernel
theorem dX8_isSo_38 : decode cX8_isSo 38 = .ok (.putfield 24, 3) := by decide +kernel
theorem dX8_isSo_41 : decode cX8_isSo 41 = .ok (.goto 98, 3) := by decide +kernel
theorem dX8_isSo_44 : decode cX8_isSo 44 = .ok (.iload 7, 2) := by decide +kernel
theorem dX8_isSo_46 : decode cX8_isSo 46 = .ok (.invokestatic 28, 3) := by decide +kernel
theorem dX8_isSo_49 : decode cX8_isSo 49 = .ok (.ifCond .eq 84, 3) := by decide +kernel
theorem dX8_isSo_52 : decode cX8_isSo 52 = .ok (.aload_n 0, 1) := by decide +kernel
theorem dX8_isSo_53 : decode cX8_isSo 53 = .ok (.aload_n 0, 1) := by decide +kernel
theorem dX8_isSo_54 : decode cX8_isSo 54 = .ok (.getfield 31, 3) := by decide +kernel
theorem dX8_isSo_57 : decode cX8_isSo 57 = .ok (.bipush 10, 2) := by decide +kernel
theorem dX8_isSo_59 : decode cX8_isSo 59 = .ok (.imul, 1) := by decide +kernel
theorem dX8_isSo_60 : decode cX8_isSo 60 = .ok (.iload 7, 2) := by decide +kernel
theorem dX8_isSo_62 : decode cX8_isSo 62 = .ok (.iadd, 1) := by decide +kernel
theorem dX8_isSo_63 : decode cX8_isSo 63 = .ok (.bipush 48, 2) := by decide +kernel
theorem dX8_isSo_65 : decode cX8_isSo 65 = .ok (.isub, 1) := by decide +kernel
theorem dX8_isSo_66 : decode cX8_isSo 66 = .ok (.putfield 31, 3) := by decide +kernel
theorem dX8_isSo_69 : decode cX8_isSo 69 = .ok (.iload 6, 2) := by decide +kernel
theorem dX8_isSo_71 : decode cX8_isSo 71 = .ok (.iconst 1, 1) := by decide +kernel
theorem dX8_isSo_72 : decode cX8_isSo 72 = .ok (.iadd, 1) := by decide +kernel
theorem dX8_isSo_73 : decode cX8_isSo 73 = .ok (.aload_n 1, 1) := by decide +kernel
theorem dX8_isSo_74 : decode cX8_isSo 74 = .ok (.arraylength, 1) := by decide +kernel
theorem dX8_isSo_75 : decode cX8_isSo 75 = .ok (.if_icmp .eq 15, 3) := by decide +kernel
theorem dX8_isSo_78 : decode cX8_isSo 78 = .ok (.aload_n 1, 1) := by decide +kernel
theorem dX8_isSo_79 : decode cX8_isSo 79 = .ok (.iload 6, 2) := by decide +kernel
theorem dX8_isSo_81 : decode cX8_isSo 81 = .ok (.iconst 1, 1) := by decide +kernel
theorem dX8_isSo_82 : decode cX8_isSo 82 = .ok (.iadd, 1) := by decide +kernel
theorem dX8_isSo_83 : decode cX8_isSo 83 = .ok (.iaload, 1) := by decide +kernel
theorem dX8_isSo_84 : decode cX8_isSo 84 = .ok (.invokestatic 28, 3) := by decide +kernel
theorem dX8_isSo_87 : decode cX8_isSo 87 = .ok (.ifCond .ne 52, 3) := by decide +kernel
theorem dX8_isSo_90 : decode cX8_isSo 90 = .ok (.aload_n 0, 1) := by decide +kernel
theorem dX8_isSo_91 : decode cX8_isSo 91 = .ok (.aload_n 0, 1) := by decide +kernel
theorem dX8_isSo_92 : decode cX8_isSo 92 = .ok (.invokevirtual 34, 3) := by decide +kernel
theorem dX8_isSo_95 : decode cX8_isSo 95 = .ok (.aload_n 0, 1) := by decide +kernel
theorem dX8_isSo_96 : decode cX8_isSo 96 = .ok (.getfield 38, 3) := by decide +kernel
theorem dX8_isSo_99 : decode cX8_isSo 99 = .ok (.iload 5, 2) := by decide +kernel
theorem dX8_isSo_101 : decode cX8_isSo 101 = .ok (.if_icmp .ne 7, 3) := by decide +kernel
theorem dX8_isSo_104 : decode cX8_isSo 104 = .ok (.iconst 1, 1) := by decide +kernel
theorem dX8_isSo_105 : decode cX8_isSo 105 = .ok (.goto 4, 3) := by decide +kernel
theorem dX8_isSo_108 : decode cX8_isSo 108 = .ok (.iconst 0, 1) := by decide +kernel
theorem dX8_isSo_109 : decode cX8_isSo 109 = .ok (.if_icmp .eq 7, 3) := by decide +kernel
theorem dX8_isSo_112 : decode cX8_isSo 112 = .ok (.iconst 1, 1) := by decide +kernel
theorem dX8_isSo_113 : decode cX8_isSo 113 = .ok (.goto 4, 3) := by decide +kernel
theorem dX8_isSo_116 : decode cX8_isSo 116 = .ok (.iconst 0, 1) := by decide +kernel
theorem dX8_isSo_117 : decode cX8_isSo 117 = .ok (.invokevirtual 41, 3) := by decide +kernel
theorem dX8_isSo_120 : decode cX8_isSo 120 = .ok (.aload_n 0, 1) := by decide +kernel
theorem dX8_isSo_121 : decode cX8_isSo 121 = .ok (.dup, 1) := by decide +kernel
theorem dX8_isSo_122 : decode cX8_isSo 122 = .ok (.getfield 38, 3) := by decide +kernel
theorem dX8_isSo_125 : decode cX8_isSo 125 = .ok (.iconst 1, 1) := by decide +kernel
theorem dX8_isSo_126 : decode cX8_isSo 126 = .ok (.iadd, 1) := by decide +kernel
theorem dX8_isSo_127 : decode cX8_isSo 127 = .ok (.putfield 38, 3) := by decide +kernel
theorem dX8_isSo_130 : decode cX8_isSo 130 = .ok (.goto 9, 3) := by decide +kernel
theorem dX8_isSo_133 : decode cX8_isSo 133 = .ok (.aload_n 0, 1) := by decide +kernel
theorem dX8_isSo_134 : decode cX8_isSo 134 = .ok (.iload 7, 2) := by decide +kernel
theorem dX8_isSo_136 : decode cX8_isSo 136 = .ok (.invokevirtual 45, 3) := by decide +kernel
theorem dX8_isSo_139 : decode cX8_isSo 139 = .ok (.iinc 6 1, 3) := by decide +kernel
theorem dX8_isSo_142 : decode cX8_isSo 142 = .ok (.goto (-135), 3) := by decide +kernel
theorem dX8_isSo_145 : decode cX8_isSo 145 = .ok (.aload_n 0, 1) := by decide +kernel
theorem dX8_isSo_146 : decode cX8_isSo 146 = .ok (.invokevirtual 49, 3) := by decide +kernel
theorem dX8_isSo_149 : decode cX8_isSo 149 = .ok (.ireturn, 1) := by decide +kernel
def vb_X8_isSo_117 (k7 : Nat → Nat → Nat → Nat → Int32 → Int32 → Int32 → mj_M → Prop) (post : Bool → mj_M → Prop) (l0 : Nat) (l1 : Nat) (l2 : Nat) (l3 : Nat) (l4 : Int32) (l5 : Int32) (l6 : Int32) (s0 : Nat) (s1 : Bool) (M : mj_M) : Prop := mj_tag M s0 = 9 ∧ vc_X8_takeFactor s0 s1 M (fun _ M2 => mj_tag M2 l0 = 9 ∧ k7 l0 l1 l2 l3 l4 l5 (l6 + 1) (mj_wi M2 l0 4 ((mj_i M2 l0 4) + 1)))
def vb_X8_isSo_109 (k7 : Nat → Nat → Nat → Nat → Int32 → Int32 → Int32 → mj_M → Prop) (post : Bool → mj_M → Prop) (l0 : Nat) (l1 : Nat) (l2 : Nat) (l3 : Nat) (l4 : Int32) (l5 : Int32) (l6 : Int32) (s0 : Nat) (s1 : Bool) (s2 : Bool) (M : mj_M) : Prop := if (mj_b s1) = (mj_b s2) then (vb_X8_isSo_117 k7 post l0 l1 l2 l3 l4 l5 l6 s0 false M) else (vb_X8_isSo_117 k7 post l0 l1 l2 l3 l4 l5 l6 s0 true M)
def vb_X8_isSo_90 (k7 : Nat → Nat → Nat → Nat → Int32 → Int32 → Int32 → mj_M → Prop) (post : Bool → mj_M → Prop) (l0 : Nat) (l1 : Nat) (l2 : Nat) (l3 : Nat) (l4 : Int32) (l5 : Int32) (l6 : Int32) (M : mj_M) : Prop := mj_tag M l0 = 9 ∧ vc_X8_compares l0 M (fun r6 M7 => mj_tag M7 l0 = 9 ∧ if (mj_i M7 l0 4) = l5 then (vb_X8_isSo_109 k7 post l0 l1 l2 l3 l4 l5 l6 l0 r6 true M7) else (vb_X8_isSo_109 k7 post l0 l1 l2 l3 l4 l5 l6 l0 r6 false M7))
def vb_X8_isSo_7 (post : Bool → mj_M → Prop) : Nat → Nat → Nat → Nat → Nat → Int32 → Int32 → Int32 → mj_M → Prop
  | 0 => fun _ _ _ _ _ _ _ _ => False
  | f + 1 => fun l0 l1 l2 l3 l4 l5 l6 M => mj_tag M l1 = 101 ∧ if (Int32.ofNat (mj_len M l1)) ≤ l6 then (mj_tag M l0 = 9 ∧ vc_X8_isSoHere l0 M (fun r13 M14 => post r13 M14)) else (vp_in l6 (mj_len M l1) ∧ vc_X11_isFact (mj_i M l1 (l6 : Int32).toNatClampNeg) M (fun r16 M17 => if r16 = true then (mj_tag M17 l2 = 5 ∧ vc_X4_measure l2 l3 (mj_i M l1 (l6 : Int32).toNatClampNeg) l4 M17 (fun r32 M33 => mj_tag M33 l0 = 9 ∧ vb_X8_isSo_7 post f l0 l1 l2 l3 l4 l5 (l6 + 1) (mj_wi M33 l0 5 r32))) else (vc_X11_isDigit (mj_i M l1 (l6 : Int32).toNatClampNeg) M17 (fun r19 M20 => if r19 = true then (mj_tag M20 l0 = 9 ∧ mj_tag M20 l1 = 101 ∧ if (l6 + 1) = (Int32.ofNat (mj_len M20 l1)) then (vb_X8_isSo_90 (vb_X8_isSo_7 post f) post l0 l1 l2 l3 l4 l5 l6 (mj_wi M20 l0 7 ((((mj_i M20 l0 7) * 10) + (mj_i M l1 (l6 : Int32).toNatClampNeg)) - 48))) else (vp_in (l6 + 1) (mj_len M20 l1) ∧ vc_X11_isDigit (mj_i (mj_wi M20 l0 7 ((((mj_i M20 l0 7) * 10) + (mj_i M l1 (l6 : Int32).toNatClampNeg)) - 48)) l1 (l6 + 1 : Int32).toNatClampNeg) (mj_wi M20 l0 7 ((((mj_i M20 l0 7) * 10) + (mj_i M l1 (l6 : Int32).toNatClampNeg)) - 48)) (fun r28 M29 => if r28 = true then (vb_X8_isSo_7 post f l0 l1 l2 l3 l4 l5 (l6 + 1) M29) else (vb_X8_isSo_90 (vb_X8_isSo_7 post f) post l0 l1 l2 l3 l4 l5 l6 M29)))) else (mj_tag M20 l0 = 9 ∧ vc_X8_takeSign l0 (mj_i M l1 (l6 : Int32).toNatClampNeg) M20 (fun _ M23 => vb_X8_isSo_7 post f l0 l1 l2 l3 l4 l5 (l6 + 1) M23))))))
def vc_X8_isSo (l0 : Nat) (l1 : Nat) (l2 : Nat) (l3 : Nat) (l4 : Int32) (l5 : Int32) (M : mj_M) (post : Bool → mj_M → Prop) : Prop := mj_tag M l0 = 9 ∧ vc_X8_restart l0 M (fun _ M36 => vb_X8_isSo_7 post 60 l0 l1 l2 l3 l4 l5 0 M36)
set_option maxHeartbeats 4000000 in
set_option maxRecDepth 100000 in
theorem xb_X8_isSo_117 {g : mj_G} {post : Bool → mj_M → Prop} (hC : mj_C g yX8_isSo cX8_isSo 8 (some .boolean) rm_X8_isSo) (hE : mj_E g mj_jB post 0 0) {k7 : Nat → Nat → Nat → Nat → Int32 → Int32 → Int32 → mj_M → Prop} (hk7 : ∀ (l0 : Nat) (l1 : Nat) (l2 : Nat) (l3 : Nat) (l4 : Int32) (l5 : Int32) (l6 : Int32) (M : mj_M), k7 l0 l1 l2 l3 l4 l5 l6 M → mj_X g 7 [(0, vR l0), (1, vR l1), (2, vR l2), (3, vR l3), (4, vI l4), (5, vI l5), (6, vI l6)] [] M 0 0) (l0 : Nat) (l1 : Nat) (l2 : Nat) (l3 : Nat) (l4 : Int32) (l5 : Int32) (l6 : Int32) (s0 : Nat) (s1 : Bool) (M : mj_M) (h : vb_X8_isSo_117 k7 post l0 l1 l2 l3 l4 l5 l6 s0 s1 M) : mj_X g 117 [(0, vR l0), (1, vR l1), (2, vR l2), (3, vR l3), (4, vI l4), (5, vI l5), (6, vI l6)] [vI (mj_b s1), vR s0] M 0 0 := by
  simp only [vb_X8_isSo_117] at h
  obtain ⟨ht1, h⟩ := h
  refine mx_callV (inj := mj_jV) (As := [vI (mj_b s1)]) (st := []) hC (ct_X8_takeFactor s0 s1 M _ h) ty_X8_takeFactor tw701 ht1 rfl (Nat.le_of_ble_eq_true rfl) ⟨rfl, rfl, ⟨by decide, by decide⟩, by decide, by decide⟩ dX8_isSo_117 (fun _ M2 h => ?_)
  show mj_X g 120 [(0, vR l0), (1, vR l1), (2, vR l2), (3, vR l3), (4, vI l4), (5, vI l5), (6, vI l6)] [] M2 0 0
  refine mx_aload_n (j := 0) hC dX8_isSo_120 rfl rfl ?_
  refine mx_dup hC dX8_isSo_121 rfl ?_
  obtain ⟨ht3, h⟩ := h
  refine mx_get (v := vI (mj_i M2 l0 4)) hC tf_X8_38 ht3 rfl dX8_isSo_122 ?_
  refine mx_iconst (v := 1) hC dX8_isSo_125 (by decide) ?_
  refine mx_iadd hC dX8_isSo_126 ?_
  refine mx_put (v := vI ((mj_i M2 l0 4) + 1)) (M1 := mj_wi M2 l0 4 ((mj_i M2 l0 4) + 1)) hC tf_X8_38 ht3 (Or.inl rfl) ⟨rfl, rfl⟩ (mj_off_wi _ _ _ _) mj_put_wi dX8_isSo_127 ?_
  refine mx_goto (tgt := 139) hC dX8_isSo_130 (by decide) ?_
  refine mx_iinc (j := 6) (v := l6 + 1) (L' := [(6, vI (l6 + 1)), (0, vR l0), (1, vR l1), (2, vR l2), (3, vR l3), (4, vI l4), (5, vI l5)]) hC dX8_isSo_139 rfl rfl (by decide) rfl ?_
  refine mx_goto (tgt := 7) hC dX8_isSo_142 (by decide) ?_
  refine mx_sub (L' := [(0, vR l0), (1, vR l1), (2, vR l2), (3, vR l3), (4, vI l4), (5, vI l5), (6, vI (l6 + 1))]) [1, 2, 3, 4, 5, 6, 0] rfl ?_
  exact show mj_X g 7 [(0, vR l0), (1, vR l1), (2, vR l2), (3, vR l3), (4, vI l4), (5, vI l5), (6, vI (l6 + 1))] [] (mj_wi M2 l0 4 ((mj_i M2 l0 4) + 1)) 0 0 from (hk7 l0 l1 l2 l3 l4 l5 (l6 + 1) (mj_wi M2 l0 4 ((mj_i M2 l0 4) + 1)) h)
set_option maxHeartbeats 4000000 in
set_option maxRecDepth 100000 in
theorem xb_X8_isSo_109 {g : mj_G} {post : Bool → mj_M → Prop} (hC : mj_C g yX8_isSo cX8_isSo 8 (some .boolean) rm_X8_isSo) (hE : mj_E g mj_jB post 0 0) {k7 : Nat → Nat → Nat → Nat → Int32 → Int32 → Int32 → mj_M → Prop} (hk7 : ∀ (l0 : Nat) (l1 : Nat) (l2 : Nat) (l3 : Nat) (l4 : Int32) (l5 : Int32) (l6 : Int32) (M : mj_M), k7 l0 l1 l2 l3 l4 l5 l6 M → mj_X g 7 [(0, vR l0), (1, vR l1), (2, vR l2), (3, vR l3), (4, vI l4), (5, vI l5), (6, vI l6)] [] M 0 0) (l0 : Nat) (l1 : Nat) (l2 : Nat) (l3 : Nat) (l4 : Int32) (l5 : Int32) (l6 : Int32) (s0 : Nat) (s1 : Bool) (s2 : Bool) (M : mj_M) (h : vb_X8_isSo_109 k7 post l0 l1 l2 l3 l4 l5 l6 s0 s1 s2 M) : mj_X g 109 [(0, vR l0), (1, vR l1), (2, vR l2), (3, vR l3), (4, vI l4), (5, vI l5), (6, vI l6)] [vI (mj_b s2), vI (mj_b s1), vR s0] M 0 0 := by
  simp only [vb_X8_isSo_109] at h
  refine mx_icmpeq (tgt := 116) hC dX8_isSo_109 (by decide) (fun hc4 => ?_) (fun hc4 => ?_)
  · replace h := mj_yy hc4 h
    refine mx_iconst (v := 0) hC dX8_isSo_116 (by decide) ?_
    refine mx_sub (L' := [(0, vR l0), (1, vR l1), (2, vR l2), (3, vR l3), (4, vI l4), (5, vI l5), (6, vI l6)]) [0, 1, 2, 3, 4, 5, 6] rfl ?_
    exact show mj_X g 117 [(0, vR l0), (1, vR l1), (2, vR l2), (3, vR l3), (4, vI l4), (5, vI l5), (6, vI l6)] [vI (mj_b false), vR s0] M 0 0 from (xb_X8_isSo_117 hC hE hk7 l0 l1 l2 l3 l4 l5 l6 s0 false M h)
  · replace h := mj_nn hc4 h
    refine mx_iconst (v := 1) hC dX8_isSo_112 (by decide) ?_
    refine mx_goto (tgt := 117) hC dX8_isSo_113 (by decide) ?_
    refine mx_sub (L' := [(0, vR l0), (1, vR l1), (2, vR l2), (3, vR l3), (4, vI l4), (5, vI l5), (6, vI l6)]) [0, 1, 2, 3, 4, 5, 6] rfl ?_
    exact show mj_X g 117 [(0, vR l0), (1, vR l1), (2, vR l2), (3, vR l3), (4, vI l4), (5, vI l5), (6, vI l6)] [vI (mj_b true), vR s0] M 0 0 from (xb_X8_isSo_117 hC hE hk7 l0 l1 l2 l3 l4 l5 l6 s0 true M h)
set_option maxHeartbeats 4000000 in
set_option maxRecDepth 100000 in
theorem xb_X8_isSo_90 {g : mj_G} {post : Bool → mj_M → Prop} (hC : mj_C g yX8_isSo cX8_isSo 8 (some .boolean) rm_X8_isSo) (hE : mj_E g mj_jB post 0 0) {k7 : Nat → Nat → Nat → Nat → Int32 → Int32 → Int32 → mj_M → Prop} (hk7 : ∀ (l0 : Nat) (l1 : Nat) (l2 : Nat) (l3 : Nat) (l4 : Int32) (l5 : Int32) (l6 : Int32) (M : mj_M), k7 l0 l1 l2 l3 l4 l5 l6 M → mj_X g 7 [(0, vR l0), (1, vR l1), (2, vR l2), (3, vR l3), (4, vI l4), (5, vI l5), (6, vI l6)] [] M 0 0) (l0 : Nat) (l1 : Nat) (l2 : Nat) (l3 : Nat) (l4 : Int32) (l5 : Int32) (l6 : Int32) (M : mj_M) (h : vb_X8_isSo_90 k7 post l0 l1 l2 l3 l4 l5 l6 M) : mj_X g 90 [(0, vR l0), (1, vR l1), (2, vR l2), (3, vR l3), (4, vI l4), (5, vI l5), (6, vI l6)] [] M 0 0 := by
  simp only [vb_X8_isSo_90] at h
  refine mx_aload_n (j := 0) hC dX8_isSo_90 rfl rfl ?_
  refine mx_aload_n (j := 0) hC dX8_isSo_91 rfl rfl ?_
  obtain ⟨ht5, h⟩ := h
  refine mx_callV (inj := mj_jB) (As := []) (st := [vR l0]) hC (ct_X8_compares l0 M _ h) ty_X8_compares tw697 ht5 rfl (Nat.le_of_ble_eq_true rfl) ⟨rfl, rfl, ⟨by decide, by decide⟩, by decide, by decide⟩ dX8_isSo_92 (fun r6 M7 h => ?_)
  show mj_X g 95 [(0, vR l0), (1, vR l1), (2, vR l2), (3, vR l3), (4, vI l4), (5, vI l5), (6, vI l6)] [vI (mj_b r6), vR l0] M7 0 0
  refine mx_aload_n (j := 0) hC dX8_isSo_95 rfl rfl ?_
  obtain ⟨ht8, h⟩ := h
  refine mx_get (v := vI (mj_i M7 l0 4)) hC tf_X8_38 ht8 rfl dX8_isSo_96 ?_
  refine mx_iload (j := 5) hC dX8_isSo_99 rfl ?_
  refine mx_icmpne (tgt := 108) hC dX8_isSo_101 (by decide) (fun hc9 => ?_) (fun hc9 => ?_)
  · replace h := mj_nn hc9 h
    refine mx_iconst (v := 0) hC dX8_isSo_108 (by decide) ?_
    refine mx_sub (L' := [(0, vR l0), (1, vR l1), (2, vR l2), (3, vR l3), (4, vI l4), (5, vI l5), (6, vI l6)]) [0, 1, 2, 3, 4, 5, 6] rfl ?_
    exact show mj_X g 109 [(0, vR l0), (1, vR l1), (2, vR l2), (3, vR l3), (4, vI l4), (5, vI l5), (6, vI l6)] [vI (mj_b false), vI (mj_b r6), vR l0] M7 0 0 from (xb_X8_isSo_109 hC hE hk7 l0 l1 l2 l3 l4 l5 l6 l0 r6 false M7 h)
  · replace h := mj_yy hc9 h
    refine mx_iconst (v := 1) hC dX8_isSo_104 (by decide) ?_
    refine mx_goto (tgt := 109) hC dX8_isSo_105 (by decide) ?_
    refine mx_sub (L' := [(0, vR l0), (1, vR l1), (2, vR l2), (3, vR l3), (4, vI l4), (5, vI l5), (6, vI l6)]) [0, 1, 2, 3, 4, 5, 6] rfl ?_
    exact show mj_X g 109 [(0, vR l0), (1, vR l1), (2, vR l2), (3, vR l3), (4, vI l4), (5, vI l5), (6, vI l6)] [vI (mj_b true), vI (mj_b r6), vR l0] M7 0 0 from (xb_X8_isSo_109 hC hE hk7 l0 l1 l2 l3 l4 l5 l6 l0 r6 true M7 h)
set_option maxHeartbeats 4000000 in
set_option maxRecDepth 100000 in
theorem xb_X8_isSo_7 {g : mj_G} {post : Bool → mj_M → Prop} (hC : mj_C g yX8_isSo cX8_isSo 8 (some .boolean) rm_X8_isSo) (hE : mj_E g mj_jB post 0 0) : ∀ (f : Nat) (l0 : Nat) (l1 : Nat) (l2 : Nat) (l3 : Nat) (l4 : Int32) (l5 : Int32) (l6 : Int32) (M : mj_M), vb_X8_isSo_7 post f l0 l1 l2 l3 l4 l5 l6 M → mj_X g 7 [(0, vR l0), (1, vR l1), (2, vR l2), (3, vR l3), (4, vI l4), (5, vI l5), (6, vI l6)] [] M 0 0 := by
  intro f
  induction f with
  | zero => exact fun _ _ _ _ _ _ _ _ h => absurd h (fun z => z)
  | succ f ih =>
    intro l0 l1 l2 l3 l4 l5 l6 M h
    simp only [vb_X8_isSo_7] at h
    refine mx_iload (j := 6) hC dX8_isSo_7 rfl ?_
    refine mx_aload_n (j := 1) hC dX8_isSo_9 rfl rfl ?_
    obtain ⟨ht10, h⟩ := h
    refine mx_alen hC ht10 dX8_isSo_10 ?_
    refine mx_icmpge (tgt := 145) hC dX8_isSo_11 (by decide) (fun hc11 => ?_) (fun hc11 => ?_)
    · replace h := mj_yy hc11 h
      refine mx_aload_n (j := 0) hC dX8_isSo_145 rfl rfl ?_
      obtain ⟨ht12, h⟩ := h
      refine mx_callV (inj := mj_jB) (As := []) (st := []) hC (ct_X8_isSoHere l0 M _ h) ty_X8_isSoHere tw710 ht12 rfl (Nat.le_of_ble_eq_true rfl) ⟨rfl, rfl, ⟨by decide, by decide⟩, by decide, by decide⟩ dX8_isSo_146 (fun r13 M14 h => ?_)
      show mj_X g 149 [(0, vR l0), (1, vR l1), (2, vR l2), (3, vR l3), (4, vI l4), (5, vI l5), (6, vI l6)] [vI (mj_b r13)] M14 0 0
      exact mx_zret (b := r13) hC hE rfl dX8_isSo_149 h
    · replace h := mj_nn hc11 h
      refine mx_aload_n (j := 1) hC dX8_isSo_14 rfl rfl ?_
      refine mx_iload (j := 6) hC dX8_isSo_15 rfl ?_
      obtain ⟨hi15, h⟩ := h
      refine mx_iaload hC ht10 hi15 dX8_isSo_17 ?_
      refine mx_istore (L' := [(7, vI (mj_i M l1 (l6 : Int32).toNatClampNeg)), (0, vR l0), (1, vR l1), (2, vR l2), (3, vR l3), (4, vI l4), (5, vI l5), (6, vI l6)]) hC dX8_isSo_18 (by decide) rfl ?_
      refine mx_iload (j := 0) hC dX8_isSo_20 rfl ?_
      refine mx_callSN (inj := mj_jB) (As := [vI (mj_i M l1 (l6 : Int32).toNatClampNeg)]) (st := []) hC (ct_X11_isFact (mj_i M l1 (l6 : Int32).toNatClampNeg) M _ h) ty_X11_isFact tn670 rfl (Nat.le_of_ble_eq_true rfl) ⟨rfl, rfl, ⟨by decide, by decide⟩, by decide, by decide⟩ dX8_isSo_22 (fun r16 M17 h => ?_)
      show mj_X g 25 [(7, vI (mj_i M l1 (l6 : Int32).toNatClampNeg)), (0, vR l0), (1, vR l1), (2, vR l2), (3, vR l3), (4, vI l4), (5, vI l5), (6, vI l6)] [vI (mj_b r16)] M17 0 0
      refine mx_ifeqB (tgt := 44) hC dX8_isSo_25 (by decide) (fun hc18 => ?_) (fun hc18 => ?_)
      · replace h := mj_nn hc18 h
        refine mx_iload (j := 0) hC dX8_isSo_44 rfl ?_
        refine mx_callSN (inj := mj_jB) (As := [vI (mj_i M l1 (l6 : Int32).toNatClampNeg)]) (st := []) hC (ct_X11_isDigit (mj_i M l1 (l6 : Int32).toNatClampNeg) M17 _ h) ty_X11_isDigit tn696 rfl (Nat.le_of_ble_eq_true rfl) ⟨rfl, rfl, ⟨by decide, by decide⟩, by decide, by decide⟩ dX8_isSo_46 (fun r19 M20 h => ?_)
        show mj_X g 49 [(7, vI (mj_i M l1 (l6 : Int32).toNatClampNeg)), (0, vR l0), (1, vR l1), (2, vR l2), (3, vR l3), (4, vI l4), (5, vI l5), (6, vI l6)] [vI (mj_b r19)] M20 0 0
        refine mx_ifeqB (tgt := 133) hC dX8_isSo_49 (by decide) (fun hc21 => ?_) (fun hc21 => ?_)
        · replace h := mj_nn hc21 h
          refine mx_aload_n (j := 1) hC dX8_isSo_133 rfl rfl ?_
          refine mx_iload (j := 0) hC dX8_isSo_134 rfl ?_
          obtain ⟨ht22, h⟩ := h
          refine mx_callV (inj := mj_jV) (As := [vI (mj_i M l1 (l6 : Int32).toNatClampNeg)]) (st := []) hC (ct_X8_takeSign l0 (mj_i M l1 (l6 : Int32).toNatClampNeg) M20 _ h) ty_X8_takeSign tw705 ht22 rfl (Nat.le_of_ble_eq_true rfl) ⟨rfl, rfl, ⟨by decide, by decide⟩, by decide, by decide⟩ dX8_isSo_136 (fun _ M23 h => ?_)
          show mj_X g 139 [(7, vI (mj_i M l1 (l6 : Int32).toNatClampNeg)), (0, vR l0), (1, vR l1), (2, vR l2), (3, vR l3), (4, vI l4), (5, vI l5), (6, vI l6)] [] M23 0 0
          refine mx_iinc (j := 7) (v := l6 + 1) (L' := [(6, vI (l6 + 1)), (7, vI (mj_i M l1 (l6 : Int32).toNatClampNeg)), (0, vR l0), (1, vR l1), (2, vR l2), (3, vR l3), (4, vI l4), (5, vI l5)]) hC dX8_isSo_139 rfl rfl (by decide) rfl ?_
          refine mx_goto (tgt := 7) hC dX8_isSo_142 (by decide) ?_
          refine mx_sub (L' := [(0, vR l0), (1, vR l1), (2, vR l2), (3, vR l3), (4, vI l4), (5, vI l5), (6, vI (l6 + 1))]) [2, 3, 4, 5, 6, 7, 0] rfl ?_
          exact show mj_X g 7 [(0, vR l0), (1, vR l1), (2, vR l2), (3, vR l3), (4, vI l4), (5, vI l5), (6, vI (l6 + 1))] [] M23 0 0 from (ih l0 l1 l2 l3 l4 l5 (l6 + 1) M23 h)
        · replace h := mj_yy hc21 h
          refine mx_aload_n (j := 1) hC dX8_isSo_52 rfl rfl ?_
          refine mx_aload_n (j := 1) hC dX8_isSo_53 rfl rfl ?_
          obtain ⟨ht24, h⟩ := h
          refine mx_get (v := vI (mj_i M20 l0 7)) hC tf_X8_31 ht24 rfl dX8_isSo_54 ?_
          refine mx_bipush (v := 10) hC dX8_isSo_57 (by decide) ?_
          refine mx_imul hC dX8_isSo_59 ?_
          refine mx_iload (j := 0) hC dX8_isSo_60 rfl ?_
          refine mx_iadd hC dX8_isSo_62 ?_
          refine mx_bipush (v := 48) hC dX8_isSo_63 (by decide) ?_
          refine mx_isub hC dX8_isSo_65 ?_
          refine mx_put (v := vI ((((mj_i M20 l0 7) * 10) + (mj_i M l1 (l6 : Int32).toNatClampNeg)) - 48)) (M1 := mj_wi M20 l0 7 ((((mj_i M20 l0 7) * 10) + (mj_i M l1 (l6 : Int32).toNatClampNeg)) - 48)) hC tf_X8_31 ht24 (Or.inl rfl) ⟨rfl, rfl⟩ (mj_off_wi _ _ _ _) mj_put_wi dX8_isSo_66 ?_
          refine mx_iload (j := 7) hC dX8_isSo_69 rfl ?_
          refine mx_iconst (v := 1) hC dX8_isSo_71 (by decide) ?_
          refine mx_iadd hC dX8_isSo_72 ?_
          refine mx_aload_n (j := 2) hC dX8_isSo_73 rfl rfl ?_
          obtain ⟨ht25, h⟩ := h
          refine mx_alen hC ht25 dX8_isSo_74 ?_
          refine mx_icmpeq (tgt := 90) hC dX8_isSo_75 (by decide) (fun hc26 => ?_) (fun hc26 => ?_)
          · replace h := mj_yy hc26 h
            refine mx_sub (L' := [(0, vR l0), (1, vR l1), (2, vR l2), (3, vR l3), (4, vI l4), (5, vI l5), (6, vI l6)]) [1, 2, 3, 4, 5, 6, 7] rfl ?_
            exact show mj_X g 90 [(0, vR l0), (1, vR l1), (2, vR l2), (3, vR l3), (4, vI l4), (5, vI l5), (6, vI l6)] [] (mj_wi M20 l0 7 ((((mj_i M20 l0 7) * 10) + (mj_i M l1 (l6 : Int32).toNatClampNeg)) - 48)) 0 0 from (xb_X8_isSo_90 hC hE ih l0 l1 l2 l3 l4 l5 l6 (mj_wi M20 l0 7 ((((mj_i M20 l0 7) * 10) + (mj_i M l1 (l6 : Int32).toNatClampNeg)) - 48)) h)
          · replace h := mj_nn hc26 h
            refine mx_aload_n (j := 2) hC dX8_isSo_78 rfl rfl ?_
            refine mx_iload (j := 7) hC dX8_isSo_79 rfl ?_
            refine mx_iconst (v := 1) hC dX8_isSo_81 (by decide) ?_
            refine mx_iadd hC dX8_isSo_82 ?_
            obtain ⟨hi27, h⟩ := h
            refine mx_iaload hC ht25 hi27 dX8_isSo_83 ?_
            refine mx_callSN (inj := mj_jB) (As := [vI (mj_i (mj_wi M20 l0 7 ((((mj_i M20 l0 7) * 10) + (mj_i M l1 (l6 : Int32).toNatClampNeg)) - 48)) l1 (l6 + 1 : Int32).toNatClampNeg)]) (st := []) hC (ct_X11_isDigit (mj_i (mj_wi M20 l0 7 ((((mj_i M20 l0 7) * 10) + (mj_i M l1 (l6 : Int32).toNatClampNeg)) - 48)) l1 (l6 + 1 : Int32).toNatClampNeg) (mj_wi M20 l0 7 ((((mj_i M20 l0 7) * 10) + (mj_i M l1 (l6 : Int32).toNatClampNeg)) - 48)) _ h) ty_X11_isDigit tn696 rfl (Nat.le_of_ble_eq_true rfl) ⟨rfl, rfl, ⟨by decide, by decide⟩, by decide, by decide⟩ dX8_isSo_84 (fun r28 M29 h => ?_)
            show mj_X g 87 [(7, vI (mj_i M l1 (l6 : Int32).toNatClampNeg)), (0, vR l0), (1, vR l1), (2, vR l2), (3, vR l3), (4, vI l4), (5, vI l5), (6, vI l6)] [vI (mj_b r28)] M29 0 0
            refine mx_ifneB (tgt := 139) hC dX8_isSo_87 (by decide) (fun hc30 => ?_) (fun hc30 => ?_)
            · replace h := mj_yy hc30 h
              refine mx_iinc (j := 7) (v := l6 + 1) (L' := [(6, vI (l6 + 1)), (7, vI (mj_i M l1 (l6 : Int32).toNatClampNeg)), (0, vR l0), (1, vR l1), (2, vR l2), (3, vR l3), (4, vI l4), (5, vI l5)]) hC dX8_isSo_139 rfl rfl (by decide) rfl ?_
              refine mx_goto (tgt := 7) hC dX8_isSo_142 (by decide) ?_
              refine mx_sub (L' := [(0, vR l0), (1, vR l1), (2, vR l2), (3, vR l3), (4, vI l4), (5, vI l5), (6, vI (l6 + 1))]) [2, 3, 4, 5, 6, 7, 0] rfl ?_
              exact show mj_X g 7 [(0, vR l0), (1, vR l1), (2, vR l2), (3, vR l3), (4, vI l4), (5, vI l5), (6, vI (l6 + 1))] [] M29 0 0 from (ih l0 l1 l2 l3 l4 l5 (l6 + 1) M29 h)
            · replace h := mj_nn hc30 h
              refine mx_sub (L' := [(0, vR l0), (1, vR l1), (2, vR l2), (3, vR l3), (4, vI l4), (5, vI l5), (6, vI l6)]) [1, 2, 3, 4, 5, 6, 7] rfl ?_
              exact show mj_X g 90 [(0, vR l0), (1, vR l1), (2, vR l2), (3, vR l3), (4, vI l4), (5, vI l5), (6, vI l6)] [] M29 0 0 from (xb_X8_isSo_90 hC hE ih l0 l1 l2 l3 l4 l5 l6 M29 h)
      · replace h := mj_yy hc18 h
        refine mx_aload_n (j := 1) hC dX8_isSo_28 rfl rfl ?_
        refine mx_aload_n (j := 3) hC dX8_isSo_29 rfl rfl ?_
        refine mx_aload_n (j := 4) hC dX8_isSo_30 rfl rfl ?_
        refine mx_iload (j := 0) hC dX8_isSo_31 rfl ?_
        refine mx_iload (j := 5) hC dX8_isSo_33 rfl ?_
        obtain ⟨ht31, h⟩ := h
        refine mx_callV (inj := mj_jI) (As := [vR l3, vI (mj_i M l1 (l6 : Int32).toNatClampNeg), vI l4]) (st := [vR l0]) hC (ct_X4_measure l2 l3 (mj_i M l1 (l6 : Int32).toNatClampNeg) l4 M17 _ h) ty_X4_measure tw671 ht31 rfl (Nat.le_of_ble_eq_true rfl) ⟨rfl, rfl, ⟨by decide, by decide⟩, by decide, by decide⟩ dX8_isSo_35 (fun r32 M33 h => ?_)
        show mj_X g 38 [(7, vI (mj_i M l1 (l6 : Int32).toNatClampNeg)), (0, vR l0), (1, vR l1), (2, vR l2), (3, vR l3), (4, vI l4), (5, vI l5), (6, vI l6)] [vI r32, vR l0] M33 0 0
        obtain ⟨ht34, h⟩ := h
        refine mx_put (v := vI r32) (M1 := mj_wi M33 l0 5 r32) hC tf_X8_24 ht34 (Or.inl rfl) ⟨rfl, rfl⟩ (mj_off_wi _ _ _ _) mj_put_wi dX8_isSo_38 ?_
        refine mx_goto (tgt := 139) hC dX8_isSo_41 (by decide) ?_
        refine mx_iinc (j := 7) (v := l6 + 1) (L' := [(6, vI (l6 + 1)), (7, vI (mj_i M l1 (l6 : Int32).toNatClampNeg)), (0, vR l0), (1, vR l1), (2, vR l2), (3, vR l3), (4, vI l4), (5, vI l5)]) hC dX8_isSo_139 rfl rfl (by decide) rfl ?_
        refine mx_goto (tgt := 7) hC dX8_isSo_142 (by decide) ?_
        refine mx_sub (L' := [(0, vR l0), (1, vR l1), (2, vR l2), (3, vR l3), (4, vI l4), (5, vI l5), (6, vI (l6 + 1))]) [2, 3, 4, 5, 6, 7, 0] rfl ?_
        exact show mj_X g 7 [(0, vR l0), (1, vR l1), (2, vR l2), (3, vR l3), (4, vI l4), (5, vI l5), (6, vI (l6 + 1))] [] (mj_wi M33 l0 5 r32) 0 0 from (ih l0 l1 l2 l3 l4 l5 (l6 + 1) (mj_wi M33 l0 5 r32) h)
set_option maxHeartbeats 4000000 in
set_option maxRecDepth 100000 in
theorem ct_X8_isSo {l : Launch} {base : Nat} {D : va_G} {A : mj_AT} (l0 : Nat) (l1 : Nat) (l2 : Nat) (l3 : Nat) (l4 : Int32) (l5 : Int32) (M : mj_M) (post : Bool → mj_M → Prop) (h : vc_X8_isSo l0 l1 l2 l3 l4 l5 M post) : mj_Met l base D A mj_jB yX8_isSo cX8_isSo 8 (some .boolean) rm_X8_isSo 0 0 [vR l0, vR l1, vR l2, vR l3, vI l4, vI l5] M post := by
  refine mj_entry (by decide +kernel) (Nat.le_of_ble_eq_true rfl) (fun g hC hE h1 h2 h3 h4 => ?_)
  show mj_X g 0 [(0, vR l0), (1, vR l1), (2, vR l2), (3, vR l3), (4, vI l4), (5, vI l5)] [] M 0 0
  simp only [vc_X8_isSo] at h
  refine mx_aload_n (j := 0) hC dX8_isSo_0 rfl rfl ?_
  obtain ⟨ht35, h⟩ := h
  refine mx_callV (inj := mj_jV) (As := []) (st := []) hC (ct_X8_restart l0 M _ h) ty_X8_restart tw661 ht35 rfl (Nat.le_of_ble_eq_true rfl) ⟨rfl, rfl, ⟨by decide, by decide⟩, by decide, by decide⟩ dX8_isSo_1 (fun _ M36 h => ?_)
  show mj_X g 4 [(0, vR l0), (1, vR l1), (2, vR l2), (3, vR l3), (4, vI l4), (5, vI l5)] [] M36 0 0
  refine mx_iconst (v := 0) hC dX8_isSo_4 (by decide) ?_
  refine mx_istore (L' := [(6, vI 0), (0, vR l0), (1, vR l1), (2, vR l2), (3, vR l3), (4, vI l4), (5, vI l5)]) hC dX8_isSo_5 (by decide) rfl ?_
  refine mx_sub (L' := [(0, vR l0), (1, vR l1), (2, vR l2), (3, vR l3), (4, vI l4), (5, vI l5), (6, vI 0)]) [1, 2, 3, 4, 5, 6, 0] rfl ?_
  exact show mj_X g 7 [(0, vR l0), (1, vR l1), (2, vR l2), (3, vR l3), (4, vI l4), (5, vI l5), (6, vI 0)] [] M36 0 0 from (xb_X8_isSo_7 hC hE 60 l0 l1 l2 l3 l4 l5 0 M36 h)

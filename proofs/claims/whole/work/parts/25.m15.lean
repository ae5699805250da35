/-! methods 15. By program (wip/gen) out of the bytecode: vc_KEY: what must hold of a call; ct_KEY: then the machine does it. -/
theorem tw1556 : (Jvm.Cond.constantLong "LeaseLandModel" (253 : Nat) (3 : Int64)) ∈ mj_tbl := mj_w 1609 (by decide +kernel) (by decide +kernel)
def rm_X12_isKind : Room := { frames := 1, cells := 0, slots := 0, locals := 25 }
theorem dX12_isKind_0 : decode cX12_isKind 0 = .ok (.iload_n 0, 1) := by decide +kernel
theorem dX12_isKind_1 : decode cX12_isKind 1 = .ok (.i2l, 1) := by decide +kernel
theorem dX12_isKind_2 : decode cX12_isKind 2 = .ok (.lconst 0, 1) := by decide +kernel
theorem dX12_isKind_3 : decode cX12_isKind 3 = .ok (.ldc2_w 253, 3) := by decide +kernel
theorem dX12_isKind_6 : decode cX12_isKind 6 = .ok (.invokestatic 133, 3) := by decide +kernel
theorem dX12_isKind_9 : decode cX12_isKind 9 = .ok (.ireturn, 1) := by decide +kernel
def vc_X12_isKind (l0 : Int32) (M : mj_M) (post : Bool → mj_M → Prop) : Prop := vc_X12_in ((l0 : Int32).toInt64) 0 3 M (fun r1 M2 => post r1 M2)
set_option maxHeartbeats 4000000 in
set_option maxRecDepth 100000 in
theorem ct_X12_isKind {l : Launch} {base : Nat} {D : va_G} {A : ClassId × ClassId × ClassId} (l0 : Int32) (M : mj_M) (post : Bool → mj_M → Prop) (h : vc_X12_isKind l0 M post) : mj_Met l base D A mj_jB yX12_isKind cX12_isKind 1 (some .boolean) rm_X12_isKind 0 0 [vI l0] M post := by
  refine mj_entry (by decide +kernel) (Nat.le_of_ble_eq_true rfl) (fun g hC hE h1 h2 h3 h4 => ?_)
  show mj_X g 0 [(0, vI l0)] [] M 0 0
  simp only [vc_X12_isKind] at h
  refine mx_iload_n (j := 0) hC dX12_isKind_0 rfl rfl ?_
  refine mx_i2l hC dX12_isKind_1 ?_
  refine mx_lconst (v := 0) hC dX12_isKind_2 (by decide) ?_
  refine mx_ldc2 (v := 3) hC dX12_isKind_3 tw1556 ?_
  refine mx_callS (inj := mj_jB) (As := [vL ((l0 : Int32).toInt64), vL 0, vL 3]) (st := []) hC (ct_X12_in ((l0 : Int32).toInt64) 0 3 M _ h) ty_X12_in tw1379 rfl (Nat.le_of_ble_eq_true rfl) ⟨rfl, rfl, ⟨by decide, by decide⟩, by decide, by decide⟩ dX12_isKind_6 (fun r1 M2 h => ?_)
  show mj_X g 9 [(0, vI l0)] [vI (mj_b r1)] M2 0 0
  exact mx_zret (b := r1) hC hE rfl dX12_isKind_9 h
theorem tw1229 : (Jvm.Cond.fieldLink "LeaseLandModel" (258 : Nat) "LeaseLandModel" "acts" "I") ∈ mj_tbl := mj_w 1282 (by decide +kernel) (by decide +kernel)
theorem tf_X12_258 : mj_F 12 20 .int false "LeaseLandModel" 258 := ⟨_, tk12, by decide, rfl, rfl, rfl, tw1229⟩
theorem tw1553 : (Jvm.Cond.methodLink "LeaseLandModel" (255 : Nat) ({ cls := "LeaseLandModel", name := "isKind", desc := "(I)Z" } : Jvm.MethodName)) ∈ mj_tbl := mj_w 1606 (by decide +kernel) (by decide +kernel)
theorem tw1555 : (Jvm.Cond.code ({ cls := "LeaseLandModel", name := "isKind", desc := "(I)Z" } : Jvm.MethodName) prog_14_method_48_code (1 : Nat) (Option.some Jvm.ClassFile.FieldType.boolean)) ∈ mj_tbl := mj_w 1608 (by decide +kernel) (by decide +kernel)
theorem tw1554 : (Jvm.Cond.static ({ cls := "LeaseLandModel", name := "isKind", desc := "(I)Z" } : Jvm.MethodName)) ∈ mj_tbl := mj_w 1607 (by decide +kernel) (by decide +kernel)
theorem ty_X12_isKind : mj_YS yX12_isKind cX12_isKind 1 (some .boolean) 1 := ⟨⟨tw1555, tw11, by decide +kernel, by decide +kernel, by decide +kernel⟩, tw1554⟩
def rm_X12_act : Room := { frames := 4, cells := 0, slots := 0, locals := 91 }
theorem dX12_act_0 : decode cX12_act 0 = .ok (.iload_n 1, 1) := by decide +kernel
theorem dX12_act_1 : decode cX12_act 1 = .ok (.invokestatic 255, 3) := by decide +kernel
theorem dX12_act_4 : decode cX12_act 4 = .ok (.ifCond .ne 5, 3) := by decide +kernel
theorem dX12_act_7 : decode cX12_act 7 = .ok (.iconst (-1), 1) := by decide +kernel
theorem dX12_act_8 : decode cX12_act 8 = .ok (.ireturn, 1) := by decide +kernel
theorem dX12_act_9 : decode cX12_act 9 = .ok (.iload_n 2, 1) := by decide +kernel
theorem dX12_act_10 : decode cX12_act 10 = .ok (.invokestatic 220, 3) := by decide +kernel
theorem dX12_act_13 : decode cX12_act 13 = .ok (.ifCond .ne 6, 3) := by decide +kernel
theorem dX12_act_16 : decode cX12_act 16 = .ok (.bipush (-2), 2) := by decide +kernel
theorem dX12_act_18 : decode cX12_act 18 = .ok (.ireturn, 1) := by decide +kernel
theorem dX12_act_19 : decode cX12_act 19 = .ok (.aload_n 0, 1) := by decide +kernel
theorem dX12_act_20 : decode cX12_act 20 = .ok (.getfield 258, 3) := by decide +kernel
theorem dX12_act_23 : decode cX12_act 23 = .ok (.bipush 12, 2) := by decide +kernel
theorem dX12_act_25 : decode cX12_act 25 = .ok (.if_icmp .ne 6, 3) := by decide +kernel
theorem dX12_act_28 : decode cX12_act 28 = .ok (.bipush (-4), 2) := by decide +kernel
theorem dX12_act_30 : decode cX12_act 30 = .ok (.ireturn, 1) := by decide +kernel
theorem dX12_act_31 : decode cX12_act 31 = .ok (.aload_n 0, 1) := by decide +kernel
theorem dX12_act_32 : decode cX12_act 32 = .ok (.invokevirtual 249, 3) := by decide +kernel
theorem dX12_act_35 : decode cX12_act 35 = .ok (.ifCond .lt 6, 3) := by decide +kernel
theorem dX12_act_38 : decode cX12_act 38 = .ok (.bipush (-5), 2) := by decide +kernel
theorem dX12_act_40 : decode cX12_act 40 = .ok (.ireturn, 1) := by decide +kernel
theorem dX12_act_41 : decode cX12_act 41 = .ok (.aload_n 0, 1) := by decide +kernel
theorem dX12_act_42 : decode cX12_act 42 = .ok (.getfield 55, 3) := by decide +kernel
theorem dX12_act_45 : decode cX12_act 45 = .ok (.aload_n 0, 1) := by decide +kernel
theorem dX12_act_46 : decode cX12_act 46 = .ok (.getfield 258, 3) := by decide +kernel
theorem dX12_act_49 : decode cX12_act 49 = .ok (.aload_n 0, 1) := by decide +kernel
theorem dX12_act_50 : decode cX12_act 50 = .ok (.getfield 55, 3) := by decide +kernel
theorem dX12_act_53 : decode cX12_act 53 = .ok (.bipush 12, 2) := by decide +kernel
theorem dX12_act_55 : decode cX12_act 55 = .ok (.iaload, 1) := by decide +kernel
theorem dX12_act_56 : decode cX12_act 56 = .ok (.iastore, 1) := by decide +kernel
theorem dX12_act_57 : decode cX12_act 57 = .ok (.iconst 0, 1) := by decide +kernel
theorem dX12_act_58 : decode cX12_act 58 = .ok (.istore_n 3, 1) := by decide +kernel
theorem dX12_act_59 : decode cX12_act 59 = .ok (.iload_n 3, 1) := by decide +kernel
theorem dX12_act_60 : decode cX12_act 60 = .ok (.aload_n 0, 1) := by decide +kernel
theorem dX12_act_61 : decode cX12_act 61 = .ok (.getfield 55, 3) := by decide +kernel
theorem dX12_act_64 : decode cX12_act 64 = .ok (.bipush 12, 2) := by decide +kernel
theorem dX12_act_66 : decode cX12_act 66 = .ok (.iaload, 1) := by decide +kernel
theorem dX12_act_67 : decode cX12_act 67 = .ok (.if_icmp .ge 33, 3) := by decide +kernel
theorem dX12_act_70 : decode cX12_act 70 = .ok (.aload_n 0, 1) := by decide +kernel
theorem dX12_act_71 : decode cX12_act 71 = .ok (.getfield 52, 3) := by decide +kernel
theorem dX12_act_74 : decode cX12_act 74 = .ok (.bipush 48, 2) := by decide +kernel
theorem dX12_act_76 : decode cX12_act 76 = .ok (.aload_n 0, 1) := by decide +kernel
theorem dX12_act_77 : decode cX12_act 77 = .ok (.getfield 258, 3) := by decide +kernel
theorem dX12_act_80 : decode cX12_act 80 = .ok (.imul, 1) := by decide +kernel
theorem dX12_act_81 : decode cX12_act 81 = .ok (.iload_n 3, 1) := by decide +kernel
theorem dX12_act_82 : decode cX12_act 82 = .ok (.iadd, 1) := by decide +kernel
theorem dX12_act_83 : decode cX12_act 83 = .ok (.aload_n 0, 1) := by decide +kernel
theorem dX12_act_84 : decode cX12_act 84 = .ok (.getfield 52, 3) := by decide +kernel
theorem dX12_act_87 : decode cX12_act 87 = .ok (.sipush 576, 3) := by decide +kernel
theorem dX12_act_90 : decode cX12_act 90 = .ok (.iload_n 3, 1) := by decide +kernel
theorem dX12_act_91 : decode cX12_act 91 = .ok (.iadd, 1) := by decide +kernel
theorem dX12_act_92 : decode cX12_act 92 = .ok (.iaload, 1) := by decide +kernel
theorem dX12_act_93 : decode cX12_act 93 = .ok (.iastore, 1) := by decide +kernel
theorem dX12_act_94 : decode cX12_act 94 = .ok (.iinc 3 1, 3) := by decide +kernel
theorem dX12_act_97 : decode cX12_act 97 = .ok (.goto (-38), 3) := by decide +kernel
theorem dX12_act_100 : decode cX12_act 100 = .ok (.aload_n 0, 1) := by decide +kernel
theorem dX12_act_101 : decode cX12_act 101 = .ok (.getfield 58, 3) := by decide +kernel
theorem dX12_act_104 : decode cX12_act 104 = .ok (.aload_n 0, 1) := by decide +kernel
theorem dX12_act_105 : decode cX12_act 105 = .ok (.getfield 258, 3) := by decide +kernel
theorem dX12_act_108 : decode cX12_act 108 = .ok (.iload_n 1, 1) := by decide +kernel
theorem dX12_act_109 : decode cX12_act 109 = .ok (.iastore, 1) := by decide +kernel
theorem dX12_act_110 : decode cX12_act 110 = .ok (.aload_n 0, 1) := by decide +kernel
theorem dX12_act_111 : decode cX12_act 111 = .ok (.getfield 61, 3) := by decide +kernel
theorem dX12_act_114 : decode cX12_act 114 = .ok (.aload_n 0, 1) := by decide +kernel
theorem dX12_act_115 : decode cX12_act 115 = .ok (.getfield 258, 3) := by decide +kernel
theorem dX12_act_118 : decode cX12_act 118 = .ok (.iload_n 2, 1) := by decide +kernel
theorem dX12_act_119 : decode cX12_act 119 = .ok (.iastore, 1) := by decide +kernel
theorem dX12_act_120 : decode cX12_act 120 = .ok (.aload_n 0, 1) := by decide +kernel
theorem dX12_act_121 : decode cX12_act 121 = .ok (.getfield 55, 3) := by decide +kernel
theorem dX12_act_124 : decode cX12_act 124 = .ok (.bipush 12, 2) := by decide +kernel
theorem dX12_act_126 : decode cX12_act 126 = .ok (.iconst 0, 1) := by decide +kernel
theorem dX12_act_127 : decode cX12_act 127 = .ok (.iastore, 1) := by decide +kernel
theorem dX12_act_128 : decode cX12_act 128 = .ok (.aload_n 0, 1) := by decide +kernel
theorem dX12_act_129 : decode cX12_act 129 = .ok (.dup, 1) := by decide +kernel
theorem dX12_act_130 : decode cX12_act 130 = .ok (.getfield 258, 3) := by decide +kernel
theorem dX12_act_133 : decode cX12_act 133 = .ok (.iconst 1, 1) := by decide +kernel
theorem dX12_act_134 : decode cX12_act 134 = .ok (.iadd, 1) := by decide +kernel
theorem dX12_act_135 : decode cX12_act 135 = .ok (.putfield 258, 3) := by decide +kernel
theorem dX12_act_138 : decode cX12_act 138 = .ok (.aload_n 0, 1) := by decide +kernel
theorem dX12_act_139 : decode cX12_act 139 = .ok (.getfield 258, 3) := by decide +kernel
theorem dX12_act_142 : decode cX12_act 142 = .ok (.ireturn, 1) := by decide +kernel
def vb_X12_act_59 (post : Int32 → mj_M → Prop) : Nat → Nat → Int32 → Int32 → Int32 → mj_M → Prop
  | 0 => fun _ _ _ _ _ => False
  | f + 1 => fun l0 l1 l2 l3 M => mj_tag M l0 = 13 ∧ mj_tag M (mj_r M l0 17) = 101 ∧ vp_in 12 (mj_len M (mj_r M l0 17)) ∧ if (mj_i M (mj_r M l0 17) (12 : Int32).toNatClampNeg) ≤ l3 then (mj_tag M (mj_r M l0 18) = 101 ∧ vp_in (mj_i M l0 20) (mj_len M (mj_r M l0 18)) ∧ mj_tag M (mj_r M l0 19) = 101 ∧ vp_in (mj_i (mj_wi M (mj_r M l0 18) (mj_i M l0 20 : Int32).toNatClampNeg l1) l0 20) (mj_len M (mj_r M l0 19)) ∧ post (mj_i (mj_wi (mj_wi (mj_wi (mj_wi M (mj_r M l0 18) (mj_i M l0 20 : Int32).toNatClampNeg l1) (mj_r M l0 19) (mj_i (mj_wi M (mj_r M l0 18) (mj_i M l0 20 : Int32).toNatClampNeg l1) l0 20 : Int32).toNatClampNeg l2) (mj_r M l0 17) (12 : Int32).toNatClampNeg 0) l0 20 ((mj_i (mj_wi (mj_wi (mj_wi M (mj_r M l0 18) (mj_i M l0 20 : Int32).toNatClampNeg l1) (mj_r M l0 19) (mj_i (mj_wi M (mj_r M l0 18) (mj_i M l0 20 : Int32).toNatClampNeg l1) l0 20 : Int32).toNatClampNeg l2) (mj_r M l0 17) (12 : Int32).toNatClampNeg 0) l0 20) + 1)) l0 20) (mj_wi (mj_wi (mj_wi (mj_wi M (mj_r M l0 18) (mj_i M l0 20 : Int32).toNatClampNeg l1) (mj_r M l0 19) (mj_i (mj_wi M (mj_r M l0 18) (mj_i M l0 20 : Int32).toNatClampNeg l1) l0 20 : Int32).toNatClampNeg l2) (mj_r M l0 17) (12 : Int32).toNatClampNeg 0) l0 20 ((mj_i (mj_wi (mj_wi (mj_wi M (mj_r M l0 18) (mj_i M l0 20 : Int32).toNatClampNeg l1) (mj_r M l0 19) (mj_i (mj_wi M (mj_r M l0 18) (mj_i M l0 20 : Int32).toNatClampNeg l1) l0 20 : Int32).toNatClampNeg l2) (mj_r M l0 17) (12 : Int32).toNatClampNeg 0) l0 20) + 1))) else (mj_tag M (mj_r M l0 16) = 101 ∧ vp_in (576 + l3) (mj_len M (mj_r M l0 16)) ∧ vp_in ((48 * (mj_i M l0 20)) + l3) (mj_len M (mj_r M l0 16)) ∧ vb_X12_act_59 post f l0 l1 l2 (l3 + 1) (mj_wi M (mj_r M l0 16) ((48 * (mj_i M l0 20)) + l3 : Int32).toNatClampNeg (mj_i M (mj_r M l0 16) (576 + l3 : Int32).toNatClampNeg)))
def vc_X12_act (l0 : Nat) (l1 : Int32) (l2 : Int32) (M : mj_M) (post : Int32 → mj_M → Prop) : Prop := vc_X12_isKind l1 M (fun r12 M13 => if r12 = true then (vc_X12_isDay l2 M13 (fun r15 M16 => if r15 = true then (mj_tag M16 l0 = 13 ∧ if (mj_i M16 l0 20) = 12 then (post ((-4)) M16) else (vc_X12_faultOf l0 M16 (fun r20 M21 => if r20 < 0 then (mj_tag M21 l0 = 13 ∧ mj_tag M21 (mj_r M21 l0 17) = 101 ∧ vp_in 12 (mj_len M21 (mj_r M21 l0 17)) ∧ vp_in (mj_i M21 l0 20) (mj_len M21 (mj_r M21 l0 17)) ∧ ∃ fe, vb_X12_act_59 post fe l0 l1 l2 0 (mj_wi M21 (mj_r M21 l0 17) (mj_i M21 l0 20 : Int32).toNatClampNeg (mj_i M21 (mj_r M21 l0 17) (12 : Int32).toNatClampNeg))) else (post ((-5)) M21)))) else (post ((-2)) M16))) else (post ((-1)) M13))
set_option maxHeartbeats 4000000 in
set_option maxRecDepth 100000 in
theorem xb_X12_act_59 {g : mj_G} {post : Int32 → mj_M → Prop} (hC : mj_C g yX12_act cX12_act 4 (some .int) rm_X12_act) (hE : mj_E g mj_jI post 0 0) : ∀ (f : Nat) (l0 : Nat) (l1 : Int32) (l2 : Int32) (l3 : Int32) (M : mj_M), vb_X12_act_59 post f l0 l1 l2 l3 M → mj_X g 59 [(0, vR l0), (1, vI l1), (2, vI l2), (3, vI l3)] [] M 0 0 := by
  intro f
  induction f with
  | zero => exact fun _ _ _ _ _ h => absurd h (fun z => z)
  | succ f ih =>
    intro l0 l1 l2 l3 M h
    simp only [vb_X12_act_59] at h
    refine mx_iload_n (j := 3) hC dX12_act_59 rfl rfl ?_
    refine mx_aload_n (j := 0) hC dX12_act_60 rfl rfl ?_
    obtain ⟨ht1, h⟩ := h
    refine mx_get (v := vR (mj_r M l0 17)) hC tf_X12_55 ht1 rfl dX12_act_61 ?_
    refine mx_bipush (v := 12) hC dX12_act_64 (by decide) ?_
    obtain ⟨ht2, h⟩ := h
    obtain ⟨hi3, h⟩ := h
    refine mx_iaload hC ht2 hi3 dX12_act_66 ?_
    refine mx_icmpge (tgt := 100) hC dX12_act_67 (by decide) (fun hc4 => ?_) (fun hc4 => ?_)
    · replace h := mj_yy hc4 h
      refine mx_aload_n (j := 0) hC dX12_act_100 rfl rfl ?_
      refine mx_get (v := vR (mj_r M l0 18)) hC tf_X12_58 ht1 rfl dX12_act_101 ?_
      refine mx_aload_n (j := 0) hC dX12_act_104 rfl rfl ?_
      refine mx_get (v := vI (mj_i M l0 20)) hC tf_X12_258 ht1 rfl dX12_act_105 ?_
      refine mx_iload_n (j := 1) hC dX12_act_108 rfl rfl ?_
      obtain ⟨ht5, h⟩ := h
      obtain ⟨hi6, h⟩ := h
      refine mx_iastore hC ht5 hi6 dX12_act_109 ?_
      refine mx_aload_n (j := 0) hC dX12_act_110 rfl rfl ?_
      refine mx_get (v := vR (mj_r M l0 19)) hC tf_X12_61 ht1 rfl dX12_act_111 ?_
      refine mx_aload_n (j := 0) hC dX12_act_114 rfl rfl ?_
      refine mx_get (v := vI (mj_i (mj_wi M (mj_r M l0 18) (mj_i M l0 20 : Int32).toNatClampNeg l1) l0 20)) hC tf_X12_258 ht1 rfl dX12_act_115 ?_
      refine mx_iload_n (j := 2) hC dX12_act_118 rfl rfl ?_
      obtain ⟨ht7, h⟩ := h
      obtain ⟨hi8, h⟩ := h
      refine mx_iastore hC ht7 hi8 dX12_act_119 ?_
      refine mx_aload_n (j := 0) hC dX12_act_120 rfl rfl ?_
      refine mx_get (v := vR (mj_r M l0 17)) hC tf_X12_55 ht1 rfl dX12_act_121 ?_
      refine mx_bipush (v := 12) hC dX12_act_124 (by decide) ?_
      refine mx_iconst (v := 0) hC dX12_act_126 (by decide) ?_
      refine mx_iastore hC ht2 hi3 dX12_act_127 ?_
      refine mx_aload_n (j := 0) hC dX12_act_128 rfl rfl ?_
      refine mx_dup hC dX12_act_129 rfl ?_
      refine mx_get (v := vI (mj_i (mj_wi (mj_wi (mj_wi M (mj_r M l0 18) (mj_i M l0 20 : Int32).toNatClampNeg l1) (mj_r M l0 19) (mj_i (mj_wi M (mj_r M l0 18) (mj_i M l0 20 : Int32).toNatClampNeg l1) l0 20 : Int32).toNatClampNeg l2) (mj_r M l0 17) (12 : Int32).toNatClampNeg 0) l0 20)) hC tf_X12_258 ht1 rfl dX12_act_130 ?_
      refine mx_iconst (v := 1) hC dX12_act_133 (by decide) ?_
      refine mx_iadd hC dX12_act_134 ?_
      refine mx_put (v := vI ((mj_i (mj_wi (mj_wi (mj_wi M (mj_r M l0 18) (mj_i M l0 20 : Int32).toNatClampNeg l1) (mj_r M l0 19) (mj_i (mj_wi M (mj_r M l0 18) (mj_i M l0 20 : Int32).toNatClampNeg l1) l0 20 : Int32).toNatClampNeg l2) (mj_r M l0 17) (12 : Int32).toNatClampNeg 0) l0 20) + 1)) (M1 := mj_wi (mj_wi (mj_wi (mj_wi M (mj_r M l0 18) (mj_i M l0 20 : Int32).toNatClampNeg l1) (mj_r M l0 19) (mj_i (mj_wi M (mj_r M l0 18) (mj_i M l0 20 : Int32).toNatClampNeg l1) l0 20 : Int32).toNatClampNeg l2) (mj_r M l0 17) (12 : Int32).toNatClampNeg 0) l0 20 ((mj_i (mj_wi (mj_wi (mj_wi M (mj_r M l0 18) (mj_i M l0 20 : Int32).toNatClampNeg l1) (mj_r M l0 19) (mj_i (mj_wi M (mj_r M l0 18) (mj_i M l0 20 : Int32).toNatClampNeg l1) l0 20 : Int32).toNatClampNeg l2) (mj_r M l0 17) (12 : Int32).toNatClampNeg 0) l0 20) + 1)) hC tf_X12_258 ht1 (Or.inl rfl) ⟨rfl, rfl⟩ (mj_off_wi _ _ _ _) mj_put_wi dX12_act_135 ?_
      refine mx_aload_n (j := 0) hC dX12_act_138 rfl rfl ?_
      refine mx_get (v := vI (mj_i (mj_wi (mj_wi (mj_wi (mj_wi M (mj_r M l0 18) (mj_i M l0 20 : Int32).toNatClampNeg l1) (mj_r M l0 19) (mj_i (mj_wi M (mj_r M l0 18) (mj_i M l0 20 : Int32).toNatClampNeg l1) l0 20 : Int32).toNatClampNeg l2) (mj_r M l0 17) (12 : Int32).toNatClampNeg 0) l0 20 ((mj_i (mj_wi (mj_wi (mj_wi M (mj_r M l0 18) (mj_i M l0 20 : Int32).toNatClampNeg l1) (mj_r M l0 19) (mj_i (mj_wi M (mj_r M l0 18) (mj_i M l0 20 : Int32).toNatClampNeg l1) l0 20 : Int32).toNatClampNeg l2) (mj_r M l0 17) (12 : Int32).toNatClampNeg 0) l0 20) + 1)) l0 20)) hC tf_X12_258 ht1 rfl dX12_act_139 ?_
      exact mx_iret hC hE rfl dX12_act_142 h
    · replace h := mj_nn hc4 h
      refine mx_aload_n (j := 0) hC dX12_act_70 rfl rfl ?_
      refine mx_get (v := vR (mj_r M l0 16)) hC tf_X12_52 ht1 rfl dX12_act_71 ?_
      refine mx_bipush (v := 48) hC dX12_act_74 (by decide) ?_
      refine mx_aload_n (j := 0) hC dX12_act_76 rfl rfl ?_
      refine mx_get (v := vI (mj_i M l0 20)) hC tf_X12_258 ht1 rfl dX12_act_77 ?_
      refine mx_imul hC dX12_act_80 ?_
      refine mx_iload_n (j := 3) hC dX12_act_81 rfl rfl ?_
      refine mx_iadd hC dX12_act_82 ?_
      refine mx_aload_n (j := 0) hC dX12_act_83 rfl rfl ?_
      refine mx_get (v := vR (mj_r M l0 16)) hC tf_X12_52 ht1 rfl dX12_act_84 ?_
      refine mx_sipush (v := 576) hC dX12_act_87 (by decide) ?_
      refine mx_iload_n (j := 3) hC dX12_act_90 rfl rfl ?_
      refine mx_iadd hC dX12_act_91 ?_
      obtain ⟨ht9, h⟩ := h
      obtain ⟨hi10, h⟩ := h
      refine mx_iaload hC ht9 hi10 dX12_act_92 ?_
      obtain ⟨hi11, h⟩ := h
      refine mx_iastore hC ht9 hi11 dX12_act_93 ?_
      refine mx_iinc (j := 3) (v := l3 + 1) (L' := [(3, vI (l3 + 1)), (0, vR l0), (1, vI l1), (2, vI l2)]) hC dX12_act_94 rfl rfl (by decide) rfl ?_
      refine mx_goto (tgt := 59) hC dX12_act_97 (by decide) ?_
      refine mx_sub (L' := [(0, vR l0), (1, vI l1), (2, vI l2), (3, vI (l3 + 1))]) [1, 2, 3, 0] rfl ?_
      exact show mj_X g 59 [(0, vR l0), (1, vI l1), (2, vI l2), (3, vI (l3 + 1))] [] (mj_wi M (mj_r M l0 16) ((48 * (mj_i M l0 20)) + l3 : Int32).toNatClampNeg (mj_i M (mj_r M l0 16) (576 + l3 : Int32).toNatClampNeg)) 0 0 from (ih l0 l1 l2 (l3 + 1) (mj_wi M (mj_r M l0 16) ((48 * (mj_i M l0 20)) + l3 : Int32).toNatClampNeg (mj_i M (mj_r M l0 16) (576 + l3 : Int32).toNatClampNeg)) h)
set_option maxHeartbeats 4000000 in
set_option maxRecDepth 100000 in
theorem ct_X12_act {l : Launch} {base : Nat} {D : va_G} {A : ClassId × ClassId × ClassId} (l0 : Nat) (l1 : Int32) (l2 : Int32) (M : mj_M) (post : Int32 → mj_M → Prop) (h : vc_X12_act l0 l1 l2 M post) : mj_Met l base D A mj_jI yX12_act cX12_act 4 (some .int) rm_X12_act 0 0 [vR l0, vI l1, vI l2] M post := by
  refine mj_entry (by decide +kernel) (Nat.le_of_ble_eq_true rfl) (fun g hC hE h1 h2 h3 h4 => ?_)
  show mj_X g 0 [(0, vR l0), (1, vI l1), (2, vI l2)] [] M 0 0
  simp only [vc_X12_act] at h
  refine mx_iload_n (j := 1) hC dX12_act_0 rfl rfl ?_
  refine mx_callS (inj := mj_jB) (As := [vI l1]) (st := []) hC (ct_X12_isKind l1 M _ h) ty_X12_isKind tw1553 rfl (Nat.le_of_ble_eq_true rfl) ⟨rfl, rfl, ⟨by decide, by decide⟩, by decide, by decide⟩ dX12_act_1 (fun r12 M13 h => ?_)
  show mj_X g 4 [(0, vR l0), (1, vI l1), (2, vI l2)] [vI (mj_b r12)] M13 0 0
  refine mx_ifneB (tgt := 9) hC dX12_act_4 (by decide) (fun hc14 => ?_) (fun hc14 => ?_)
  · replace h := mj_yy hc14 h
    refine mx_iload_n (j := 2) hC dX12_act_9 rfl rfl ?_
    refine mx_callS (inj := mj_jB) (As := [vI l2]) (st := []) hC (ct_X12_isDay l2 M13 _ h) ty_X12_isDay tw1502 rfl (Nat.le_of_ble_eq_true rfl) ⟨rfl, rfl, ⟨by decide, by decide⟩, by decide, by decide⟩ dX12_act_10 (fun r15 M16 h => ?_)
    show mj_X g 13 [(0, vR l0), (1, vI l1), (2, vI l2)] [vI (mj_b r15)] M16 0 0
    refine mx_ifneB (tgt := 19) hC dX12_act_13 (by decide) (fun hc17 => ?_) (fun hc17 => ?_)
    · replace h := mj_yy hc17 h
      refine mx_aload_n (j := 0) hC dX12_act_19 rfl rfl ?_
      obtain ⟨ht18, h⟩ := h
      refine mx_get (v := vI (mj_i M16 l0 20)) hC tf_X12_258 ht18 rfl dX12_act_20 ?_
      refine mx_bipush (v := 12) hC dX12_act_23 (by decide) ?_
      refine mx_icmpne (tgt := 31) hC dX12_act_25 (by decide) (fun hc19 => ?_) (fun hc19 => ?_)
      · replace h := mj_nn hc19 h
        refine mx_aload_n (j := 0) hC dX12_act_31 rfl rfl ?_
        refine mx_callV (inj := mj_jI) (As := []) (st := []) hC (ct_X12_faultOf l0 M16 _ h) ty_X12_faultOf tw1534 ht18 rfl (Nat.le_of_ble_eq_true rfl) ⟨rfl, rfl, ⟨by decide, by decide⟩, by decide, by decide⟩ dX12_act_32 (fun r20 M21 h => ?_)
        show mj_X g 35 [(0, vR l0), (1, vI l1), (2, vI l2)] [vI r20] M21 0 0
        refine mx_iflt (tgt := 41) hC dX12_act_35 (by decide) (fun hc22 => ?_) (fun hc22 => ?_)
        · replace h := mj_yy hc22 h
          refine mx_aload_n (j := 0) hC dX12_act_41 rfl rfl ?_
          obtain ⟨ht23, h⟩ := h
          refine mx_get (v := vR (mj_r M21 l0 17)) hC tf_X12_55 ht23 rfl dX12_act_42 ?_
          refine mx_aload_n (j := 0) hC dX12_act_45 rfl rfl ?_
          refine mx_get (v := vI (mj_i M21 l0 20)) hC tf_X12_258 ht23 rfl dX12_act_46 ?_
          refine mx_aload_n (j := 0) hC dX12_act_49 rfl rfl ?_
          refine mx_get (v := vR (mj_r M21 l0 17)) hC tf_X12_55 ht23 rfl dX12_act_50 ?_
          refine mx_bipush (v := 12) hC dX12_act_53 (by decide) ?_
          obtain ⟨ht24, h⟩ := h
          obtain ⟨hi25, h⟩ := h
          refine mx_iaload hC ht24 hi25 dX12_act_55 ?_
          obtain ⟨hi26, h⟩ := h
          refine mx_iastore hC ht24 hi26 dX12_act_56 ?_
          refine mx_iconst (v := 0) hC dX12_act_57 (by decide) ?_
          refine mx_istore_n (L' := [(3, vI 0), (0, vR l0), (1, vI l1), (2, vI l2)]) hC dX12_act_58 rfl (by decide) rfl ?_
          refine mx_sub (L' := [(0, vR l0), (1, vI l1), (2, vI l2), (3, vI 0)]) [1, 2, 3, 0] rfl ?_
          obtain ⟨fe, h⟩ := h
          exact show mj_X g 59 [(0, vR l0), (1, vI l1), (2, vI l2), (3, vI 0)] [] (mj_wi M21 (mj_r M21 l0 17) (mj_i M21 l0 20 : Int32).toNatClampNeg (mj_i M21 (mj_r M21 l0 17) (12 : Int32).toNatClampNeg)) 0 0 from (xb_X12_act_59 hC hE fe l0 l1 l2 0 (mj_wi M21 (mj_r M21 l0 17) (mj_i M21 l0 20 : Int32).toNatClampNeg (mj_i M21 (mj_r M21 l0 17) (12 : Int32).toNatClampNeg)) h)
        · replace h := mj_nn hc22 h
          refine mx_bipush (v := (-5)) hC dX12_act_38 (by decide) ?_
          exact mx_iret hC hE rfl dX12_act_40 h
      · replace h := mj_yy hc19 h
        refine mx_bipush (v := (-4)) hC dX12_act_28 (by decide) ?_
        exact mx_iret hC hE rfl dX12_act_30 h
    · replace h := mj_nn hc17 h
      refine mx_bipush (v := (-2)) hC dX12_act_16 (by decide) ?_
      exact mx_iret hC hE rfl dX12_act_18 h
  · replace h := mj_nn hc14 h
    refine mx_iconst (v := (-1)) hC dX12_act_7 (by decide) ?_
    exact mx_iret hC hE rfl dX12_act_8 h
def rm_X12_actOn : Room := { frames := 0, cells := 0, slots := 0, locals := 0 }
theorem dX12_actOn_0 : decode cX12_actOn 0 = .ok (.iconst (-1), 1) := by decide +kernel
theorem dX12_actOn_1 : decode cX12_actOn 1 = .ok (.istore_n 3, 1) := by decide +kernel
theorem dX12_actOn_2 : decode cX12_actOn 2 = .ok (.iconst 0, 1) := by decide +kernel
theorem dX12_actOn_3 : decode cX12_actOn 3 = .ok (.istore 4, 2) := by decide +kernel
theorem dX12_actOn_5 : decode cX12_actOn 5 = .ok (.iload 4, 2) := by decide +kernel
theorem dX12_actOn_7 : decode cX12_actOn 7 = .ok (.aload_n 0, 1) := by decide +kernel
theorem dX12_actOn_8 : decode cX12_actOn 8 = .ok (.getfield 258, 3) := by decide +kernel
theorem dX12_actOn_11 : decode cX12_actOn 11 = .ok (.if_icmp .ge 70, 3) := by decide +kernel
theorem dX12_actOn_14 : decode cX12_actOn 14 = .ok (.aload_n 0, 1) := by decide +kernel
theorem dX12_actOn_15 : decode cX12_actOn 15 = .ok (.getfield 58, 3) := by decide +kernel
theorem dX12_actOn_18 : decode cX12_actOn 18 = .ok (.iload 4, 2) := by decide +kernel
theorem dX12_actOn_20 : decode cX12_actOn 20 = .ok (.iaload, 1) := by decide +kernel
theorem dX12_actOn_21 : decode cX12_actOn 21 = .ok (.iload_n 1, 1) := by decide +kernel
theorem dX12_actOn_22 : decode cX12_actOn 22 = .ok (.if_icmp .ne 18, 3) := by decide +kernel
theorem dX12_actOn_25 : decode cX12_actOn 25 = .ok (.aload_n 0, 1) := by decide +kernel
theorem dX12_actOn_26 : decode cX12_actOn 26 = .ok (.getfield 61, 3) := by decide +kernel
theorem dX12_actOn_29 : decode cX12_actOn 29 = .ok (.iload 4, 2) := by decide +kernel
theorem dX12_actOn_31 : decode cX12_actOn 31 = .ok (.iaload, 1) := by decide +kernel
theorem dX12_actOn_32 : decode cX12_actOn 32 = .ok (.iload_n 2, 1) := by decide +kernel
theorem dX12_actOn_33 : decode cX12_actOn 33 = .ok (.if_icmp .gt 7, 3) := by decide +kernel
theorem dX12_actOn_36 : decode cX12_actOn 36 = .ok (.iconst 1, 1) := by decide +kernel
theorem dX12_actOn_37 : decode cX12_actOn 37 = .ok (.goto 4, 3) := by decide +kernel
theorem dX12_actOn_40 : decode cX12_actOn 40 = .ok (.iconst 0, 1) := by decide +kernel
theorem dX12_actOn_41 : decode cX12_actOn 41 = .ok (.istore 5, 2) := by decide +kernel
theorem dX12_actOn_43 : decode cX12_actOn 43 = .ok (.iload 5, 2) := by decide +kernel
theorem dX12_actOn_45 : decode cX12_actOn 45 = .ok (.ifCond .eq 28, 3) := by decide +kernel
theorem dX12_actOn_48 : decode cX12_actOn 48 = .ok (.iload_n 3, 1) := by decide +kernel
theorem dX12_actOn_49 : decode cX12_actOn 49 = .ok (.ifCond .lt 19, 3) := by decide +kernel
theorem dX12_actOn_52 : decode cX12_actOn 52 = .ok (.aload_n 0, 1) := by decide +kernel
theorem dX12_actOn_53 : decode cX12_actOn 53 = .ok (.getfield 61, 3) := by decide +kernel
theorem dX12_actOn_56 : decode cX12_actOn 56 = .ok (.iload 4, 2) := by decide +kernel
theorem dX12_actOn_58 : decode cX12_actOn 58 = .ok (.iaload, 1) := by decide +kernel
theorem dX12_actOn_59 : decode cX12_actOn 59 = .ok (.aload_n 0, 1) := by decide +kernel
theorem dX12_actOn_60 : decode cX12_actOn 60 = .ok (.getfield 61, 3) := by decide +kernel
theorem dX12_actOn_63 : decode cX12_actOn 63 = .ok (.iload_n 3, 1) := by decide +kernel
theorem dX12_actOn_64 : decode cX12_actOn 64 = .ok (.iaload, 1) := by decide +kernel
theorem dX12_actOn_65 : decode cX12_actOn 65 = .ok (.if_icmp .lt 8, 3) := by decide +kernel
theorem dX12_actOn_68 : decode cX12_actOn 68 = .ok (.iload 4, 2) := by decide +kernel
theorem dX12_actOn_70 : decode cX12_actOn 70 = .ok (.goto 4, 3) := by decide +kernel
theorem dX12_actOn_73 : decode cX12_actOn 73 = .ok (.iload_n 3, 1) := by decide +kernel
theorem dX12_actOn_74 : decode cX12_actOn 74 = .ok (.istore_n 3, 1) := by decide +kernel
theorem dX12_actOn_75 : decode cX12_actOn 75 = .ok (.iinc 4 1, 3) := by decide +kernel
theorem dX12_actOn_78 : decode cX12_actOn 78 = .ok (.goto (-73), 3) := by decide +kernel
theorem dX12_actOn_81 : decode cX12_actOn 81 = .ok (.iload_n 3, 1) := by decide +kernel
theorem dX12_actOn_82 : decode cX12_actOn 82 = .ok (.ireturn, 1) := by decide +kernel
def vb_X12_actOn_41 (k5 : Nat → Int32 → Int32 → Int32 → Int32 → mj_M → Prop) (post : Int32 → mj_M → Prop) (l0 : Nat) (l1 : Int32) (l2 : Int32) (l3 : Int32) (l4 : Int32) (s0 : Bool) (M : mj_M) : Prop := if s0 = true then (if l3 < 0 then (k5 l0 l1 l2 l4 (l4 + 1) M) else (mj_tag M l0 = 13 ∧ mj_tag M (mj_r M l0 19) = 101 ∧ vp_in l4 (mj_len M (mj_r M l0 19)) ∧ vp_in l3 (mj_len M (mj_r M l0 19)) ∧ if (mj_i M (mj_r M l0 19) (l4 : Int32).toNatClampNeg) < (mj_i M (mj_r M l0 19) (l3 : Int32).toNatClampNeg) then (k5 l0 l1 l2 l3 (l4 + 1) M) else (k5 l0 l1 l2 l4 (l4 + 1) M))) else (k5 l0 l1 l2 l3 (l4 + 1) M)
def vb_X12_actOn_40 (k5 : Nat → Int32 → Int32 → Int32 → Int32 → mj_M → Prop) (post : Int32 → mj_M → Prop) (l0 : Nat) (l1 : Int32) (l2 : Int32) (l3 : Int32) (l4 : Int32) (M : mj_M) : Prop := vb_X12_actOn_41 k5 post l0 l1 l2 l3 l4 false M
def vb_X12_actOn_5 (post : Int32 → mj_M → Prop) : Nat → Nat → Int32 → Int32 → Int32 → Int32 → mj_M → Prop
  | 0 => fun _ _ _ _ _ _ => False
  | f + 1 => fun l0 l1 l2 l3 l4 M => mj_tag M l0 = 13 ∧ if (mj_i M l0 20) ≤ l4 then (post l3 M) else (mj_tag M (mj_r M l0 18) = 101 ∧ vp_in l4 (mj_len M (mj_r M l0 18)) ∧ if (mj_i M (mj_r M l0 18) (l4 : Int32).toNatClampNeg) = l1 then (mj_tag M (mj_r M l0 19) = 101 ∧ vp_in l4 (mj_len M (mj_r M l0 19)) ∧ if l2 < (mj_i M (mj_r M l0 19) (l4 : Int32).toNatClampNeg) then (vb_X12_actOn_40 (vb_X12_actOn_5 post f) post l0 l1 l2 l3 l4 M) else (vb_X12_actOn_41 (vb_X12_actOn_5 post f) post l0 l1 l2 l3 l4 true M)) else (vb_X12_actOn_40 (vb_X12_actOn_5 post f) post l0 l1 l2 l3 l4 M))
def vc_X12_actOn (l0 : Nat) (l1 : Int32) (l2 : Int32) (M : mj_M) (post : Int32 → mj_M → Prop) : Prop := ∃ fe, vb_X12_actOn_5 post fe l0 l1 l2 ((-1)) 0 M
set_option maxHeartbeats 4000000 in
set_option maxRecDepth 100000 in
theorem xb_X12_actOn_41 {g : mj_G} {post : Int32 → mj_M → Prop} (hC : mj_C g yX12_actOn cX12_actOn 6 (some .int) rm_X12_actOn) (hE : mj_E g mj_jI post 0 0) {k5 : Nat → Int32 → Int32 → Int32 → Int32 → mj_M → Prop} (hk5 : ∀ (l0 : Nat) (l1 : Int32) (l2 : Int32) (l3 : Int32) (l4 : Int32) (M : mj_M), k5 l0 l1 l2 l3 l4 M → mj_X g 5 [(0, vR l0), (1, vI l1), (2, vI l2), (3, vI l3), (4, vI l4)] [] M 0 0) (l0 : Nat) (l1 : Int32) (l2 : Int32) (l3 : Int32) (l4 : Int32) (s0 : Bool) (M : mj_M) (h : vb_X12_actOn_41 k5 post l0 l1 l2 l3 l4 s0 M) : mj_X g 41 [(0, vR l0), (1, vI l1), (2, vI l2), (3, vI l3), (4, vI l4)] [vI (mj_b s0)] M 0 0 := by
  simp only [vb_X12_actOn_41] at h
  refine mx_istore (L' := [(5, vI (mj_b s0)), (0, vR l0), (1, vI l1), (2, vI l2), (3, vI l3), (4, vI l4)]) hC dX12_actOn_41 (by decide) rfl ?_
  refine mx_iload (j := 0) hC dX12_actOn_43 rfl ?_
  refine mx_ifeqB (tgt := 73) hC dX12_actOn_45 (by decide) (fun hc1 => ?_) (fun hc1 => ?_)
  · replace h := mj_nn hc1 h
    refine mx_iload_n (j := 4) hC dX12_actOn_73 rfl rfl ?_
    refine mx_istore_n (L' := [(3, vI l3), (5, vI (mj_b s0)), (0, vR l0), (1, vI l1), (2, vI l2), (4, vI l4)]) hC dX12_actOn_74 rfl (by decide) rfl ?_
    refine mx_iinc (j := 5) (v := l4 + 1) (L' := [(4, vI (l4 + 1)), (3, vI l3), (5, vI (mj_b s0)), (0, vR l0), (1, vI l1), (2, vI l2)]) hC dX12_actOn_75 rfl rfl (by decide) rfl ?_
    refine mx_goto (tgt := 5) hC dX12_actOn_78 (by decide) ?_
    refine mx_sub (L' := [(0, vR l0), (1, vI l1), (2, vI l2), (3, vI l3), (4, vI (l4 + 1))]) [3, 4, 5, 1, 0] rfl ?_
    exact show mj_X g 5 [(0, vR l0), (1, vI l1), (2, vI l2), (3, vI l3), (4, vI (l4 + 1))] [] M 0 0 from (hk5 l0 l1 l2 l3 (l4 + 1) M h)
  · replace h := mj_yy hc1 h
    refine mx_iload_n (j := 4) hC dX12_actOn_48 rfl rfl ?_
    refine mx_iflt (tgt := 68) hC dX12_actOn_49 (by decide) (fun hc2 => ?_) (fun hc2 => ?_)
    · replace h := mj_yy hc2 h
      refine mx_iload (j := 5) hC dX12_actOn_68 rfl ?_
      refine mx_goto (tgt := 74) hC dX12_actOn_70 (by decide) ?_
      refine mx_istore_n (L' := [(3, vI l4), (5, vI (mj_b s0)), (0, vR l0), (1, vI l1), (2, vI l2), (4, vI l4)]) hC dX12_actOn_74 rfl (by decide) rfl ?_
      refine mx_iinc (j := 5) (v := l4 + 1) (L' := [(4, vI (l4 + 1)), (3, vI l4), (5, vI (mj_b s0)), (0, vR l0), (1, vI l1), (2, vI l2)]) hC dX12_actOn_75 rfl rfl (by decide) rfl ?_
      refine mx_goto (tgt := 5) hC dX12_actOn_78 (by decide) ?_
      refine mx_sub (L' := [(0, vR l0), (1, vI l1), (2, vI l2), (3, vI l4), (4, vI (l4 + 1))]) [3, 4, 5, 1, 0] rfl ?_
      exact show mj_X g 5 [(0, vR l0), (1, vI l1), (2, vI l2), (3, vI l4), (4, vI (l4 + 1))] [] M 0 0 from (hk5 l0 l1 l2 l4 (l4 + 1) M h)
    · replace h := mj_nn hc2 h
      refine mx_aload_n (j := 1) hC dX12_actOn_52 rfl rfl ?_
      obtain ⟨ht3, h⟩ := h
      refine mx_get (v := vR (mj_r M l0 19)) hC tf_X12_61 ht3 rfl dX12_actOn_53 ?_
      refine mx_iload (j := 5) hC dX12_actOn_56 rfl ?_
      obtain ⟨ht4, h⟩ := h
      obtain ⟨hi5, h⟩ := h
      refine mx_iaload hC ht4 hi5 dX12_actOn_58 ?_
      refine mx_aload_n (j := 1) hC dX12_actOn_59 rfl rfl ?_
      refine mx_get (v := vR (mj_r M l0 19)) hC tf_X12_61 ht3 rfl dX12_actOn_60 ?_
      refine mx_iload_n (j := 4) hC dX12_actOn_63 rfl rfl ?_
      obtain ⟨hi6, h⟩ := h
      refine mx_iaload hC ht4 hi6 dX12_actOn_64 ?_
      refine mx_icmplt (tgt := 73) hC dX12_actOn_65 (by decide) (fun hc7 => ?_) (fun hc7 => ?_)
      · replace h := mj_yy hc7 h
        refine mx_iload_n (j := 4) hC dX12_actOn_73 rfl rfl ?_
        refine mx_istore_n (L' := [(3, vI l3), (5, vI (mj_b s0)), (0, vR l0), (1, vI l1), (2, vI l2), (4, vI l4)]) hC dX12_actOn_74 rfl (by decide) rfl ?_
        refine mx_iinc (j := 5) (v := l4 + 1) (L' := [(4, vI (l4 + 1)), (3, vI l3), (5, vI (mj_b s0)), (0, vR l0), (1, vI l1), (2, vI l2)]) hC dX12_actOn_75 rfl rfl (by decide) rfl ?_
        refine mx_goto (tgt := 5) hC dX12_actOn_78 (by decide) ?_
        refine mx_sub (L' := [(0, vR l0), (1, vI l1), (2, vI l2), (3, vI l3), (4, vI (l4 + 1))]) [3, 4, 5, 1, 0] rfl ?_
        exact show mj_X g 5 [(0, vR l0), (1, vI l1), (2, vI l2), (3, vI l3), (4, vI (l4 + 1))] [] M 0 0 from (hk5 l0 l1 l2 l3 (l4 + 1) M h)
      · replace h := mj_nn hc7 h
        refine mx_iload (j := 5) hC dX12_actOn_68 rfl ?_
        refine mx_goto (tgt := 74) hC dX12_actOn_70 (by decide) ?_
        refine mx_istore_n (L' := [(3, vI l4), (5, vI (mj_b s0)), (0, vR l0), (1, vI l1), (2, vI l2), (4, vI l4)]) hC dX12_actOn_74 rfl (by decide) rfl ?_
        refine mx_iinc (j := 5) (v := l4 + 1) (L' := [(4, vI (l4 + 1)), (3, vI l4), (5, vI (mj_b s0)), (0, vR l0), (1, vI l1), (2, vI l2)]) hC dX12_actOn_75 rfl rfl (by decide) rfl ?_
        refine mx_goto (tgt := 5) hC dX12_actOn_78 (by decide) ?_
        refine mx_sub (L' := [(0, vR l0), (1, vI l1), (2, vI l2), (3, vI l4), (4, vI (l4 + 1))]) [3, 4, 5, 1, 0] rfl ?_
        exact show mj_X g 5 [(0, vR l0), (1, vI l1), (2, vI l2), (3, vI l4), (4, vI (l4 + 1))] [] M 0 0 from (hk5 l0 l1 l2 l4 (l4 + 1) M h)
set_option maxHeartbeats 4000000 in
set_option maxRecDepth 100000 in
theorem xb_X12_actOn_40 {g : mj_G} {post : Int32 → mj_M → Prop} (hC : mj_C g yX12_actOn cX12_actOn 6 (some .int) rm_X12_actOn) (hE : mj_E g mj_jI post 0 0) {k5 : Nat → Int32 → Int32 → Int32 → Int32 → mj_M → Prop} (hk5 : ∀ (l0 : Nat) (l1 : Int32) (l2 : Int32) (l3 : Int32) (l4 : Int32) (M : mj_M), k5 l0 l1 l2 l3 l4 M → mj_X g 5 [(0, vR l0), (1, vI l1), (2, vI l2), (3, vI l3), (4, vI l4)] [] M 0 0) (l0 : Nat) (l1 : Int32) (l2 : Int32) (l3 : Int32) (l4 : Int32) (M : mj_M) (h : vb_X12_actOn_40 k5 post l0 l1 l2 l3 l4 M) : mj_X g 40 [(0, vR l0), (1, vI l1), (2, vI l2), (3, vI l3), (4, vI l4)] [] M 0 0 := by
  simp only [vb_X12_actOn_40] at h
  refine mx_iconst (v := 0) hC dX12_actOn_40 (by decide) ?_
  refine mx_sub (L' := [(0, vR l0), (1, vI l1), (2, vI l2), (3, vI l3), (4, vI l4)]) [0, 1, 2, 3, 4] rfl ?_
  exact show mj_X g 41 [(0, vR l0), (1, vI l1), (2, vI l2), (3, vI l3), (4, vI l4)] [vI (mj_b false)] M 0 0 from (xb_X12_actOn_41 hC hE hk5 l0 l1 l2 l3 l4 false M h)
set_option maxHeartbeats 4000000 in
set_option maxRecDepth 100000 in
theorem xb_X12_actOn_5 {g : mj_G} {post : Int32 → mj_M → Prop} (hC : mj_C g yX12_actOn cX12_actOn 6 (some .int) rm_X12_actOn) (hE : mj_E g mj_jI post 0 0) : ∀ (f : Nat) (l0 : Nat) (l1 : Int32) (l2 : Int32) (l3 : Int32) (l4 : Int32) (M : mj_M), vb_X12_actOn_5 post f l0 l1 l2 l3 l4 M → mj_X g 5 [(0, vR l0), (1, vI l1), (2, vI l2), (3, vI l3), (4, vI l4)] [] M 0 0 := by
  intro f
  induction f with
  | zero => exact fun _ _ _ _ _ _ h => absurd h (fun z => z)
  | succ f ih =>
    intro l0 l1 l2 l3 l4 M h
    simp only [vb_X12_actOn_5] at h
    refine mx_iload (j := 4) hC dX12_actOn_5 rfl ?_
    refine mx_aload_n (j := 0) hC dX12_actOn_7 rfl rfl ?_
    obtain ⟨ht8, h⟩ := h
    refine mx_get (v := vI (mj_i M l0 20)) hC tf_X12_258 ht8 rfl dX12_actOn_8 ?_
    refine mx_icmpge (tgt := 81) hC dX12_actOn_11 (by decide) (fun hc9 => ?_) (fun hc9 => ?_)
    · replace h := mj_yy hc9 h
      refine mx_iload_n (j := 3) hC dX12_actOn_81 rfl rfl ?_
      exact mx_iret hC hE rfl dX12_actOn_82 h
    · replace h := mj_nn hc9 h
      refine mx_aload_n (j := 0) hC dX12_actOn_14 rfl rfl ?_
      refine mx_get (v := vR (mj_r M l0 18)) hC tf_X12_58 ht8 rfl dX12_actOn_15 ?_
      refine mx_iload (j := 4) hC dX12_actOn_18 rfl ?_
      obtain ⟨ht10, h⟩ := h
      obtain ⟨hi11, h⟩ := h
      refine mx_iaload hC ht10 hi11 dX12_actOn_20 ?_
      refine mx_iload_n (j := 1) hC dX12_actOn_21 rfl rfl ?_
      refine mx_icmpne (tgt := 40) hC dX12_actOn_22 (by decide) (fun hc12 => ?_) (fun hc12 => ?_)
      · replace h := mj_nn hc12 h
        refine mx_sub (L' := [(0, vR l0), (1, vI l1), (2, vI l2), (3, vI l3), (4, vI l4)]) [0, 1, 2, 3, 4] rfl ?_
        exact show mj_X g 40 [(0, vR l0), (1, vI l1), (2, vI l2), (3, vI l3), (4, vI l4)] [] M 0 0 from (xb_X12_actOn_40 hC hE ih l0 l1 l2 l3 l4 M h)
      · replace h := mj_yy hc12 h
        refine mx_aload_n (j := 0) hC dX12_actOn_25 rfl rfl ?_
        refine mx_get (v := vR (mj_r M l0 19)) hC tf_X12_61 ht8 rfl dX12_actOn_26 ?_
        refine mx_iload (j := 4) hC dX12_actOn_29 rfl ?_
        obtain ⟨ht13, h⟩ := h
        obtain ⟨hi14, h⟩ := h
        refine mx_iaload hC ht13 hi14 dX12_actOn_31 ?_
        refine mx_iload_n (j := 2) hC dX12_actOn_32 rfl rfl ?_
        refine mx_icmpgt (tgt := 40) hC dX12_actOn_33 (by decide) (fun hc15 => ?_) (fun hc15 => ?_)
        · replace h := mj_yy hc15 h
          refine mx_sub (L' := [(0, vR l0), (1, vI l1), (2, vI l2), (3, vI l3), (4, vI l4)]) [0, 1, 2, 3, 4] rfl ?_
          exact show mj_X g 40 [(0, vR l0), (1, vI l1), (2, vI l2), (3, vI l3), (4, vI l4)] [] M 0 0 from (xb_X12_actOn_40 hC hE ih l0 l1 l2 l3 l4 M h)
        · replace h := mj_nn hc15 h
          refine mx_iconst (v := 1) hC dX12_actOn_36 (by decide) ?_
          refine mx_goto (tgt := 41) hC dX12_actOn_37 (by decide) ?_
          refine mx_sub (L' := [(0, vR l0), (1, vI l1), (2, vI l2), (3, vI l3), (4, vI l4)]) [0, 1, 2, 3, 4] rfl ?_
          exact show mj_X g 41 [(0, vR l0), (1, vI l1), (2, vI l2), (3, vI l3), (4, vI l4)] [vI (mj_b true)] M 0 0 from (xb_X12_actOn_41 hC hE ih l0 l1 l2 l3 l4 true M h)
set_option maxHeartbeats 4000000 in
set_option maxRecDepth 100000 in
theorem ct_X12_actOn {l : Launch} {base : Nat} {D : va_G} {A : ClassId × ClassId × ClassId} (l0 : Nat) (l1 : Int32) (l2 : Int32) (M : mj_M) (post : Int32 → mj_M → Prop) (h : vc_X12_actOn l0 l1 l2 M post) : mj_Met l base D A mj_jI yX12_actOn cX12_actOn 6 (some .int) rm_X12_actOn 0 0 [vR l0, vI l1, vI l2] M post := by
  refine mj_entry (by decide +kernel) (Nat.le_of_ble_eq_true rfl) (fun g hC hE h1 h2 h3 h4 => ?_)
  show mj_X g 0 [(0, vR l0), (1, vI l1), (2, vI l2)] [] M 0 0
  simp only [vc_X12_actOn] at h
  refine mx_iconst (v := (-1)) hC dX12_actOn_0 (by decide) ?_
  refine mx_istore_n (L' := [(3, vI ((-1))), (0, vR l0), (1, vI l1), (2, vI l2)]) hC dX12_actOn_1 rfl (by decide) rfl ?_
  refine mx_iconst (v := 0) hC dX12_actOn_2 (by decide) ?_
  refine mx_istore (L' := [(4, vI 0), (3, vI ((-1))), (0, vR l0), (1, vI l1), (2, vI l2)]) hC dX12_actOn_3 (by decide) rfl ?_
  refine mx_sub (L' := [(0, vR l0), (1, vI l1), (2, vI l2), (3, vI ((-1))), (4, vI 0)]) [2, 3, 4, 1, 0] rfl ?_
  obtain ⟨fe, h⟩ := h
  exact show mj_X g 5 [(0, vR l0), (1, vI l1), (2, vI l2), (3, vI ((-1))), (4, vI 0)] [] M 0 0 from (xb_X12_actOn_5 hC hE fe l0 l1 l2 ((-1)) 0 M h)
def rm_X12_depthOf : Room := { frames := 0, cells := 0, slots := 0, locals := 0 }
theorem dX12_depthOf_0 : decode cX12_depthOf 0 = .ok (.iconst 0, 1) := by decide +kernel
theorem dX12_depthOf_1 : decode cX12_depthOf 1 = .ok (.istore_n 2, 1) := by decide +kernel
theorem dX12_depthOf_2 : decode cX12_depthOf 2 = .ok (.aload_n 0, 1) := by decide +kernel
theorem dX12_depthOf_3 : decode cX12_depthOf 3 = .ok (.getfield 7, 3) := by decide +kernel
theorem dX12_depthOf_6 : decode cX12_depthOf 6 = .ok (.iload_n 1, 1) := by decide +kernel
theorem dX12_depthOf_7 : decode cX12_depthOf 7 = .ok (.iaload, 1) := by decide +kernel
theorem dX12_depthOf_8 : decode cX12_depthOf 8 = .ok (.istore_n 3, 1) := by decide +kernel
theorem dX12_depthOf_9 : decode cX12_depthOf 9 = .ok (.iload_n 3, 1) := by decide +kernel
theorem dX12_depthOf_10 : decode cX12_depthOf 10 = .ok (.ifCond .lt 16, 3) := by decide +kernel
theorem dX12_depthOf_13 : decode cX12_depthOf 13 = .ok (.iinc 2 1, 3) := by decide +kernel
theorem dX12_depthOf_16 : decode cX12_depthOf 16 = .ok (.aload_n 0, 1) := by decide +kernel
theorem dX12_depthOf_17 : decode cX12_depthOf 17 = .ok (.getfield 7, 3) := by decide +kernel
theorem dX12_depthOf_20 : decode cX12_depthOf 20 = .ok (.iload_n 3, 1) := by decide +kernel
theorem dX12_depthOf_21 : decode cX12_depthOf 21 = .ok (.iaload, 1) := by decide +kernel
theorem dX12_depthOf_22 : decode cX12_depthOf 22 = .ok (.istore_n 3, 1) := by decide +kernel
theorem dX12_depthOf_23 : decode cX12_depthOf 23 = .ok (.goto (-14), 3) := by decide +kernel
theorem dX12_depthOf_26 : decode cX12_depthOf 26 = .ok (.iload_n 2, 1) := by decide +kernel
theorem dX12_depthOf_27 : decode cX12_depthOf 27 = .ok (.ireturn, 1) := by decide +kernel
def vb_X12_depthOf_9 (post : Int32 → mj_M → Prop) : Nat → Nat → Int32 → Int32 → mj_M → Prop
  | 0 => fun _ _ _ _ => False
  | f + 1 => fun l0 l2 l3 M => if l3 < 0 then (post l2 M) else (mj_tag M l0 = 13 ∧ mj_tag M (mj_r M l0 1) = 101 ∧ vp_in l3 (mj_len M (mj_r M l0 1)) ∧ vb_X12_depthOf_9 post f l0 (l2 + 1) (mj_i M (mj_r M l0 1) (l3 : Int32).toNatClampNeg) M)
def vc_X12_depthOf (l0 : Nat) (l1 : Int32) (M : mj_M) (post : Int32 → mj_M → Prop) : Prop := mj_tag M l0 = 13 ∧ mj_tag M (mj_r M l0 1) = 101 ∧ vp_in l1 (mj_len M (mj_r M l0 1)) ∧ ∃ fe, vb_X12_depthOf_9 post fe l0 0 (mj_i M (mj_r M l0 1) (l1 : Int32).toNatClampNeg) M
set_option maxHeartbeats 4000000 in
set_option maxRecDepth 100000 in
theorem xb_X12_depthOf_9 {g : mj_G} {post : Int32 → mj_M → Prop} (hC : mj_C g yX12_depthOf cX12_depthOf 4 (some .int) rm_X12_depthOf) (hE : mj_E g mj_jI post 0 0) : ∀ (f : Nat) (l0 : Nat) (l2 : Int32) (l3 : Int32) (M : mj_M), vb_X12_depthOf_9 post f l0 l2 l3 M → mj_X g 9 [(0, vR l0), (2, vI l2), (3, vI l3)] [] M 0 0 := by
  intro f
  induction f with
  | zero => exact fun _ _ _ _ h => absurd h (fun z => z)
  | succ f ih =>
    intro l0 l2 l3 M h
    simp only [vb_X12_depthOf_9] at h
    refine mx_iload_n (j := 2) hC dX12_depthOf_9 rfl rfl ?_
    refine mx_iflt (tgt := 26) hC dX12_depthOf_10 (by decide) (fun hc1 => ?_) (fun hc1 => ?_)
    · replace h := mj_yy hc1 h
      refine mx_iload_n (j := 1) hC dX12_depthOf_26 rfl rfl ?_
      exact mx_iret hC hE rfl dX12_depthOf_27 h
    · replace h := mj_nn hc1 h
      refine mx_iinc (j := 1) (v := l2 + 1) (L' := [(2, vI (l2 + 1)), (0, vR l0), (3, vI l3)]) hC dX12_depthOf_13 rfl rfl (by decide) rfl ?_
      refine mx_aload_n (j := 1) hC dX12_depthOf_16 rfl rfl ?_
      obtain ⟨ht2, h⟩ := h
      refine mx_get (v := vR (mj_r M l0 1)) hC tf_X12_7 ht2 rfl dX12_depthOf_17 ?_
      refine mx_iload_n (j := 2) hC dX12_depthOf_20 rfl rfl ?_
      obtain ⟨ht3, h⟩ := h
      obtain ⟨hi4, h⟩ := h
      refine mx_iaload hC ht3 hi4 dX12_depthOf_21 ?_
      refine mx_istore_n (L' := [(3, vI (mj_i M (mj_r M l0 1) (l3 : Int32).toNatClampNeg)), (2, vI (l2 + 1)), (0, vR l0)]) hC dX12_depthOf_22 rfl (by decide) rfl ?_
      refine mx_goto (tgt := 9) hC dX12_depthOf_23 (by decide) ?_
      refine mx_sub (L' := [(0, vR l0), (2, vI (l2 + 1)), (3, vI (mj_i M (mj_r M l0 1) (l3 : Int32).toNatClampNeg))]) [2, 1, 0] rfl ?_
      exact show mj_X g 9 [(0, vR l0), (2, vI (l2 + 1)), (3, vI (mj_i M (mj_r M l0 1) (l3 : Int32).toNatClampNeg))] [] M 0 0 from (ih l0 (l2 + 1) (mj_i M (mj_r M l0 1) (l3 : Int32).toNatClampNeg) M h)
set_option maxHeartbeats 4000000 in
set_option maxRecDepth 100000 in
theorem ct_X12_depthOf {l : Launch} {base : Nat} {D : va_G} {A : ClassId × ClassId × ClassId} (l0 : Nat) (l1 : Int32) (M : mj_M) (post : Int32 → mj_M → Prop) (h : vc_X12_depthOf l0 l1 M post) : mj_Met l base D A mj_jI yX12_depthOf cX12_depthOf 4 (some .int) rm_X12_depthOf 0 0 [vR l0, vI l1] M post := by
  refine mj_entry (by decide +kernel) (Nat.le_of_ble_eq_true rfl) (fun g hC hE h1 h2 h3 h4 => ?_)
  show mj_X g 0 [(0, vR l0), (1, vI l1)] [] M 0 0
  simp only [vc_X12_depthOf] at h
  refine mx_iconst (v := 0) hC dX12_depthOf_0 (by decide) ?_
  refine mx_istore_n (L' := [(2, vI 0), (0, vR l0), (1, vI l1)]) hC dX12_depthOf_1 rfl (by decide) rfl ?_
  refine mx_aload_n (j := 1) hC dX12_depthOf_2 rfl rfl ?_
  obtain ⟨ht5, h⟩ := h
  refine mx_get (v := vR (mj_r M l0 1)) hC tf_X12_7 ht5 rfl dX12_depthOf_3 ?_
  refine mx_iload_n (j := 2) hC dX12_depthOf_6 rfl rfl ?_
  obtain ⟨ht6, h⟩ := h
  obtain ⟨hi7, h⟩ := h
  refine mx_iaload hC ht6 hi7 dX12_depthOf_7 ?_
  refine mx_istore_n (L' := [(3, vI (mj_i M (mj_r M l0 1) (l1 : Int32).toNatClampNeg)), (2, vI 0), (0, vR l0), (1, vI l1)]) hC dX12_depthOf_8 rfl (by decide) rfl ?_
  refine mx_sub (L' := [(0, vR l0), (2, vI 0), (3, vI (mj_i M (mj_r M l0 1) (l1 : Int32).toNatClampNeg))]) [2, 1, 0] rfl ?_
  obtain ⟨fe, h⟩ := h
  exact show mj_X g 9 [(0, vR l0), (2, vI 0), (3, vI (mj_i M (mj_r M l0 1) (l1 : Int32).toNatClampNeg))] [] M 0 0 from (xb_X12_depthOf_9 hC hE fe l0 0 (mj_i M (mj_r M l0 1) (l1 : Int32).toNatClampNeg) M h)
theorem tw1585 : (Jvm.Cond.methodLink "LeaseLandModel" (261 : Nat) ({ cls := "LeaseLandModel", name := "ones", desc := "(I)I" } : Jvm.MethodName)) ∈ mj_tbl := mj_w 1638 (by decide +kernel) (by decide +kernel)
theorem tw1588 : (Jvm.Cond.methodLink "LeaseLandModel" (264 : Nat) ({ cls := "LeaseLandModel", name := "depthOf", desc := "(I)I" } : Jvm.MethodName)) ∈ mj_tbl := mj_w 1641 (by decide +kernel) (by decide +kernel)
theorem tw1591 : (Jvm.Cond.code ({ cls := "LeaseLandModel", name := "depthOf", desc := "(I)I" } : Jvm.MethodName) prog_14_method_51_code (4 : Nat) (Option.some Jvm.ClassFile.FieldType.int)) ∈ mj_tbl := mj_w 1644 (by decide +kernel) (by decide +kernel)
theorem tw1590 : (Jvm.Cond.instanceMethod ({ cls := "LeaseLandModel", name := "depthOf", desc := "(I)I" } : Jvm.MethodName)) ∈ mj_tbl := mj_w 1643 (by decide +kernel) (by decide +kernel)
theorem ty_X12_depthOf : mj_YV 12 yX12_depthOf cX12_depthOf 4 (some .int) 1 := ⟨⟨tw1591, tw11, by decide +kernel, by decide +kernel, by decide +kernel⟩, tw1590, mj_w 27 (by decide +kernel) (by decide +kernel), _, rfl, rfl⟩
theorem tw1587 : (Jvm.Cond.code ({ cls := "LeaseLandModel", name := "ones", desc := "(I)I" } : Jvm.MethodName) prog_14_method_4_code (3 : Nat) (Option.some Jvm.ClassFile.FieldType.int)) ∈ mj_tbl := mj_w 1640 (by decide +kernel) (by decide +kernel)
theorem tw1586 : (Jvm.Cond.static ({ cls := "LeaseLandModel", name := "ones", desc := "(I)I" } : Jvm.MethodName)) ∈ mj_tbl := mj_w 1639 (by decide +kernel) (by decide +kernel)
theorem ty_X12_ones : mj_YS yX12_ones cX12_ones 3 (some .int) 1 := ⟨⟨tw1587, tw11, by decide +kernel, by decide +kernel, by decide +kernel⟩, tw1586⟩
def rm_X12_factOf : Room := { frames := 3, cells := 0, slots := 0, locals := 66 }
theorem dX12_factOf_0 : decode cX12_factOf 0 = .ok (.iload_n 2, 1) := by decide +kernel
theorem dX12_factOf_1 : decode cX12_factOf 1 = .ok (.tableswitch 155 102 116 #[139, 155, 105, 155, 155, 155, 75, 155, 155, 149, 155, 155, 132, 155, 87], 75) := by decide +kernel
theorem dX12_factOf_76 : decode cX12_factOf 76 = .ok (.aload_n 0, 1) := by decide +kernel
theorem dX12_factOf_77 : decode cX12_factOf 77 = .ok (.iload_n 1, 1) := by decide +kernel
theorem dX12_factOf_78 : decode cX12_factOf 78 = .ok (.invokevirtual 147, 3) := by decide +kernel
theorem dX12_factOf_81 : decode cX12_factOf 81 = .ok (.iload_n 3, 1) := by decide +kernel
theorem dX12_factOf_82 : decode cX12_factOf 82 = .ok (.isub, 1) := by decide +kernel
theorem dX12_factOf_83 : decode cX12_factOf 83 = .ok (.sipush 365, 3) := by decide +kernel
theorem dX12_factOf_86 : decode cX12_factOf 86 = .ok (.idiv, 1) := by decide +kernel
theorem dX12_factOf_87 : decode cX12_factOf 87 = .ok (.ireturn, 1) := by decide +kernel
theorem dX12_factOf_88 : decode cX12_factOf 88 = .ok (.aload_n 0, 1) := by decide +kernel
theorem dX12_factOf_89 : decode cX12_factOf 89 = .ok (.getfield 19, 3) := by decide +kernel
theorem dX12_factOf_92 : decode cX12_factOf 92 = .ok (.iload_n 1, 1) := by decide +kernel
theorem dX12_factOf_93 : decode cX12_factOf 93 = .ok (.iaload, 1) := by decide +kernel
theorem dX12_factOf_94 : decode cX12_factOf 94 = .ok (.aload_n 0, 1) := by decide +kernel
theorem dX12_factOf_95 : decode cX12_factOf 95 = .ok (.getfield 16, 3) := by decide +kernel
theorem dX12_factOf_98 : decode cX12_factOf 98 = .ok (.iload_n 1, 1) := by decide +kernel
theorem dX12_factOf_99 : decode cX12_factOf 99 = .ok (.iaload, 1) := by decide +kernel
theorem dX12_factOf_100 : decode cX12_factOf 100 = .ok (.isub, 1) := by decide +kernel
theorem dX12_factOf_101 : decode cX12_factOf 101 = .ok (.sipush 365, 3) := by decide +kernel
theorem dX12_factOf_104 : decode cX12_factOf 104 = .ok (.idiv, 1) := by decide +kernel
theorem dX12_factOf_105 : decode cX12_factOf 105 = .ok (.ireturn, 1) := by decide +kernel
theorem dX12_factOf_106 : decode cX12_factOf 106 = .ok (.aload_n 0, 1) := by decide +kernel
theorem dX12_factOf_107 : decode cX12_factOf 107 = .ok (.getfield 31, 3) := by decide +kernel
theorem dX12_factOf_110 : decode cX12_factOf 110 = .ok (.iload_n 1, 1) := by decide +kernel
theorem dX12_factOf_111 : decode cX12_factOf 111 = .ok (.iaload, 1) := by decide +kernel
theorem dX12_factOf_112 : decode cX12_factOf 112 = .ok (.iload_n 3, 1) := by decide +kernel
theorem dX12_factOf_113 : decode cX12_factOf 113 = .ok (.if_icmp .le 7, 3) := by decide +kernel
theorem dX12_factOf_116 : decode cX12_factOf 116 = .ok (.iconst 0, 1) := by decide +kernel
theorem dX12_factOf_117 : decode cX12_factOf 117 = .ok (.goto 15, 3) := by decide +kernel
theorem dX12_factOf_120 : decode cX12_factOf 120 = .ok (.iload_n 3, 1) := by decide +kernel
theorem dX12_factOf_121 : decode cX12_factOf 121 = .ok (.aload_n 0, 1) := by decide +kernel
theorem dX12_factOf_122 : decode cX12_factOf 122 = .ok (.getfield 31, 3) := by decide +kernel
theorem dX12_factOf_125 : decode cX12_factOf 125 = .ok (.iload_n 1, 1) := by decide +kernel
theorem dX12_factOf_126 : decode cX12_factOf 126 = .ok (.iaload, 1) := by decide +kernel
theorem dX12_factOf_127 : decode cX12_factOf 127 = .ok (.isub, 1) := by decide +kernel
theorem dX12_factOf_128 : decode cX12_factOf 128 = .ok (.sipush 365, 3) := by decide +kernel
theorem dX12_factOf_131 : decode cX12_factOf 131 = .ok (.idiv, 1) := by decide +kernel
theorem dX12_factOf_132 : decode cX12_factOf 132 = .ok (.ireturn, 1) := by decide +kernel
theorem dX12_factOf_133 : decode cX12_factOf 133 = .ok (.aload_n 0, 1) := by decide +kernel
theorem dX12_factOf_134 : decode cX12_factOf 134 = .ok (.iload_n 1, 1) := by decide +kernel
theorem dX12_factOf_135 : decode cX12_factOf 135 = .ok (.iload_n 3, 1) := by decide +kernel
theorem dX12_factOf_136 : decode cX12_factOf 136 = .ok (.invokevirtual 223, 3) := by decide +kernel
theorem dX12_factOf_139 : decode cX12_factOf 139 = .ok (.ireturn, 1) := by decide +kernel
theorem dX12_factOf_140 : decode cX12_factOf 140 = .ok (.aload_n 0, 1) := by decide +kernel
theorem dX12_factOf_141 : decode cX12_factOf 141 = .ok (.getfield 13, 3) := by decide +kernel
theorem dX12_factOf_144 : decode cX12_factOf 144 = .ok (.iload_n 1, 1) := by decide +kernel
theorem dX12_factOf_145 : decode cX12_factOf 145 = .ok (.iaload, 1) := by decide +kernel
theorem dX12_factOf_146 : decode cX12_factOf 146 = .ok (.invokestatic 261, 3) := by decide +kernel
theorem dX12_factOf_149 : decode cX12_factOf 149 = .ok (.ireturn, 1) := by decide +kernel
theorem dX12_factOf_150 : decode cX12_factOf 150 = .ok (.aload_n 0, 1) := by decide +kernel
theorem dX12_factOf_151 : decode cX12_factOf 151 = .ok (.iload_n 1, 1) := by decide +kernel
theorem dX12_factOf_152 : decode cX12_factOf 152 = .ok (.invokevirtual 264, 3) := by decide +kernel
theorem dX12_factOf_155 : decode cX12_factOf 155 = .ok (.ireturn, 1) := by decide +kernel
theorem dX12_factOf_156 : decode cX12_factOf 156 = .ok (.aload_n 0, 1) := by decide +kernel
theorem dX12_factOf_157 : decode cX12_factOf 157 = .ok (.getfield 49, 3) := by decide +kernel
theorem dX12_factOf_160 : decode cX12_factOf 160 = .ok (.aload_n 0, 1) := by decide +kernel
theorem dX12_factOf_161 : decode cX12_factOf 161 = .ok (.getfield 28, 3) := by decide +kernel
theorem dX12_factOf_164 : decode cX12_factOf 164 = .ok (.iload_n 1, 1) := by decide +kernel
theorem dX12_factOf_165 : decode cX12_factOf 165 = .ok (.iaload, 1) := by decide +kernel
theorem dX12_factOf_166 : decode cX12_factOf 166 = .ok (.iaload, 1) := by decide +kernel
theorem dX12_factOf_167 : decode cX12_factOf 167 = .ok (.istore 4, 2) := by decide +kernel
theorem dX12_factOf_169 : decode cX12_factOf 169 = .ok (.iload 4, 2) := by decide +kernel
theorem dX12_factOf_171 : decode cX12_factOf 171 = .ok (.ifCond .lt 22, 3) := by decide +kernel
theorem dX12_factOf_174 : decode cX12_factOf 174 = .ok (.aload_n 0, 1) := by decide +kernel
theorem dX12_factOf_175 : decode cX12_factOf 175 = .ok (.getfield 13, 3) := by decide +kernel
theorem dX12_factOf_178 : decode cX12_factOf 178 = .ok (.iload_n 1, 1) := by decide +kernel
theorem dX12_factOf_179 : decode cX12_factOf 179 = .ok (.iaload, 1) := by decide +kernel
theorem dX12_factOf_180 : decode cX12_factOf 180 = .ok (.iload 4, 2) := by decide +kernel
theorem dX12_factOf_182 : decode cX12_factOf 182 = .ok (.ishr, 1) := by decide +kernel
theorem dX12_factOf_183 : decode cX12_factOf 183 = .ok (.iconst 1, 1) := by decide +kernel
theorem dX12_factOf_184 : decode cX12_factOf 184 = .ok (.iand, 1) := by decide +kernel
theorem dX12_factOf_185 : decode cX12_factOf 185 = .ok (.iconst 1, 1) := by decide +kernel
theorem dX12_factOf_186 : decode cX12_factOf 186 = .ok (.if_icmp .ne 7, 3) := by decide +kernel
theorem dX12_factOf_189 : decode cX12_factOf 189 = .ok (.iconst 1, 1) := by decide +kernel
theorem dX12_factOf_190 : decode cX12_factOf 190 = .ok (.goto 4, 3) := by decide +kernel
theorem dX12_factOf_193 : decode cX12_factOf 193 = .ok (.iconst 0, 1) := by decide +kernel
theorem dX12_factOf_194 : decode cX12_factOf 194 = .ok (.ireturn, 1) := by decide +kernel
def vc_X12_factOf (l0 : Nat) (l1 : Int32) (l2 : Int32) (l3 : Int32) (M : mj_M) (post : Int32 → mj_M → Prop) : Prop := if l2 = 102 then (mj_tag M l0 = 13 ∧ mj_tag M (mj_r M l0 2) = 101 ∧ vp_in l1 (mj_len M (mj_r M l0 2)) ∧ vc_X12_ones (mj_i M (mj_r M l0 2) (l1 : Int32).toNatClampNeg) M (fun r5 M6 => post r5 M6)) else (if l2 = 104 then (mj_tag M l0 = 13 ∧ mj_tag M (mj_r M l0 8) = 101 ∧ vp_in l1 (mj_len M (mj_r M l0 8)) ∧ if (mj_i M (mj_r M l0 8) (l1 : Int32).toNatClampNeg) ≤ l3 then (post ((l3 - (mj_i M (mj_r M l0 8) (l1 : Int32).toNatClampNeg)) / 365) M) else (post 0 M)) else (if l2 = 108 then (mj_tag M l0 = 13 ∧ vc_X12_until l0 l1 M (fun r14 M15 => post ((r14 - l3) / 365) M15)) else (if l2 = 111 then (mj_tag M l0 = 13 ∧ vc_X12_depthOf l0 l1 M (fun r18 M19 => post r18 M19)) else (if l2 = 114 then (mj_tag M l0 = 13 ∧ vc_X12_rateOf l0 l1 l3 M (fun r22 M23 => post r22 M23)) else (if l2 = 116 then (mj_tag M l0 = 13 ∧ mj_tag M (mj_r M l0 4) = 101 ∧ vp_in l1 (mj_len M (mj_r M l0 4)) ∧ mj_tag M (mj_r M l0 3) = 101 ∧ vp_in l1 (mj_len M (mj_r M l0 3)) ∧ post (((mj_i M (mj_r M l0 4) (l1 : Int32).toNatClampNeg) - (mj_i M (mj_r M l0 3) (l1 : Int32).toNatClampNeg)) / 365) M) else (mj_tag M l0 = 13 ∧ mj_tag M (mj_r M l0 7) = 101 ∧ vp_in l1 (mj_len M (mj_r M l0 7)) ∧ mj_tag M (mj_r M l0 15) = 101 ∧ vp_in (mj_i M (mj_r M l0 7) (l1 : Int32).toNatClampNeg) (mj_len M (mj_r M l0 15)) ∧ if (mj_i M (mj_r M l0 15) (mj_i M (mj_r M l0 7) (l1 : Int32).toNatClampNeg : Int32).toNatClampNeg) < 0 then (post 0 M) else (mj_tag M (mj_r M l0 2) = 101 ∧ vp_in l1 (mj_len M (mj_r M l0 2)) ∧ if (((mj_i M (mj_r M l0 2) (l1 : Int32).toNatClampNeg) >>> ((mj_i M (mj_r M l0 15) (mj_i M (mj_r M l0 7) (l1 : Int32).toNatClampNeg : Int32).toNatClampNeg) &&& 31)) &&& 1) = 1 then (post 1 M) else (post 0 M))))))))
set_option maxHeartbeats 4000000 in
set_option maxRecDepth 100000 in
theorem ct_X12_factOf {l : Launch} {base : Nat} {D : va_G} {A : ClassId × ClassId × ClassId} (l0 : Nat) (l1 : Int32) (l2 : Int32) (l3 : Int32) (M : mj_M) (post : Int32 → mj_M → Prop) (h : vc_X12_factOf l0 l1 l2 l3 M post) : mj_Met l base D A mj_jI yX12_factOf cX12_factOf 5 (some .int) rm_X12_factOf 0 0 [vR l0, vI l1, vI l2, vI l3] M post := by
  refine mj_entry (by decide +kernel) (Nat.le_of_ble_eq_true rfl) (fun g hC hE h1 h2 h3 h4 => ?_)
  show mj_X g 0 [(0, vR l0), (1, vI l1), (2, vI l2), (3, vI l3)] [] M 0 0
  simp only [vc_X12_factOf] at h
  refine mx_iload_n (j := 2) hC dX12_factOf_0 rfl rfl ?_
  by_cases hc1 : l2 = 102
  · replace h := mj_yy hc1 h
    refine mx_tsin (v := 102) (off := 139) (tgt := 140) hC dX12_factOf_1 hc1 (by decide) (by decide) (by decide) (by decide) ?_
    refine mx_aload_n (j := 0) hC dX12_factOf_140 rfl rfl ?_
    obtain ⟨ht2, h⟩ := h
    refine mx_get (v := vR (mj_r M l0 2)) hC tf_X12_13 ht2 rfl dX12_factOf_141 ?_
    refine mx_iload_n (j := 1) hC dX12_factOf_144 rfl rfl ?_
    obtain ⟨ht3, h⟩ := h
    obtain ⟨hi4, h⟩ := h
    refine mx_iaload hC ht3 hi4 dX12_factOf_145 ?_
    refine mx_callS (inj := mj_jI) (As := [vI (mj_i M (mj_r M l0 2) (l1 : Int32).toNatClampNeg)]) (st := []) hC (ct_X12_ones (mj_i M (mj_r M l0 2) (l1 : Int32).toNatClampNeg) M _ h) ty_X12_ones tw1585 rfl (Nat.le_of_ble_eq_true rfl) ⟨rfl, rfl, ⟨by decide, by decide⟩, by decide, by decide⟩ dX12_factOf_146 (fun r5 M6 h => ?_)
    show mj_X g 149 [(0, vR l0), (1, vI l1), (2, vI l2), (3, vI l3)] [vI r5] M6 0 0
    exact mx_iret hC hE rfl dX12_factOf_149 h
  replace h := mj_nn hc1 h
  by_cases hc7 : l2 = 104
  · replace h := mj_yy hc7 h
    refine mx_tsin (v := 104) (off := 105) (tgt := 106) hC dX12_factOf_1 hc7 (by decide) (by decide) (by decide) (by decide) ?_
    refine mx_aload_n (j := 0) hC dX12_factOf_106 rfl rfl ?_
    obtain ⟨ht8, h⟩ := h
    refine mx_get (v := vR (mj_r M l0 8)) hC tf_X12_31 ht8 rfl dX12_factOf_107 ?_
    refine mx_iload_n (j := 1) hC dX12_factOf_110 rfl rfl ?_
    obtain ⟨ht9, h⟩ := h
    obtain ⟨hi10, h⟩ := h
    refine mx_iaload hC ht9 hi10 dX12_factOf_111 ?_
    refine mx_iload_n (j := 3) hC dX12_factOf_112 rfl rfl ?_
    refine mx_icmple (tgt := 120) hC dX12_factOf_113 (by decide) (fun hc11 => ?_) (fun hc11 => ?_)
    · replace h := mj_yy hc11 h
      refine mx_iload_n (j := 3) hC dX12_factOf_120 rfl rfl ?_
      refine mx_aload_n (j := 0) hC dX12_factOf_121 rfl rfl ?_
      refine mx_get (v := vR (mj_r M l0 8)) hC tf_X12_31 ht8 rfl dX12_factOf_122 ?_
      refine mx_iload_n (j := 1) hC dX12_factOf_125 rfl rfl ?_
      refine mx_iaload hC ht9 hi10 dX12_factOf_126 ?_
      refine mx_isub hC dX12_factOf_127 ?_
      refine mx_sipush (v := 365) hC dX12_factOf_128 (by decide) ?_
      refine mx_idiv hC dX12_factOf_131 (by decide) ?_
      exact mx_iret hC hE rfl dX12_factOf_132 h
    · replace h := mj_nn hc11 h
      refine mx_iconst (v := 0) hC dX12_factOf_116 (by decide) ?_
      refine mx_goto (tgt := 132) hC dX12_factOf_117 (by decide) ?_
      exact mx_iret hC hE rfl dX12_factOf_132 h
  replace h := mj_nn hc7 h
  by_cases hc12 : l2 = 108
  · replace h := mj_yy hc12 h
    refine mx_tsin (v := 108) (off := 75) (tgt := 76) hC dX12_factOf_1 hc12 (by decide) (by decide) (by decide) (by decide) ?_
    refine mx_aload_n (j := 0) hC dX12_factOf_76 rfl rfl ?_
    refine mx_iload_n (j := 1) hC dX12_factOf_77 rfl rfl ?_
    obtain ⟨ht13, h⟩ := h
    refine mx_callV (inj := mj_jI) (As := [vI l1]) (st := []) hC (ct_X12_until l0 l1 M _ h) ty_X12_until tw1415 ht13 rfl (Nat.le_of_ble_eq_true rfl) ⟨rfl, rfl, ⟨by decide, by decide⟩, by decide, by decide⟩ dX12_factOf_78 (fun r14 M15 h => ?_)
    show mj_X g 81 [(0, vR l0), (1, vI l1), (2, vI l2), (3, vI l3)] [vI r14] M15 0 0
    refine mx_iload_n (j := 3) hC dX12_factOf_81 rfl rfl ?_
    refine mx_isub hC dX12_factOf_82 ?_
    refine mx_sipush (v := 365) hC dX12_factOf_83 (by decide) ?_
    refine mx_idiv hC dX12_factOf_86 (by decide) ?_
    exact mx_iret hC hE rfl dX12_factOf_87 h
  replace h := mj_nn hc12 h
  by_cases hc16 : l2 = 111
  · replace h := mj_yy hc16 h
    refine mx_tsin (v := 111) (off := 149) (tgt := 150) hC dX12_factOf_1 hc16 (by decide) (by decide) (by decide) (by decide) ?_
    refine mx_aload_n (j := 0) hC dX12_factOf_150 rfl rfl ?_
    refine mx_iload_n (j := 1) hC dX12_factOf_151 rfl rfl ?_
    obtain ⟨ht17, h⟩ := h
    refine mx_callV (inj := mj_jI) (As := [vI l1]) (st := []) hC (ct_X12_depthOf l0 l1 M _ h) ty_X12_depthOf tw1588 ht17 rfl (Nat.le_of_ble_eq_true rfl) ⟨rfl, rfl, ⟨by decide, by decide⟩, by decide, by decide⟩ dX12_factOf_152 (fun r18 M19 h => ?_)
    show mj_X g 155 [(0, vR l0), (1, vI l1), (2, vI l2), (3, vI l3)] [vI r18] M19 0 0
    exact mx_iret hC hE rfl dX12_factOf_155 h
  replace h := mj_nn hc16 h
  by_cases hc20 : l2 = 114
  · replace h := mj_yy hc20 h
    refine mx_tsin (v := 114) (off := 132) (tgt := 133) hC dX12_factOf_1 hc20 (by decide) (by decide) (by decide) (by decide) ?_
    refine mx_aload_n (j := 0) hC dX12_factOf_133 rfl rfl ?_
    refine mx_iload_n (j := 1) hC dX12_factOf_134 rfl rfl ?_
    refine mx_iload_n (j := 3) hC dX12_factOf_135 rfl rfl ?_
    obtain ⟨ht21, h⟩ := h
    refine mx_callV (inj := mj_jI) (As := [vI l1, vI l3]) (st := []) hC (ct_X12_rateOf l0 l1 l3 M _ h) ty_X12_rateOf tw1505 ht21 rfl (Nat.le_of_ble_eq_true rfl) ⟨rfl, rfl, ⟨by decide, by decide⟩, by decide, by decide⟩ dX12_factOf_136 (fun r22 M23 h => ?_)
    show mj_X g 139 [(0, vR l0), (1, vI l1), (2, vI l2), (3, vI l3)] [vI r22] M23 0 0
    exact mx_iret hC hE rfl dX12_factOf_139 h
  replace h := mj_nn hc20 h
  by_cases hc24 : l2 = 116
  · replace h := mj_yy hc24 h
    refine mx_tsin (v := 116) (off := 87) (tgt := 88) hC dX12_factOf_1 hc24 (by decide) (by decide) (by decide) (by decide) ?_
    refine mx_aload_n (j := 0) hC dX12_factOf_88 rfl rfl ?_
    obtain ⟨ht25, h⟩ := h
    refine mx_get (v := vR (mj_r M l0 4)) hC tf_X12_19 ht25 rfl dX12_factOf_89 ?_
    refine mx_iload_n (j := 1) hC dX12_factOf_92 rfl rfl ?_
    obtain ⟨ht26, h⟩ := h
    obtain ⟨hi27, h⟩ := h
    refine mx_iaload hC ht26 hi27 dX12_factOf_93 ?_
    refine mx_aload_n (j := 0) hC dX12_factOf_94 rfl rfl ?_
    refine mx_get (v := vR (mj_r M l0 3)) hC tf_X12_16 ht25 rfl dX12_factOf_95 ?_
    refine mx_iload_n (j := 1) hC dX12_factOf_98 rfl rfl ?_
    obtain ⟨ht28, h⟩ := h
    obtain ⟨hi29, h⟩ := h
    refine mx_iaload hC ht28 hi29 dX12_factOf_99 ?_
    refine mx_isub hC dX12_factOf_100 ?_
    refine mx_sipush (v := 365) hC dX12_factOf_101 (by decide) ?_
    refine mx_idiv hC dX12_factOf_104 (by decide) ?_
    exact mx_iret hC hE rfl dX12_factOf_105 h
  replace h := mj_nn hc24 h
  refine mx_tsout (vs := [102, 104, 108, 111, 114, 116]) (tgt := 156) hC dX12_factOf_1 (by decide) (by decide) (List.forall_mem_cons.mpr ⟨hc1, (List.forall_mem_cons.mpr ⟨hc7, (List.forall_mem_cons.mpr ⟨hc12, (List.forall_mem_cons.mpr ⟨hc16, (List.forall_mem_cons.mpr ⟨hc20, (List.forall_mem_cons.mpr ⟨hc24, (fun _ q => absurd q List.not_mem_nil)⟩)⟩)⟩)⟩)⟩)⟩) ?_
  refine mx_aload_n (j := 0) hC dX12_factOf_156 rfl rfl ?_
  obtain ⟨ht30, h⟩ := h
  refine mx_get (v := vR (mj_r M l0 15)) hC tf_X12_49 ht30 rfl dX12_factOf_157 ?_
  refine mx_aload_n (j := 0) hC dX12_factOf_160 rfl rfl ?_
  refine mx_get (v := vR (mj_r M l0 7)) hC tf_X12_28 ht30 rfl dX12_factOf_161 ?_
  refine mx_iload_n (j := 1) hC dX12_factOf_164 rfl rfl ?_
  obtain ⟨ht31, h⟩ := h
  obtain ⟨hi32, h⟩ := h
  refine mx_iaload hC ht31 hi32 dX12_factOf_165 ?_
  obtain ⟨ht33, h⟩ := h
  obtain ⟨hi34, h⟩ := h
  refine mx_iaload hC ht33 hi34 dX12_factOf_166 ?_
  refine mx_istore (L' := [(4, vI (mj_i M (mj_r M l0 15) (mj_i M (mj_r M l0 7) (l1 : Int32).toNatClampNeg : Int32).toNatClampNeg)), (0, vR l0), (1, vI l1), (2, vI l2), (3, vI l3)]) hC dX12_factOf_167 (by decide) rfl ?_
  refine mx_iload (j := 0) hC dX12_factOf_169 rfl ?_
  refine mx_iflt (tgt := 193) hC dX12_factOf_171 (by decide) (fun hc35 => ?_) (fun hc35 => ?_)
  · replace h := mj_yy hc35 h
    refine mx_iconst (v := 0) hC dX12_factOf_193 (by decide) ?_
    exact mx_iret hC hE rfl dX12_factOf_194 h
  · replace h := mj_nn hc35 h
    refine mx_aload_n (j := 1) hC dX12_factOf_174 rfl rfl ?_
    refine mx_get (v := vR (mj_r M l0 2)) hC tf_X12_13 ht30 rfl dX12_factOf_175 ?_
    refine mx_iload_n (j := 2) hC dX12_factOf_178 rfl rfl ?_
    obtain ⟨ht36, h⟩ := h
    obtain ⟨hi37, h⟩ := h
    refine mx_iaload hC ht36 hi37 dX12_factOf_179 ?_
    refine mx_iload (j := 0) hC dX12_factOf_180 rfl ?_
    refine mx_ishr hC dX12_factOf_182 ?_
    refine mx_iconst (v := 1) hC dX12_factOf_183 (by decide) ?_
    refine mx_iand hC dX12_factOf_184 ?_
    refine mx_iconst (v := 1) hC dX12_factOf_185 (by decide) ?_
    refine mx_icmpne (tgt := 193) hC dX12_factOf_186 (by decide) (fun hc38 => ?_) (fun hc38 => ?_)
    · replace h := mj_nn hc38 h
      refine mx_iconst (v := 0) hC dX12_factOf_193 (by decide) ?_
      exact mx_iret hC hE rfl dX12_factOf_194 h
    · replace h := mj_yy hc38 h
      refine mx_iconst (v := 1) hC dX12_factOf_189 (by decide) ?_
      refine mx_goto (tgt := 194) hC dX12_factOf_190 (by decide) ?_
      exact mx_iret hC hE rfl dX12_factOf_194 h
def rm_X12_begin : Room := { frames := 0, cells := 0, slots := 0, locals := 0 }
theorem dX12_begin_0 : decode cX12_begin 0 = .ok (.aload_n 0, 1) := by decide +kernel
theorem dX12_begin_1 : decode cX12_begin 1 = .ok (.getfield 64, 3) := by decide +kernel
theorem dX12_begin_4 : decode cX12_begin 4 = .ok (.iload_n 1, 1) := by decide +kernel
theorem dX12_begin_5 : decode cX12_begin 5 = .ok (.iconst 0, 1) := by decide +kernel
theorem dX12_begin_6 : decode cX12_begin 6 = .ok (.bastore, 1) := by decide +kernel
theorem dX12_begin_7 : decode cX12_begin 7 = .ok (.aload_n 0, 1) := by decide +kernel
theorem dX12_begin_8 : decode cX12_begin 8 = .ok (.getfield 68, 3) := by decide +kernel
theorem dX12_begin_11 : decode cX12_begin 11 = .ok (.iload_n 1, 1) := by decide +kernel
theorem dX12_begin_12 : decode cX12_begin 12 = .ok (.iconst 1, 1) := by decide +kernel
theorem dX12_begin_13 : decode cX12_begin 13 = .ok (.bastore, 1) := by decide +kernel
theorem dX12_begin_14 : decode cX12_begin 14 = .ok (.aload_n 0, 1) := by decide +kernel
theorem dX12_begin_15 : decode cX12_begin 15 = .ok (.getfield 71, 3) := by decide +kernel
theorem dX12_begin_18 : decode cX12_begin 18 = .ok (.iload_n 1, 1) := by decide +kernel
theorem dX12_begin_19 : decode cX12_begin 19 = .ok (.iconst 0, 1) := by decide +kernel
theorem dX12_begin_20 : decode cX12_begin 20 = .ok (.bastore, 1) := by decide +kernel
theorem dX12_begin_21 : decode cX12_begin 21 = .ok (.return_, 1) := by decide +kernel
def vc_X12_begin (l0 : Nat) (l1 : Int32) (M : mj_M) (post : Unit → mj_M → Prop) : Prop := mj_tag M l0 = 13 ∧ mj_tag M (mj_r M l0 21) = 103 ∧ vp_in l1 (mj_len M (mj_r M l0 21)) ∧ mj_tag M (mj_r M l0 22) = 103 ∧ vp_in l1 (mj_len M (mj_r M l0 22)) ∧ mj_tag M (mj_r M l0 23) = 103 ∧ vp_in l1 (mj_len M (mj_r M l0 23)) ∧ post () (mj_wi (mj_wi (mj_wi M (mj_r M l0 21) (l1 : Int32).toNatClampNeg (mj_b false)) (mj_r M l0 22) (l1 : Int32).toNatClampNeg (mj_b true)) (mj_r M l0 23) (l1 : Int32).toNatClampNeg (mj_b false))
set_option maxHeartbeats 4000000 in
set_option maxRecDepth 100000 in
theorem ct_X12_begin {l : Launch} {base : Nat} {D : va_G} {A : ClassId × ClassId × ClassId} (l0 : Nat) (l1 : Int32) (M : mj_M) (post : Unit → mj_M → Prop) (h : vc_X12_begin l0 l1 M post) : mj_Met l base D A mj_jV yX12_begin cX12_begin 2 (none) rm_X12_begin 0 0 [vR l0, vI l1] M post := by
  refine mj_entry (by decide +kernel) (Nat.le_of_ble_eq_true rfl) (fun g hC hE h1 h2 h3 h4 => ?_)
  show mj_X g 0 [(0, vR l0), (1, vI l1)] [] M 0 0
  simp only [vc_X12_begin] at h
  refine mx_aload_n (j := 0) hC dX12_begin_0 rfl rfl ?_
  obtain ⟨ht1, h⟩ := h
  refine mx_get (v := vR (mj_r M l0 21)) hC tf_X12_64 ht1 rfl dX12_begin_1 ?_
  refine mx_iload_n (j := 1) hC dX12_begin_4 rfl rfl ?_
  refine mx_iconst (v := 0) hC dX12_begin_5 (by decide) ?_
  obtain ⟨ht2, h⟩ := h
  obtain ⟨hi3, h⟩ := h
  refine mx_zastore (b := false) hC ht2 hi3 dX12_begin_6 ?_
  refine mx_aload_n (j := 0) hC dX12_begin_7 rfl rfl ?_
  refine mx_get (v := vR (mj_r M l0 22)) hC tf_X12_68 ht1 rfl dX12_begin_8 ?_
  refine mx_iload_n (j := 1) hC dX12_begin_11 rfl rfl ?_
  refine mx_iconst (v := 1) hC dX12_begin_12 (by decide) ?_
  obtain ⟨ht4, h⟩ := h
  obtain ⟨hi5, h⟩ := h
  refine mx_zastore (b := true) hC ht4 hi5 dX12_begin_13 ?_
  refine mx_aload_n (j := 0) hC dX12_begin_14 rfl rfl ?_
  refine mx_get (v := vR (mj_r M l0 23)) hC tf_X12_71 ht1 rfl dX12_begin_15 ?_
  refine mx_iload_n (j := 1) hC dX12_begin_18 rfl rfl ?_
  refine mx_iconst (v := 0) hC dX12_begin_19 (by decide) ?_
  obtain ⟨ht6, h⟩ := h
  obtain ⟨hi7, h⟩ := h
  refine mx_zastore (b := false) hC ht6 hi7 dX12_begin_20 ?_
  exact mx_vret hC hE rfl dX12_begin_21 h
def rm_X12_join : Room := { frames := 0, cells := 0, slots := 0, locals := 0 }
theorem dX12_join_0 : decode cX12_join 0 = .ok (.aload_n 0, 1) := by decide +kernel
theorem dX12_join_1 : decode cX12_join 1 = .ok (.getfield 68, 3) := by decide +kernel
theorem dX12_join_4 : decode cX12_join 4 = .ok (.iload_n 1, 1) := by decide +kernel
theorem dX12_join_5 : decode cX12_join 5 = .ok (.aload_n 0, 1) := by decide +kernel
theorem dX12_join_6 : decode cX12_join 6 = .ok (.getfield 68, 3) := by decide +kernel
theorem dX12_join_9 : decode cX12_join 9 = .ok (.iload_n 1, 1) := by decide +kernel
theorem dX12_join_10 : decode cX12_join 10 = .ok (.baload, 1) := by decide +kernel
theorem dX12_join_11 : decode cX12_join 11 = .ok (.ifCond .eq 17, 3) := by decide +kernel
theorem dX12_join_14 : decode cX12_join 14 = .ok (.iload_n 2, 1) := by decide +kernel
theorem dX12_join_15 : decode cX12_join 15 = .ok (.aload_n 0, 1) := by decide +kernel
theorem dX12_join_16 : decode cX12_join 16 = .ok (.getfield 71, 3) := by decide +kernel
theorem dX12_join_19 : decode cX12_join 19 = .ok (.iload_n 1, 1) := by decide +kernel
theorem dX12_join_20 : decode cX12_join 20 = .ok (.baload, 1) := by decide +kernel
theorem dX12_join_21 : decode cX12_join 21 = .ok (.if_icmp .eq 7, 3) := by decide +kernel
theorem dX12_join_24 : decode cX12_join 24 = .ok (.iconst 1, 1) := by decide +kernel
theorem dX12_join_25 : decode cX12_join 25 = .ok (.goto 4, 3) := by decide +kernel
theorem dX12_join_28 : decode cX12_join 28 = .ok (.iconst 0, 1) := by decide +kernel
theorem dX12_join_29 : decode cX12_join 29 = .ok (.bastore, 1) := by decide +kernel
theorem dX12_join_30 : decode cX12_join 30 = .ok (.aload_n 0, 1) := by decide +kernel
theorem dX12_join_31 : decode cX12_join 31 = .ok (.getfield 71, 3) := by decide +kernel
theorem dX12_join_34 : decode cX12_join 34 = .ok (.iload_n 1, 1) := by decide +kernel
theorem dX12_join_35 : decode cX12_join 35 = .ok (.iconst 0, 1) := by decide +kernel
theorem dX12_join_36 : decode cX12_join 36 = .ok (.bastore, 1) := by decide +kernel
theorem dX12_join_37 : decode cX12_join 37 = .ok (.return_, 1) := by decide +kernel
def vb_X12_join_29 (post : Unit → mj_M → Prop) (l0 : Nat) (l1 : Int32) (s0 : Nat) (s1 : Int32) (s2 : Bool) (M : mj_M) : Prop := mj_tag M s0 = 103 ∧ vp_in s1 (mj_len M s0) ∧ mj_tag M l0 = 13 ∧ mj_tag M (mj_r M l0 23) = 103 ∧ vp_in l1 (mj_len M (mj_r M l0 23)) ∧ post () (mj_wi (mj_wi M s0 (s1 : Int32).toNatClampNeg (mj_b s2)) (mj_r M l0 23) (l1 : Int32).toNatClampNeg (mj_b false))
def vb_X12_join_28 (post : Unit → mj_M → Prop) (l0 : Nat) (l1 : Int32) (s0 : Nat) (s1 : Int32) (M : mj_M) : Prop := vb_X12_join_29 post l0 l1 s0 s1 false M
def vc_X12_join (l0 : Nat) (l1 : Int32) (l2 : Bool) (M : mj_M) (post : Unit → mj_M → Prop) : Prop := mj_tag M l0 = 13 ∧ mj_tag M (mj_r M l0 22) = 103 ∧ vp_in l1 (mj_len M (mj_r M l0 22)) ∧ if (mj_i M (mj_r M l0 22) (l1 : Int32).toNatClampNeg) = 0 then (vb_X12_join_28 post l0 l1 (mj_r M l0 22) l1 M) else (mj_tag M (mj_r M l0 23) = 103 ∧ vp_in l1 (mj_len M (mj_r M l0 23)) ∧ if (mj_b l2) = (mj_i M (mj_r M l0 23) (l1 : Int32).toNatClampNeg) then (vb_X12_join_28 post l0 l1 (mj_r M l0 22) l1 M) else (vb_X12_join_29 post l0 l1 (mj_r M l0 22) l1 true M))
set_option maxHeartbeats 4000000 in
set_option maxRecDepth 100000 in
theorem xb_X12_join_29 {g : mj_G} {post : Unit → mj_M → Prop} (hC : mj_C g yX12_join cX12_join 3 (none) rm_X12_join) (hE : mj_E g mj_jV post 0 0) (l0 : Nat) (l1 : Int32) (s0 : Nat) (s1 : Int32) (s2 : Bool) (M : mj_M) (h : vb_X12_join_29 post l0 l1 s0 s1 s2 M) : mj_X g 29 [(0, vR l0), (1, vI l1)] [vI (mj_b s2), vI s1, vR s0] M 0 0 := by
  simp only [vb_X12_join_29] at h
  obtain ⟨ht1, h⟩ := h
  obtain ⟨hi2, h⟩ := h
  refine mx_zastore (b := s2) hC ht1 hi2 dX12_join_29 ?_
  refine mx_aload_n (j := 0) hC dX12_join_30 rfl rfl ?_
  obtain ⟨ht3, h⟩ := h
  refine mx_get (v := vR (mj_r M l0 23)) hC tf_X12_71 ht3 rfl dX12_join_31 ?_
  refine mx_iload_n (j := 1) hC dX12_join_34 rfl rfl ?_
  refine mx_iconst (v := 0) hC dX12_join_35 (by decide) ?_
  obtain ⟨ht4, h⟩ := h
  obtain ⟨hi5, h⟩ := h
  refine mx_zastore (b := false) hC ht4 hi5 dX12_join_36 ?_
  exact mx_vret hC hE rfl dX12_join_37 h
set_option maxHeartbeats 4000000 in
set_option maxRecDepth 100000 in
theorem xb_X12_join_28 {g : mj_G} {post : Unit → mj_M → Prop} (hC : mj_C g yX12_join cX12_join 3 (none) rm_X12_join) (hE : mj_E g mj_jV post 0 0) (l0 : Nat) (l1 : Int32) (s0 : Nat) (s1 : Int32) (M : mj_M) (h : vb_X12_join_28 post l0 l1 s0 s1 M) : mj_X g 28 [(0, vR l0), (1, vI l1)] [vI s1, vR s0] M 0 0 := by
  simp only [vb_X12_join_28] at h
  refine mx_iconst (v := 0) hC dX12_join_28 (by decide) ?_
  refine mx_sub (L' := [(0, vR l0), (1, vI l1)]) [0, 1] rfl ?_
  exact show mj_X g 29 [(0, vR l0), (1, vI l1)] [vI (mj_b false), vI s1, vR s0] M 0 0 from (xb_X12_join_29 hC hE l0 l1 s0 s1 false M h)
set_option maxHeartbeats 4000000 in
set_option maxRecDepth 100000 in
theorem ct_X12_join {l : Launch} {base : Nat} {D : va_G} {A : ClassId × ClassId × ClassId} (l0 : Nat) (l1 : Int32) (l2 : Bool) (M : mj_M) (post : Unit → mj_M → Prop) (h : vc_X12_join l0 l1 l2 M post) : mj_Met l base D A mj_jV yX12_join cX12_join 3 (none) rm_X12_join 0 0 [vR l0, vI l1, vI (mj_b l2)] M post := by
  refine mj_entry (by decide +kernel) (Nat.le_of_ble_eq_true rfl) (fun g hC hE h1 h2 h3 h4 => ?_)
  show mj_X g 0 [(0, vR l0), (1, vI l1), (2, vI (mj_b l2))] [] M 0 0
  simp only [vc_X12_join] at h
  refine mx_aload_n (j := 0) hC dX12_join_0 rfl rfl ?_
  obtain ⟨ht6, h⟩ := h
  refine mx_get (v := vR (mj_r M l0 22)) hC tf_X12_68 ht6 rfl dX12_join_1 ?_
  refine mx_iload_n (j := 1) hC dX12_join_4 rfl rfl ?_
  refine mx_aload_n (j := 0) hC dX12_join_5 rfl rfl ?_
  refine mx_get (v := vR (mj_r M l0 22)) hC tf_X12_68 ht6 rfl dX12_join_6 ?_
  refine mx_iload_n (j := 1) hC dX12_join_9 rfl rfl ?_
  obtain ⟨ht7, h⟩ := h
  obtain ⟨hi8, h⟩ := h
  refine mx_zaload hC ht7 hi8 dX12_join_10 ?_
  refine mx_ifeq (tgt := 28) hC dX12_join_11 (by decide) (fun hc9 => ?_) (fun hc9 => ?_)
  · replace h := mj_yy hc9 h
    refine mx_sub (L' := [(0, vR l0), (1, vI l1)]) [0, 1] rfl ?_
    exact show mj_X g 28 [(0, vR l0), (1, vI l1)] [vI l1, vR (mj_r M l0 22)] M 0 0 from (xb_X12_join_28 hC hE l0 l1 (mj_r M l0 22) l1 M h)
  · replace h := mj_nn hc9 h
    refine mx_iload_n (j := 2) hC dX12_join_14 rfl rfl ?_
    refine mx_aload_n (j := 0) hC dX12_join_15 rfl rfl ?_
    refine mx_get (v := vR (mj_r M l0 23)) hC tf_X12_71 ht6 rfl dX12_join_16 ?_
    refine mx_iload_n (j := 1) hC dX12_join_19 rfl rfl ?_
    obtain ⟨ht10, h⟩ := h
    obtain ⟨hi11, h⟩ := h
    refine mx_zaload hC ht10 hi11 dX12_join_20 ?_
    refine mx_icmpeq (tgt := 28) hC dX12_join_21 (by decide) (fun hc12 => ?_) (fun hc12 => ?_)
    · replace h := mj_yy hc12 h
      refine mx_sub (L' := [(0, vR l0), (1, vI l1)]) [0, 1] rfl ?_
      exact show mj_X g 28 [(0, vR l0), (1, vI l1)] [vI l1, vR (mj_r M l0 22)] M 0 0 from (xb_X12_join_28 hC hE l0 l1 (mj_r M l0 22) l1 M h)
    · replace h := mj_nn hc12 h
      refine mx_iconst (v := 1) hC dX12_join_24 (by decide) ?_
      refine mx_goto (tgt := 29) hC dX12_join_25 (by decide) ?_
      refine mx_sub (L' := [(0, vR l0), (1, vI l1)]) [0, 1] rfl ?_
      exact show mj_X g 29 [(0, vR l0), (1, vI l1)] [vI (mj_b true), vI l1, vR (mj_r M l0 22)] M 0 0 from (xb_X12_join_29 hC hE l0 l1 (mj_r M l0 22) l1 true M h)
